/-! bytes read: class and reference alike -/
def Cur (c : Nat) (nx f a s : Int32) : Prop := (f = 1 ∧ s = 1) ∨ (f = 0 ∧ s = 0 ∧ ∃ n : Nat, 0 < n ∧ n ≤ c ∧ nx = nI n ∧ a = nI n)
def Row (c : Nat) (row fed : Nat → Int32) : Prop := c ≤ 16 ∧ RelR c row fed ∧ ∀ i, i < c → qv 0 255 (row i)
theorem at_eq {c n : Nat} (hc : c ≤ 16) (hn : n < 2 ^ 31) (row : Nat → Int32) : f_X2_at (nI c) row (nI n) = if n < c then row n else -1 := by
  unfold f_X2_at f_X2_at_J5
  rw [if_neg (nI_pos hn)]
  by_cases h : n < c
  · have h1 : ¬ nI c ≤ nI n := nI_ge h (by omega)
    have h2 : ¬ (16 : Int32) ≤ nI n := nI_ge (a := n) (b := 16) (by omega) (by decide)
    rw [if_neg h1, if_neg h2, nI_clamp hn, if_pos h]
  · have h1 : nI c ≤ nI n := nI_le (by omega) hn
    rw [if_pos h1, if_neg h]
theorem oct_eq {c n : Nat} {row fed : Nat → Int32} (hR : Row c row fed) (hn : n < 2 ^ 31) (f : Int32) : f_X3_nextOctet (nI n) f (nI c) row = if n < c then (row n, nI (n + 1), f) else (0, nI n, 1) := by
  unfold f_X3_nextOctet
  rw [at_eq hR.1 hn]
  by_cases h : n < c
  · have h0 : 0 ≤ row n := Int32.le_iff_toInt_le.mpr (hR.2.2 n h).1
    rw [if_pos h, if_pos h, if_pos h0, nI_succ]
  · have h0 : ¬ (0 : Int32) ≤ -1 := by decide
    rw [if_neg h, if_neg h, if_neg h0]
theorem nxt_eq {c n : Nat} (hc : c ≤ 16) (hn : n < 2 ^ 30) (s : Int32) (fed : Nat → Int32) : f_X7_next (nI c) (nI n) s fed = (if n < c then fed n else 0, nI (n + 1), if s = 0 then (if n < c then 0 else 1) else 1) := by
  have key : ∀ t, f_X7_next_J4 (nI c) (nI n) fed t = (if n < c then fed n else 0, nI (n + 1), t) := by
    intro t
    unfold f_X7_next_J4 f_X7_next_J7
    rw [← nI_succ, nI_pred, nI_clamp (by omega)]
    by_cases h : n < c
    · have h1 : ¬ nI c < nI (n + 1) := nI_nlt (by omega) (by omega)
      rw [if_neg h1, if_pos h]
    · have h1 : nI c < nI (n + 1) := nI_lt (by omega) (by omega)
      rw [if_pos h1, if_neg h]
  unfold f_X7_next
  simp only [key]
  by_cases hs : s = 0
  · by_cases h : n < c
    · have h1 : nI n < nI c := nI_lt h (by omega)
      simp only [hs, h, h1, if_true]
    · have h1 : ¬ nI n < nI c := nI_nlt (by omega) (by omega)
      simp only [hs, h, h1, if_true, if_false]
  · simp only [hs, if_false]
theorem nxt_st (g a : Int32) (fed : Nat → Int32) : ∃ v a', f_X7_next g a 1 fed = (v, a', 1) := by
  unfold f_X7_next f_X7_next_J4 f_X7_next_J7
  rw [if_neg (by decide)]
  by_cases h : g < a + 1
  · exact ⟨_, _, by rw [if_pos h]⟩
  · exact ⟨_, _, by rw [if_neg h]⟩
theorem oct_st (nx c : Int32) (row : Nat → Int32) : ∃ v nx', f_X3_nextOctet nx 1 c row = (v, nx', 1) := by
  unfold f_X3_nextOctet
  by_cases h : 0 ≤ f_X2_at c row nx
  · exact ⟨_, _, by rw [if_pos h]⟩
  · exact ⟨_, _, by rw [if_neg h]⟩
theorem cur_next {c : Nat} {row fed : Nat → Int32} (hR : Row c row fed) {nx f a s : Int32} (h : Cur c nx f a s) : ∃ v nx' f' v' a' s', f_X3_nextOctet nx f (nI c) row = (v, nx', f') ∧ f_X7_next (nI c) a s fed = (v', a', s') ∧ Cur c nx' f' a' s' ∧ (f' = 0 → f = 0 ∧ v' = v ∧ ∃ r : Nat, r < 256 ∧ v = nI r) := by
  rcases h with ⟨rfl, rfl⟩ | ⟨rfl, rfl, n, hp0, hn, rfl, rfl⟩
  · obtain ⟨v, nx', e1⟩ := oct_st nx (nI c) row
    obtain ⟨v', a', e2⟩ := nxt_st (nI c) a fed
    exact ⟨v, nx', 1, v', a', 1, e1, e2, Or.inl ⟨rfl, rfl⟩, fun h => absurd h (by decide)⟩
  · have hc := hR.1
    rw [oct_eq hR (by omega), nxt_eq hc (by omega)]
    by_cases h : n < c
    · obtain ⟨r, e, h1, h2⟩ := qv_nI (hR.2.2 n h) (by decide)
      refine ⟨row n, nI (n + 1), 0, fed n, nI (n + 1), 0, by rw [if_pos h], by simp only [h, if_true], Or.inr ⟨rfl, rfl, n + 1, by omega, by omega, rfl, rfl⟩, fun _ => ⟨rfl, (hR.2.1 n h).symm, r, by omega, e⟩⟩
    · exact ⟨0, nI n, 1, 0, nI (n + 1), 1, by rw [if_neg h], by simp only [h, if_true, if_false], Or.inl ⟨rfl, rfl⟩, fun h => absurd h (by decide)⟩
def rawN (row : Nat → Int32) (n : Nat) : Nat → Int64
  | 0 => 0
  | i + 1 => rawN row n i ||| (((row (n + i)).toInt64) <<< ((((8 : Int32) * nI i)).toInt64 &&& 63))
def sxt (w : Int32) (V : Int64) : Int64 := (V <<< ((((64 : Int32) - ((8 : Int32) * w))).toInt64 &&& 63)) >>> ((((64 : Int32) - ((8 : Int32) * w))).toInt64 &&& 63)
def finC (sg w : Int32) (V : Int64) : Int64 := if sg = 0 then V else if w < 1 then V else if w ≤ 7 then sxt w V else V
def finR (w : Int32) (V : Int64) : Int64 := if w = 0 then V else if w = 8 then V else sxt w V
def NumI (c i : Nat) (row : Nat → Int32) (nx f a s : Int32) (V V' : Int64) : Prop := (f = 1 ∧ s = 1) ∨ (f = 0 ∧ s = 0 ∧ ∃ n0 : Nat, 0 < n0 ∧ n0 + i ≤ c ∧ nx = nI (n0 + i) ∧ a = nI (n0 + i) ∧ V = rawN row n0 i ∧ V' = V)
theorem num_one {c i : Nat} {row fed : Nat → Int32} (hR : Row c row fed) {nx f a s : Int32} {V V' : Int64} (h : NumI c i row nx f a s V V') :
    ∃ v nx' f' v' a' s', f_X3_nextOctet nx f (nI c) row = (v, nx', f') ∧ f_X7_next (nI c) a s fed = (v', a', s') ∧ NumI c (i + 1) row nx' f' a' s' (V ||| ((v.toInt64) <<< ((((8 : Int32) * nI i)).toInt64 &&& 63))) (V' ||| ((v'.toInt64) <<< ((((8 : Int32) * nI i)).toInt64 &&& 63))) ∧ (f' = 0 → f = 0) := by
  rcases h with ⟨rfl, rfl⟩ | ⟨rfl, rfl, n0, hp0, hn, rfl, rfl, rfl, rfl⟩
  · obtain ⟨v, nx', e1⟩ := oct_st nx (nI c) row
    obtain ⟨v', a', e2⟩ := nxt_st (nI c) a fed
    exact ⟨v, nx', 1, v', a', 1, e1, e2, Or.inl ⟨rfl, rfl⟩, fun h => absurd h (by decide)⟩
  · have hc := hR.1
    rw [oct_eq hR (by omega), nxt_eq hc (by omega)]
    by_cases h : n0 + i < c
    · exact ⟨row (n0 + i), nI (n0 + i + 1), 0, fed (n0 + i), nI (n0 + i + 1), 0, by rw [if_pos h], by simp only [h, if_true], Or.inr ⟨rfl, rfl, n0, hp0, by omega, rfl, rfl, rfl, by rw [hR.2.1 _ h]⟩, fun _ => rfl⟩
    · exact ⟨0, nI (n0 + i), 1, 0, nI (n0 + i + 1), 1, by rw [if_neg h], by simp only [h, if_true, if_false], Or.inl ⟨rfl, rfl⟩, fun _ => rfl⟩
theorem num_step {c : Nat} {row fed : Nat → Int32} (hR : Row c row fed) (sg : Int32) {w : Nat} (hw : w ≤ 8) : ∀ (m i k1 k2 : Nat) (V V' : Int64) (nx f a s : Int32), i + m = w → m < k1 → m < k2 → NumI c i row nx f a s V V' →
    ∃ nx' f' a' s' V1 V1', f_X3_nextNumber_L13 (nI c) row (nI w) sg k1 (nI i) V nx f = (finC sg (nI w) V1, nx', f') ∧ f_X7_take_L14 (nI c) fed (nI w) k2 (nI i) V' a s = (finR (nI w) V1', a', s') ∧ NumI c w row nx' f' a' s' V1 V1' ∧ (f' = 0 → f = 0) := by
  intro m
  induction m with
  | zero =>
    intro i k1 k2 V V' nx f a s hi h1 h2 hI
    obtain ⟨p, rfl⟩ : ∃ p, k1 = p + 1 := ⟨k1 - 1, by omega⟩
    obtain ⟨q, rfl⟩ : ∃ q, k2 = q + 1 := ⟨k2 - 1, by omega⟩
    have hiw : i = w := by omega
    subst hiw
    have hc : nI i ≤ nI i := nI_le (by omega) (by omega)
    refine ⟨nx, f, a, s, V, V', ?_, ?_, hI, id⟩
    · rw [f_X3_nextNumber_L13, if_pos hc]
      unfold finC sxt
      by_cases g1 : sg = 0
      · rw [if_pos g1, if_pos g1]
      · rw [if_neg g1, if_neg g1]
        by_cases g2 : nI i < 1
        · rw [if_pos g2, if_pos g2]
        · rw [if_neg g2, if_neg g2]
          by_cases g3 : nI i ≤ 7
          · rw [if_pos g3, if_pos g3]
          · rw [if_neg g3, if_neg g3]
    · rw [f_X7_take_L14, if_pos hc]
      unfold finR sxt f_X7_take_J13
      by_cases g1 : nI i = 0
      · rw [if_pos g1, if_pos g1]
      · rw [if_neg g1, if_neg g1]
        by_cases g2 : nI i = 8
        · rw [if_pos g2, if_pos g2]
        · rw [if_neg g2, if_neg g2]
  | succ m ih =>
    intro i k1 k2 V V' nx f a s hi h1 h2 hI
    obtain ⟨p, rfl⟩ : ∃ p, k1 = p + 1 := ⟨k1 - 1, by omega⟩
    obtain ⟨q, rfl⟩ : ∃ q, k2 = q + 1 := ⟨k2 - 1, by omega⟩
    have hc : ¬ nI w ≤ nI i := nI_ge (by omega) (by omega)
    rw [f_X3_nextNumber_L13, f_X7_take_L14, if_neg hc, if_neg hc]
    obtain ⟨v, nx', f', v', a', s', e1, e2, hI', hst⟩ := num_one hR hI
    rw [e1, e2]
    dsimp only
    rw [← nI_succ]
    obtain ⟨n1, f1, a1, s1, V1, V1', g1, g2, g3, g4⟩ := ih (i + 1) p q _ _ _ _ _ _ (by omega) (by omega) (by omega) hI'
    exact ⟨n1, f1, a1, s1, V1, V1', g1, g2, g3, fun h => hst (g4 h)⟩
theorem cur_num {c : Nat} {row fed : Nat → Int32} (hR : Row c row fed) (sg : Int32) {w : Nat} (hw : w ≤ 8) {nx f a s : Int32} (h : Cur c nx f a s) :
    ∃ nx' f' a' s' V V', f_X3_nextNumber nx f (nI c) row (nI w) sg = (finC sg (nI w) V, nx', f') ∧ f_X7_take (nI c) a s fed (nI w) = (finR (nI w) V', a', s') ∧ NumI c w row nx' f' a' s' V V' ∧ (f' = 0 → f = 0) := by
  unfold f_X3_nextNumber f_X7_take
  have hz : ((nI w).toInt - (0 : Int32).toInt).toNat + 1 = w + 1 := by
    rw [nI_toInt (by omega)]
    show ((w : Int) - 0).toNat + 1 = w + 1
    omega
  rw [hz, ← nI_0]
  refine num_step hR sg hw w 0 (w + 1) (w + 1) 0 0 nx f a s (by omega) (by omega) (by omega) ?_
  rcases h with h | ⟨h1, h2, n, h0, h3, h4, h5⟩
  · exact Or.inl h
  · exact Or.inr ⟨h1, h2, n, h0, h3, h4, h5, rfl, rfl⟩
theorem NumI.cur {c w : Nat} {row : Nat → Int32} {nx f a s : Int32} {V V' : Int64} (h : NumI c w row nx f a s V V') : Cur c nx f a s := by
  rcases h with h | ⟨h1, h2, n, h0, h3, h4, h5, -, -⟩
  · exact Or.inl h
  · exact Or.inr ⟨h1, h2, n + w, by omega, h3, h4, h5⟩
theorem NumI.val {c w : Nat} {row : Nat → Int32} {nx f a s : Int32} {V V' : Int64} (h : NumI c w row nx f a s V V') (hf : f = 0) : ∃ n0, n0 + w ≤ c ∧ V = rawN row n0 w ∧ V' = rawN row n0 w := by
  rcases h with ⟨h, -⟩ | ⟨h1, h2, n, h0, h3, h4, h5, h6, h7⟩
  · rw [hf] at h
    exact absurd h (by decide)
  · exact ⟨n, h3, h6, by rw [h7, h6]⟩
theorem fin_s {w : Nat} (hw : w = 0 ∨ w = 1 ∨ w = 4 ∨ w = 8) (V : Int64) : finC 1 (nI w) V = finR (nI w) V := by
  unfold finC finR
  rcases hw with rfl | rfl | rfl | rfl
  · rw [if_neg (by decide), if_pos (by decide), if_pos (by decide)]
  · rw [if_neg (by decide), if_neg (by decide), if_pos (by decide), if_neg (by decide), if_neg (by decide)]
  · rw [if_neg (by decide), if_neg (by decide), if_pos (by decide), if_neg (by decide), if_neg (by decide)]
  · rw [if_neg (by decide), if_neg (by decide), if_neg (by decide), if_neg (by decide), if_pos (by decide)]
theorem tb_256 {p : Nat → Bool} (h : (List.range 256).all p = true) {j : Nat} (hj : j < 256) : p j = true := List.all_eq_true.mp h j (List.mem_range.mpr hj)
theorem byte1 {r : Nat} (hr : r < 256) : (0 : Int64) ||| (((nI r).toInt64) <<< ((((8 : Int32) * nI 0)).toInt64 &&& 63)) = sxt 1 ((0 : Int64) ||| (((nI r).toInt64) <<< ((((8 : Int32) * nI 0)).toInt64 &&& 63))) &&& 255 := by
  have := tb_256 (p := fun r => decide ((0 : Int64) ||| (((nI r).toInt64) <<< ((((8 : Int32) * nI 0)).toInt64 &&& 63)) = sxt 1 ((0 : Int64) ||| (((nI r).toInt64) <<< ((((8 : Int32) * nI 0)).toInt64 &&& 63))) &&& 255)) (by decide +kernel) hr
  simpa using this
theorem byte2a {r : Nat} (hr : r < 256) : ((0 : Int64) ||| (((nI r).toInt64) <<< ((((8 : Int32) * nI 0)).toInt64 &&& 63))) &&& 65535 = (0 : Int64) ||| (((nI r).toInt64) <<< ((((8 : Int32) * nI 0)).toInt64 &&& 63)) := by
  have := tb_256 (p := fun r => decide (((0 : Int64) ||| (((nI r).toInt64) <<< ((((8 : Int32) * nI 0)).toInt64 &&& 63))) &&& 65535 = (0 : Int64) ||| (((nI r).toInt64) <<< ((((8 : Int32) * nI 0)).toInt64 &&& 63)))) (by decide +kernel) hr
  exact of_decide_eq_true this
theorem byte2b {r : Nat} (hr : r < 256) : (((nI r).toInt64) <<< ((((8 : Int32) * nI 1)).toInt64 &&& 63)) &&& 65535 = ((nI r).toInt64) <<< ((((8 : Int32) * nI 1)).toInt64 &&& 63) := by
  have := tb_256 (p := fun r => decide ((((nI r).toInt64) <<< ((((8 : Int32) * nI 1)).toInt64 &&& 63)) &&& 65535 = ((nI r).toInt64) <<< ((((8 : Int32) * nI 1)).toInt64 &&& 63))) (by decide +kernel) hr
  exact of_decide_eq_true this
theorem or_and (a b m : Int64) : (a ||| b) &&& m = (a &&& m) ||| (b &&& m) := by
  apply Int64.toBitVec_inj.mp
  rw [Int64.toBitVec_and, Int64.toBitVec_or, Int64.toBitVec_or, Int64.toBitVec_and, Int64.toBitVec_and]
  apply BitVec.eq_of_getLsbD_eq
  intro i hi
  simp only [BitVec.getLsbD_and, BitVec.getLsbD_or, Bool.and_or_distrib_right]
theorem sxt2 (V : Int64) : sxt 2 V &&& 65535 = V &&& 65535 := by
  unfold sxt
  have e : (((64 : Int32) - ((8 : Int32) * 2)).toInt64 &&& 63) = 48 := by decide
  rw [e]
  apply Int64.toBitVec_inj.mp
  rw [Int64.toBitVec_and, Int64.toBitVec_and, Int64.toBitVec_shiftRight, Int64.toBitVec_shiftLeft, BitVec.sshiftRight_eq', BitVec.shiftLeft_eq']
  have e2 : ((48 : Int64).toBitVec.smod 64).toNat = 48 := by decide
  rw [e2]
  apply BitVec.eq_of_getLsbD_eq
  intro i hi
  have hm : (65535 : Int64).toBitVec.getLsbD i = decide (i < 16) := by
    have : ∀ i, i < 64 → (65535 : Int64).toBitVec.getLsbD i = decide (i < 16) := by decide
    exact this i hi
  simp only [BitVec.getLsbD_and, hm]
  by_cases h : i < 16
  · have g1 : ¬ 64 ≤ i := by omega
    have g2 : 48 + i < 64 := by omega
    have g3 : ¬ 48 + i < 48 := by omega
    have g4 : 48 + i - 48 = i := by omega
    simp [BitVec.getLsbD_sshiftRight, BitVec.getLsbD_shiftLeft, g1, g2, g3, g4, h]
    exact (BitVec.getLsbD_eq_getElem hi).symm
  · simp [h]
theorem fin_u1 {c n0 : Nat} {row fed : Nat → Int32} (hR : Row c row fed) (h : n0 + 1 ≤ c) : finC 0 (nI 1) (rawN row n0 1) = finR (nI 1) (rawN row n0 1) &&& 255 := by
  obtain ⟨r, e, h1, h2⟩ := qv_nI (hR.2.2 n0 (by omega)) (by decide)
  have hr : row (n0 + 0) = nI r := e
  show (0 : Int64) ||| (((row (n0 + 0)).toInt64) <<< ((((8 : Int32) * nI 0)).toInt64 &&& 63)) = sxt 1 ((0 : Int64) ||| (((row (n0 + 0)).toInt64) <<< ((((8 : Int32) * nI 0)).toInt64 &&& 63))) &&& 255
  rw [hr]
  exact byte1 (by omega)
theorem fin_u2 {c n0 : Nat} {row fed : Nat → Int32} (hR : Row c row fed) (h : n0 + 2 ≤ c) : finC 0 (nI 2) (rawN row n0 2) = finR (nI 2) (rawN row n0 2) &&& 65535 := by
  obtain ⟨r, e, h1, h2⟩ := qv_nI (hR.2.2 n0 (by omega)) (by decide)
  obtain ⟨r', e', h1', h2'⟩ := qv_nI (hR.2.2 (n0 + 1) (by omega)) (by decide)
  have hr : row (n0 + 0) = nI r := e
  show rawN row n0 2 = sxt 2 (rawN row n0 2) &&& 65535
  rw [sxt2]
  show ((0 : Int64) ||| (((row (n0 + 0)).toInt64) <<< ((((8 : Int32) * nI 0)).toInt64 &&& 63))) ||| (((row (n0 + 1)).toInt64) <<< ((((8 : Int32) * nI 1)).toInt64 &&& 63)) = (((0 : Int64) ||| (((row (n0 + 0)).toInt64) <<< ((((8 : Int32) * nI 0)).toInt64 &&& 63))) ||| (((row (n0 + 1)).toInt64) <<< ((((8 : Int32) * nI 1)).toInt64 &&& 63))) &&& 65535
  rw [hr, e', or_and, byte2a (by omega), byte2b (by omega)]
