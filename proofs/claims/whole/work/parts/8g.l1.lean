/-! the plain operations: class and reference alike -/
theorem in3 {p : Int32} (h1 : ¬ p < 0) (h2 : ¬ 3 ≤ p) : p = 0 ∨ p = 1 ∨ p = 2 := by
  have a1 : ¬ p.toInt < 0 := fun h => h1 (Int32.lt_iff_toInt_lt.mpr (by simpa using h))
  have a2 : ¬ 3 ≤ p.toInt := fun h => h2 (Int32.le_iff_toInt_le.mpr (by rw [show ((3 : Int32)).toInt = 3 from by decide]; exact h))
  rcases (show p.toInt = 0 ∨ p.toInt = 1 ∨ p.toInt = 2 by omega) with h | h | h
  · exact Or.inl (Int32.toInt_inj.mp h)
  · exact Or.inr (Or.inl (Int32.toInt_inj.mp h))
  · exact Or.inr (Or.inr (Int32.toInt_inj.mp h))
theorem op_eq {F kf rf : Nat → Int32} {op size cond b i s d : Int32} (hF : RelF F op size cond kf rf b i s d) (p0 p1 p2 : Int32) :
    ∃ kf' rf' F', f_X6_op kf rf p0 p1 p2 = (p0, p1, p2, kf', rf') ∧ f_X7_op F p0 p1 p2 = (0, F') ∧ RelF F' p0 p1 p2 kf' rf' b i s d ∧ WfK kf' rf' := by
  obtain ⟨f0, f1, f2, f3, f4, f5, f6, f7, f8, f9, f10, f11, f12⟩ := hF
  have e : f_X6_op kf rf p0 p1 p2 = (p0, p1, p2, upd (upd (upd kf 0 0) 1 0) 2 0, upd (upd (upd rf 0 0) 1 0) 2 0) := by
    unfold f_X6_op f_X0_begin
    rw [setOp (k := 0) (Or.inl rfl)]
    dsimp only
    rw [setOp (k := 1) (Or.inr (Or.inl rfl))]
    dsimp only
    rw [setOp (k := 2) (Or.inr (Or.inr rfl))]
    rfl
  refine ⟨_, _, _, e, rfl, ⟨rfl, rfl, rfl, rfl, rfl, rfl, rfl, rfl, rfl, f9, f10, f11, f12⟩, Or.inl ⟨rfl, rfl⟩, Or.inl ⟨rfl, rfl⟩, Or.inl ⟨rfl, rfl⟩⟩
theorem okKR_in {κ ρ : Int32} (h0 : ¬ κ < 0) (h3 : κ ≤ 3) (r0 : ¬ ρ < 0) (h1 : κ = 1 → ρ ≤ 15) (h2 : ¬ κ = 1 → ρ ≤ 0) : okKR κ ρ := by
  have a1 : ¬ κ.toInt < 0 := fun h => h0 (Int32.lt_iff_toInt_lt.mpr (by simpa using h))
  have a2 : κ.toInt ≤ 3 := Int32.le_iff_toInt_le.mp h3
  have b1 : ¬ ρ.toInt < 0 := fun h => r0 (Int32.lt_iff_toInt_lt.mpr (by simpa using h))
  have z : ¬ κ = 1 → ρ = 0 := fun h => by
    have c1 : ρ.toInt ≤ 0 := Int32.le_iff_toInt_le.mp (h2 h)
    exact Int32.toInt_inj.mp (show ρ.toInt = 0 by omega)
  rcases (show κ.toInt = 0 ∨ κ.toInt = 1 ∨ κ.toInt = 2 ∨ κ.toInt = 3 by omega) with h | h | h | h
  · have e : κ = 0 := Int32.toInt_inj.mp h
    exact Or.inl ⟨e, z (by rw [e]; decide)⟩
  · have e : κ = 1 := Int32.toInt_inj.mp h
    have c1 : ρ.toInt ≤ 15 := Int32.le_iff_toInt_le.mp (h1 e)
    exact Or.inr (Or.inl ⟨e, by omega, c1⟩)
  · have e : κ = 2 := Int32.toInt_inj.mp h
    exact Or.inr (Or.inr (Or.inl ⟨e, z (by rw [e]; decide)⟩))
  · have e : κ = 3 := Int32.toInt_inj.mp h
    exact Or.inr (Or.inr (Or.inr ⟨e, z (by rw [e]; decide)⟩))
theorem operand_set {F kf rf : Nat → Int32} {op size cond b i s d : Int32} (hF : RelF F op size cond kf rf b i s d) (hK : WfK kf rf) {p0 p1 p2 : Int32} (hp : p0 = 0 ∨ p0 = 1 ∨ p0 = 2) (ho : okKR p1 p2) :
    RelF (upd (upd F (((3 : Int32) + ((2 : Int32) * p0))).toNatClampNeg p1) (((4 : Int32) + ((2 : Int32) * p0))).toNatClampNeg p2) op size cond (upd kf p0.toNatClampNeg p1) (upd rf p0.toNatClampNeg p2) b i s d ∧ WfK (upd kf p0.toNatClampNeg p1) (upd rf p0.toNatClampNeg p2) := by
  obtain ⟨f0, f1, f2, f3, f4, f5, f6, f7, f8, f9, f10, f11, f12⟩ := hF
  obtain ⟨k0, k1, k2⟩ := hK
  rcases hp with rfl | rfl | rfl
  · rw [show (((3 : Int32) + ((2 : Int32) * 0))).toNatClampNeg = 3 from by decide, show (((4 : Int32) + ((2 : Int32) * 0))).toNatClampNeg = 4 from by decide, show (0 : Int32).toNatClampNeg = 0 from by decide]
    exact ⟨⟨f0, f1, f2, rfl, rfl, f5, f6, f7, f8, f9, f10, f11, f12⟩, ho, k1, k2⟩
  · rw [show (((3 : Int32) + ((2 : Int32) * 1))).toNatClampNeg = 5 from by decide, show (((4 : Int32) + ((2 : Int32) * 1))).toNatClampNeg = 6 from by decide, show (1 : Int32).toNatClampNeg = 1 from by decide]
    exact ⟨⟨f0, f1, f2, f3, f4, rfl, rfl, f7, f8, f9, f10, f11, f12⟩, k0, ho, k2⟩
  · rw [show (((3 : Int32) + ((2 : Int32) * 2))).toNatClampNeg = 7 from by decide, show (((4 : Int32) + ((2 : Int32) * 2))).toNatClampNeg = 8 from by decide, show (2 : Int32).toNatClampNeg = 2 from by decide]
    exact ⟨⟨f0, f1, f2, f3, f4, f5, f6, rfl, rfl, f9, f10, f11, f12⟩, k0, k1, ho⟩
theorem operand_eq {F kf rf : Nat → Int32} {op size cond b i s d : Int32} (hF : RelF F op size cond kf rf b i s d) (hK : WfK kf rf) (p0 p1 p2 : Int32) :
    ∃ r kf' rf' F', f_X6_operand kf rf p0 p1 p2 = (r, kf', rf') ∧ f_X7_operand F p0 p1 p2 = (r, 0, F') ∧ RelF F' op size cond kf' rf' b i s d ∧ WfK kf' rf' := by
  unfold f_X6_operand f_X7_operand f_X6_operand_J7 f_X7_operand_J8
  by_cases h1 : p0 < 0
  · rw [if_pos h1, if_pos h1]; exact ⟨_, _, _, _, rfl, rfl, hF, hK⟩
  rw [if_neg h1, if_neg h1]
  by_cases h2 : 3 ≤ p0
  · have h2' : 2 < p0 := by
      have := Int32.le_iff_toInt_le.mp h2
      apply Int32.lt_iff_toInt_lt.mpr
      rw [show ((2 : Int32)).toInt = 2 from by decide]
      rw [show ((3 : Int32)).toInt = 3 from by decide] at this
      omega
    rw [if_pos h2, if_pos h2']; exact ⟨_, _, _, _, rfl, rfl, hF, hK⟩
  have h2' : ¬ 2 < p0 := fun h => h2 (by
      have := Int32.lt_iff_toInt_lt.mp h
      apply Int32.le_iff_toInt_le.mpr
      rw [show ((2 : Int32)).toInt = 2 from by decide] at this
      rw [show ((3 : Int32)).toInt = 3 from by decide]
      omega)
  rw [if_neg h2, if_neg h2']
  by_cases h3 : p1 < 0
  · rw [if_pos h3, if_pos h3]; exact ⟨_, _, _, _, rfl, rfl, hF, hK⟩
  rw [if_neg h3, if_neg h3]
  by_cases h4 : p1 ≤ 3
  · have h4' : ¬ 3 < p1 := fun h => by
      have a := Int32.lt_iff_toInt_lt.mp h
      have b := Int32.le_iff_toInt_le.mp h4
      omega
    rw [if_pos h4, if_neg h4']
    have hp := in3 h1 h2
    by_cases h5 : p2 < 0
    · rw [if_pos h5, if_pos h5, if_pos h5]
      by_cases h6 : p1 = 1
      · rw [if_pos h6]; exact ⟨_, _, _, _, rfl, rfl, hF, hK⟩
      · rw [if_neg h6]; exact ⟨_, _, _, _, rfl, rfl, hF, hK⟩
    · rw [if_neg h5, if_neg h5, if_neg h5]
      by_cases h6 : p1 = 1
      · rw [if_pos h6, if_pos h6]
        by_cases h7 : p2 ≤ 15
        · rw [if_pos h7, if_pos h7, setOp hp]
          obtain ⟨g1, g2⟩ := operand_set hF hK hp (okKR_in h3 h4 h5 (fun _ => h7) (fun h => absurd h6 h))
          exact ⟨_, _, _, _, rfl, rfl, g1, g2⟩
        · rw [if_neg h7, if_neg h7]; exact ⟨_, _, _, _, rfl, rfl, hF, hK⟩
      · rw [if_neg h6, if_neg h6]
        by_cases h7 : p2 ≤ 0
        · rw [if_pos h7, if_pos h7, setOp hp]
          obtain ⟨g1, g2⟩ := operand_set hF hK hp (okKR_in h3 h4 h5 (fun h => absurd h h6) (fun _ => h7))
          exact ⟨_, _, _, _, rfl, rfl, g1, g2⟩
        · rw [if_neg h7, if_neg h7]; exact ⟨_, _, _, _, rfl, rfl, hF, hK⟩
  · have h4' : 3 < p1 := by
      apply Int32.lt_iff_toInt_lt.mpr
      have : ¬ p1.toInt ≤ (3 : Int32).toInt := fun h => h4 (Int32.le_iff_toInt_le.mpr h)
      omega
    rw [if_neg h4, if_pos h4']; exact ⟨_, _, _, _, rfl, rfl, hF, hK⟩
theorem memory_eq {F kf rf : Nat → Int32} {op size cond b i s d : Int32} (hF : RelF F op size cond kf rf b i s d) (p0 p1 p2 p3 : Int32) :
    ∃ F', f_X6_memory p0 p1 p2 p3 = (p0, p1, p2, p3) ∧ f_X7_memory F p0 p1 p2 p3 = (0, F') ∧ RelF F' op size cond kf rf p0 p1 p2 p3 := by
  obtain ⟨f0, f1, f2, f3, f4, f5, f6, f7, f8, f9, f10, f11, f12⟩ := hF
  exact ⟨_, rfl, rfl, f0, f1, f2, f3, f4, f5, f6, f7, f8, rfl, rfl, rfl, rfl⟩
theorem octet_eq {n : Nat} (hn : n ≤ 16) {row by0 : Nat → Int32} (hR : RelR n row by0) (p : Int32) : ∃ r, f_X6_octet (nI n) row p = r ∧ f_X7_octet (nI n) by0 p = (r, 0) := by
  unfold f_X6_octet f_X7_octet f_X2_at f_X2_at_J5 f_X7_octet_J4
  by_cases h1 : p < 0
  · exact ⟨-1, by rw [if_pos h1], by rw [if_pos h1]⟩
  by_cases h2 : nI n ≤ p
  · exact ⟨-1, by rw [if_neg h1, if_pos h2], by rw [if_neg h1, if_pos h2]⟩
  obtain ⟨k, hk, rfl⟩ := nI_of h1
  have hkn : k < n := by
    apply Decidable.byContradiction
    intro hh
    exact h2 (nI_le (by omega) hk)
  have h3 : ¬ (16 : Int32) ≤ nI k := nI_ge (a := k) (b := 16) (by omega) (by decide)
  exact ⟨row k, by rw [if_neg h1, if_neg h2, if_neg h3, nI_clamp hk], by rw [if_neg h1, if_neg h2, nI_clamp hk, hR k hkn]⟩
theorem m255 (x : Int64) : ((x &&& 255).toInt32) &&& 255 = (x &&& 255).toInt32 := by
  apply Int32.toBitVec_inj.mp
  rw [Int32.toBitVec_and, Int64.toBitVec_toInt32, Int64.toBitVec_and]
  apply BitVec.eq_of_getLsbD_eq
  intro i hi
  have h255 : (255 : Int32).toBitVec.getLsbD i = decide (i < 8) := by
    have : ∀ i, i < 32 → (255 : Int32).toBitVec.getLsbD i = decide (i < 8) := by decide
    exact this i hi
  have h256 : (255 : Int64).toBitVec.getLsbD i = decide (i < 8) := by
    have : ∀ i, i < 32 → (255 : Int64).toBitVec.getLsbD i = decide (i < 8) := by decide
    exact this i hi
  have e0 : i < 64 := by omega
  simp only [BitVec.getLsbD_and, BitVec.getLsbD_signExtend, h255, h256, hi, e0, if_true, decide_true, Bool.true_and]
  cases decide (i < 8) <;> cases x.toBitVec.getLsbD i <;> rfl
theorem q255 (y : Int32) : qv 0 255 (y &&& 255) := by
  have h1 : (y &&& 255).toBitVec.toNat ≤ 255 := by
    rw [Int32.toBitVec_and, BitVec.toNat_and]
    exact Nat.le_trans Nat.and_le_right (by decide)
  have h2 : (y &&& 255).toInt = ((y &&& 255).toBitVec.toNat : Int) := by
    show (y &&& 255).toBitVec.toInt = _
    rw [BitVec.toInt_eq_toNat_cond, if_pos (by omega)]
  constructor <;> omega
theorem feed_loop (v : Int64) : ∀ (k fuel c : Nat) (row fed : Nat → Int32), k ≤ 8 → k < fuel → c + k ≤ 16 → Row c row fed → (∀ j, qv 0 255 (fed j)) →
    ∃ row' fed', f_X6_feed_L11 v fuel (nI k - 1) (nI c) row = (1, nI (c + k), row') ∧ f_X7_feed_L8 v fuel (nI k - 1) (nI c) fed = (1, 0, nI (c + k), fed') ∧ Row (c + k) row' fed' ∧ ∀ j, qv 0 255 (fed' j) := by
  intro k
  induction k with
  | zero =>
    intro fuel c row fed _ hf _ hR hq
    obtain ⟨n, rfl⟩ : ∃ n, fuel = n + 1 := ⟨fuel - 1, by omega⟩
    have h : nI 0 - 1 < 0 := by decide
    rw [f_X6_feed_L11, f_X7_feed_L8, if_pos h, if_pos h]
    exact ⟨_, _, rfl, rfl, hR, hq⟩
  | succ k ih =>
    intro fuel c row fed hk hf hc hR hq
    obtain ⟨n, rfl⟩ : ∃ n, fuel = n + 1 := ⟨fuel - 1, by omega⟩
    rw [nI_pred, f_X6_feed_L11, f_X7_feed_L8, if_neg (nI_pos (by omega)), if_neg (nI_pos (by omega)), app_eq (by omega)]
    dsimp only
    rw [by8 v (by omega), m255, nI_clamp (show c < 2 ^ 31 by omega), ← nI_succ, show nI k + (-1 : Int32) = nI k - 1 from (Int32.sub_eq_add_neg _ _).symm]
    have hv : qv 0 255 (((v >>> (((8 : Int32) * nI k).toInt64 &&& 63)) &&& (255 : Int64)).toInt32) := by
      rw [← m255]; exact q255 _
    have hR' : Row (c + 1) (upd row c (((v >>> (((8 : Int32) * nI k).toInt64 &&& 63)) &&& (255 : Int64)).toInt32)) (upd fed c (((v >>> (((8 : Int32) * nI k).toInt64 &&& 63)) &&& (255 : Int64)).toInt32)) := by
      refine ⟨by omega, relR_upd hR.2.1 rfl, fun i hi => ?_⟩
      unfold upd
      by_cases he : i = c
      · rw [if_pos he]; exact hv
      · rw [if_neg he]; exact hR.2.2 i (by omega)
    have hq' : ∀ j, qv 0 255 ((upd fed c (((v >>> (((8 : Int32) * nI k).toInt64 &&& 63)) &&& (255 : Int64)).toInt32)) j) := by
      intro j
      unfold upd
      by_cases he : j = c
      · rw [if_pos he]; exact hv
      · rw [if_neg he]; exact hq j
    obtain ⟨row', fed', e1, e2, e3, e4⟩ := ih n (c + 1) _ _ (by omega) (by omega) (by omega) hR' hq'
    rw [show c + (k + 1) = c + 1 + k by omega]
    exact ⟨row', fed', e1, e2, e3, e4⟩
theorem feed_eq {c : Nat} {row fed : Nat → Int32} (hR : Row c row fed) (hq : ∀ j, qv 0 255 (fed j)) (v : Int64) (p : Int32) :
    ∃ r c' row' fed', f_X6_feed (nI c) row v p = (r, nI c', row') ∧ f_X7_feed (nI c) fed v p = (r, 0, nI c', fed') ∧ Row c' row' fed' ∧ ∀ j, qv 0 255 (fed' j) := by
  have hc := hR.1
  unfold f_X6_feed f_X7_feed f_X2_room
  by_cases h1 : p < 1
  · rw [if_pos h1, if_pos h1]; exact ⟨_, c, _, _, rfl, rfl, hR, hq⟩
  rw [if_neg h1, if_neg h1]
  by_cases h2 : 8 < p
  · rw [if_pos h2, if_pos h2]; exact ⟨_, c, _, _, rfl, rfl, hR, hq⟩
  rw [if_neg h2, if_neg h2]
  have a1 : ¬ p.toInt < 1 := fun h => h1 (Int32.lt_iff_toInt_lt.mpr (by rw [show ((1 : Int32)).toInt = 1 from by decide]; exact h))
  have a2 : ¬ 8 < p.toInt := fun h => h2 (Int32.lt_iff_toInt_lt.mpr (by rw [show ((8 : Int32)).toInt = 8 from by decide]; exact h))
  have h0 : ¬ p < 0 := fun h => by
    have := Int32.lt_iff_toInt_lt.mp h
    rw [show ((0 : Int32)).toInt = 0 from by decide] at this
    omega
  obtain ⟨k0, hk0, rfl⟩ := nI_of h0
  rw [nI_toInt hk0] at a1 a2
  obtain ⟨k, rfl⟩ : ∃ k, k0 = k + 1 := ⟨k0 - 1, by omega⟩
  have hs : (16 : Int32) - nI c = nI (16 - c) := (show ∀ c, c < 17 → (16 : Int32) - nI c = nI (16 - c) by decide) c (by omega)
  rw [hs, nI_add]
  by_cases h3 : c + (k + 1) ≤ 16
  · rw [if_pos (nI_le (show k + 1 ≤ 16 - c by omega) (by omega)), if_pos (show nI (c + (k + 1)) ≤ 16 from nI_le (a := c + (k + 1)) (b := 16) h3 (by decide))]
    have hf : k + 1 < ((nI (k + 1) - 1).toInt + 1).toNat + 1 := by
      rw [nI_pred, nI_toInt (by omega)]
      omega
    obtain ⟨row', fed', e1, e2, e3, e4⟩ := feed_loop v (k + 1) _ c row fed (by omega) hf h3 hR hq
    exact ⟨1, _, row', fed', e1, e2, e3, e4⟩
  · rw [if_neg (nI_ge (show 16 - c < k + 1 by omega) (by omega)), if_neg (show ¬ nI (c + (k + 1)) ≤ 16 from nI_ge (a := 16) (b := c + (k + 1)) (by omega) (by omega))]
    exact ⟨_, c, _, _, rfl, rfl, hR, hq⟩
theorem field_eq {F kf rf : Nat → Int32} {op size cond b i s d : Int32} (hF : RelF F op size cond kf rf b i s d) (p : Int32) :
    ∃ r, f_X6_field op size cond kf rf b i s d p = r ∧ f_X7_field F p = (r, 0) := by
  obtain ⟨f0, f1, f2, f3, f4, f5, f6, f7, f8, f9, f10, f11, f12⟩ := hF
  unfold f_X6_field f_X7_field f_X7_field_J4
  have go : ∀ (k : Nat) (x : Int32), k < 13 → F k = x → (if nI k < 0 then ((0 : Int32), (0 : Int32)) else (if (13 : Int32) ≤ nI k then ((0 : Int32), (0 : Int32)) else (F (nI k).toNatClampNeg, (0 : Int32)))) = (x, 0) := by
    intro k x hk hx
    rw [if_neg (nI_pos (by omega)), if_neg (show ¬ (13 : Int32) ≤ nI k from nI_ge (a := k) (b := 13) hk (by decide)), nI_clamp (by omega), hx]
  by_cases h0 : p = 0
  · subst h0; exact ⟨op, rfl, go 0 op (by decide) f0⟩
  rw [if_neg h0]
  by_cases h1 : p = 1
  · subst h1; exact ⟨size, rfl, go 1 size (by decide) f1⟩
  rw [if_neg h1]
  by_cases h2 : p = 2
  · subst h2; exact ⟨cond, rfl, go 2 cond (by decide) f2⟩
  rw [if_neg h2]
  by_cases h3 : p = 3
  · subst h3; exact ⟨kf 0, (by rw [if_pos rfl, show ((3 : Int32) - 3) / 2 = 0 from by decide, kind0]), go 3 _ (by decide) f3⟩
  rw [if_neg h3]
  by_cases h4 : p = 4
  · subst h4; exact ⟨rf 0, (by rw [if_pos rfl, show ((4 : Int32) - 4) / 2 = 0 from by decide, regi0]), go 4 _ (by decide) f4⟩
  rw [if_neg h4]
  by_cases h5 : p = 5
  · subst h5; exact ⟨kf 1, (by rw [if_pos rfl, show ((5 : Int32) - 3) / 2 = 1 from by decide, kind1]), go 5 _ (by decide) f5⟩
  rw [if_neg h5]
  by_cases h6 : p = 6
  · subst h6; exact ⟨rf 1, (by rw [if_pos rfl, show ((6 : Int32) - 4) / 2 = 1 from by decide, regi1]), go 6 _ (by decide) f6⟩
  rw [if_neg h6]
  by_cases h7 : p = 7
  · subst h7; exact ⟨kf 2, (by rw [if_pos rfl, show ((7 : Int32) - 3) / 2 = 2 from by decide, kind2]), go 7 _ (by decide) f7⟩
  rw [if_neg h7]
  by_cases h8 : p = 8
  · subst h8; exact ⟨rf 2, (by rw [if_pos rfl, show ((8 : Int32) - 4) / 2 = 2 from by decide, regi2]), go 8 _ (by decide) f8⟩
  rw [if_neg h8]
  by_cases h9 : p = 9
  · subst h9; exact ⟨b, rfl, go 9 _ (by decide) f9⟩
  rw [if_neg h9]
  by_cases h10 : p = 10
  · subst h10; exact ⟨i, rfl, go 10 _ (by decide) f10⟩
  rw [if_neg h10]
  by_cases h11 : p = 11
  · subst h11; exact ⟨s, rfl, go 11 _ (by decide) f11⟩
  rw [if_neg h11]
  by_cases h12 : p = 12
  · subst h12; exact ⟨d, rfl, go 12 _ (by decide) f12⟩
  rw [if_neg h12]
  refine ⟨0, rfl, ?_⟩
  by_cases c1 : p < 0
  · rw [if_pos c1]
  rw [if_neg c1]
  by_cases c2 : 13 ≤ p
  · rw [if_pos c2]
  exfalso
  obtain ⟨k, hk, rfl⟩ := nI_of c1
  have hk13 : k < 13 := by
    apply Decidable.byContradiction
    intro hh
    exact c2 (nI_le (a := 13) (b := k) (by omega) hk)
  rcases (show k = 0 ∨ k = 1 ∨ k = 2 ∨ k = 3 ∨ k = 4 ∨ k = 5 ∨ k = 6 ∨ k = 7 ∨ k = 8 ∨ k = 9 ∨ k = 10 ∨ k = 11 ∨ k = 12 by omega) with rfl | rfl | rfl | rfl | rfl | rfl | rfl | rfl | rfl | rfl | rfl | rfl | rfl
  · exact h0 rfl
  · exact h1 rfl
  · exact h2 rfl
  · exact h3 rfl
  · exact h4 rfl
  · exact h5 rfl
  · exact h6 rfl
  · exact h7 rfl
  · exact h8 rfl
  · exact h9 rfl
  · exact h10 rfl
  · exact h11 rfl
  · exact h12 rfl
theorem copyF_eq {F kf rf : Nat → Int32} {op size cond b i s d : Int32} (hF : RelF F op size cond kf rf b i s d) (hK : WfK kf rf) (kf0 rf0 : Nat → Int32) (num : Int64) :
    ∃ kf' rf', f_X0_copyFrom kf0 rf0 op size cond num kf rf b i s d = (op, size, cond, num, kf', rf', b, i, s, d) ∧ RelF F op size cond kf' rf' b i s d ∧ WfK kf' rf' := by
  obtain ⟨f0, f1, f2, f3, f4, f5, f6, f7, f8, f9, f10, f11, f12⟩ := hF
  obtain ⟨k0, k1, k2⟩ := hK
  have e : ∃ kf1 rf1, f_X0_begin kf0 rf0 op size cond = (op, size, cond, kf1, rf1) := by
    unfold f_X0_begin
    rw [setOp (k := 0) (Or.inl rfl)]
    dsimp only
    rw [setOp (k := 1) (Or.inr (Or.inl rfl))]
    dsimp only
    rw [setOp (k := 2) (Or.inr (Or.inr rfl))]
    exact ⟨_, _, rfl⟩
  obtain ⟨kf1, rf1, e⟩ := e
  have e2 : f_X0_copyFrom kf0 rf0 op size cond num kf rf b i s d = (op, size, cond, num, upd (upd (upd kf1 0 (kf 0)) 1 (kf 1)) 2 (kf 2), upd (upd (upd rf1 0 (rf 0)) 1 (rf 1)) 2 (rf 2), b, i, s, d) := by
    unfold f_X0_copyFrom
    rw [e]
    dsimp only
    rw [setOp (k := 0) (Or.inl rfl), kind0, regi0]
    dsimp only
    rw [setOp (k := 1) (Or.inr (Or.inl rfl)), kind1, regi1]
    dsimp only
    rw [setOp (k := 2) (Or.inr (Or.inr rfl)), kind2, regi2]
    rfl
  exact ⟨_, _, e2, ⟨f0, f1, f2, f3, f4, f5, f6, f7, f8, f9, f10, f11, f12⟩, k0, k1, k2⟩
theorem decode_eq {c : Nat} {row fed F kf rf : Nat → Int32} {op size cond b i s d : Int32} {num : Int64} (hR : Row c row fed) (hF : RelF F op size cond kf rf b i s d) (hK : WfK kf rf) (oform op0 size0 cond0 : Int32) (num0 : Int64) (kf0 rf0 : Nat → Int32) (b0 i0 s0 d0 : Int32) (fn : Int64) (fd : Nat → Int32) :
    ∃ thr r op' size' cond' num' kf' rf' b' i' s' d' y2 y3 y4 y5 y6 y7 y8 y9 y10 y11 y12 y13 y14 y15 y16 y17 y18 r' fn' a' p' q' t' F' fd',
      f_X6_decode op size cond num kf rf b i s d oform (nI c) row op0 size0 cond0 num0 kf0 rf0 b0 i0 s0 d0 = (thr, r, op', size', cond', num', kf', rf', b', i', s', d', y2, y3, y4, y5, y6, y7, y8, nI 0, y9, y10, y11, y12, y13, y14, y15, y16, y17, y18) ∧
      f_X7_decode num fn (nI c) F fd fed = (r', thr, num', fn', nI 0, a', p', q', t', F', fd') ∧ RelF F' op' size' cond' kf' rf' b' i' s' d' ∧ WfK kf' rf' ∧ ((thr = 0 ∧ r' = r) ∨ thr = 1) := by
  unfold f_X6_decode
  rcases dec_eq hR oform op0 size0 cond0 num0 kf0 rf0 b0 i0 s0 d0 num fn F fd with ⟨y2, y3, y4, y5, y6, y7, y8, y9, y10, y11, y12, y13, y14, y15, y16, y17, y18, e1, fn', a', p', q', t', fd', e2⟩ | ⟨n, hn0, hnc, y2, y3, y4, y5, y6, y7, y8, y9, y10, y11, y12, y13, y14, y15, y16, y17, y18, e1, fn', a', p', q', t', F', fd', e2, g1, g2⟩
  · rw [e1]
    dsimp only
    rw [if_pos rfl]
    exact ⟨1, 0, op, size, cond, num, kf, rf, b, i, s, d, y2, y3, y4, y5, y6, y7, y8, y9, y10, y11, y12, y13, y14, y15, y16, y17, y18, 0, fn', a', p', q', t', F, fd', rfl, e2, hF, hK, Or.inr rfl⟩
  · rw [e1]
    dsimp only
    rw [if_neg (nI_ne0 hn0 (by have := hR.1; omega))]
    obtain ⟨kf', rf', e3, g3, g4⟩ := copyF_eq g1 g2 kf rf y12
    rw [e3]
    dsimp only
    exact ⟨0, nI n, y9, y10, y11, y12, kf', rf', y15, y16, y17, y18, y2, y3, y4, y5, y6, y7, y8, y9, y10, y11, y12, y13, y14, y15, y16, y17, y18, nI n, fn', a', p', q', t', F', fd', rfl, e2, g3, g4, Or.inl ⟨rfl, rfl⟩⟩
