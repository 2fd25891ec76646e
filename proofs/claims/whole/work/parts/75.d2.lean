/-! the number behind an instruction, and the memory's bytes -/
def maskR (rn : Int32) (x : Int64) : Int64 := if rn = 5 then (if rn = 6 then x &&& 255 else x) &&& 65535 else (if rn = 6 then x &&& 255 else x)
theorem mask_s {rn : Int32} (h : rn = 0 ∨ rn = 1 ∨ rn = 2 ∨ rn = 3 ∨ rn = 4) (x : Int64) : maskR rn x = x := by
  rcases h with rfl | rfl | rfl | rfl | rfl <;> rfl
theorem J231_nf (p : Int32) (fd : Nat → Int32) (x : Int64) (a s : Int32) : f_X7_fits_J231 p fd x a s = (if s = 0 then 1 else 0, maskR (rNums p.toNatClampNeg) x, a, s, fd) := by
  unfold f_X7_fits_J231 f_X7_fits_J234 f_X7_fits_J237 f_X7_fits_J240 maskR
  by_cases h1 : rNums p.toNatClampNeg = 6 <;> by_cases h2 : rNums p.toNatClampNeg = 5 <;> by_cases h3 : s = 0 <;> simp [h1, h2, h3]
theorem num_case {c : Nat} {row fed : Nat → Int32} (hR : Row c row fed) {nx f a s : Int32} (h : Cur c nx f a s) {w : Nat} (hw : w ≤ 8) (hw0 : 0 < w) {cn sg size p : Int32} (hcn : ¬ cn = 7) (hwd : f_X4_numberWidth cn = nI w) (hsg : f_X4_numberHasSign cn = sg) (hroom : f_X7_room (rNums p.toNatClampNeg) size = nI w)
    (hfin : ∀ n0, n0 + w ≤ c → finC sg (nI w) (rawN row n0 w) = maskR (rNums p.toNatClampNeg) (finR (nI w) (rawN row n0 w))) (fn0 : Int64) :
    ∃ nx' f' v v' a' s', f_X3_readNumber nx f (nI c) row cn = (nx', f', v) ∧ (∀ found : Nat → Int32, f_X7_fits_J222 (nI c) fed p size a s found fn0 = (if s' = 0 then 1 else 0, v', a', s', found)) ∧ Cur c nx' f' a' s' ∧ (f' = 0 → f = 0 ∧ v' = v) := by
  obtain ⟨nx', f', a', s', V, V', e1, e2, hN, hst⟩ := cur_num hR sg hw h
  refine ⟨nx', f', finC sg (nI w) V, maskR (rNums p.toNatClampNeg) (finR (nI w) V'), a', s', ?_, ?_, hN.cur, ?_⟩
  · unfold f_X3_readNumber f_X3_readNumber_J9
    rw [if_neg hcn, hwd, hsg, e1]
  · intro found
    unfold f_X7_fits_J222
    have : ¬ nI w ≤ 0 := nI_nle hw0 (by omega)
    rw [hroom, if_neg this, e2]
    dsimp only
    rw [J231_nf]
  · intro hf
    obtain ⟨n0, h0, h1, h2⟩ := hN.val hf
    rw [h1, h2, hfin n0 h0]
    exact ⟨hst hf, rfl⟩
theorem num_tail {c : Nat} {row fed : Nat → Int32} (hR : Row c row fed) {nx f a s : Int32} (h : Cur c nx f a s) {c6 rn size p : Int32} (hp : rNums p.toNatClampNeg = rn) {fn0 : Int64} (hn : numOK c6 rn ∨ (c6 = 7 ∧ rn = 0 ∧ fn0 = 1) ∨ (c6 = 0 ∧ rn = 0 ∧ fn0 = 0)) :
    ∃ nx' f' v v' a' s', f_X3_readNumber nx f (nI c) row (numC c6 size) = (nx', f', v) ∧ (∀ found : Nat → Int32, f_X7_fits_J222 (nI c) fed p size a s found fn0 = (if s' = 0 then 1 else 0, v', a', s', found)) ∧ Cur c nx' f' a' s' ∧ (f' = 0 → f = 0 ∧ v' = v) := by
  have r0 : f_X7_room 0 size = 0 := by simp [f_X7_room, f_X7_room_J9]
  have r2 : f_X7_room 2 size = 1 := by simp [f_X7_room, f_X7_room_J9]
  have r6 : f_X7_room 6 size = 1 := by simp [f_X7_room, f_X7_room_J9]
  have r5 : f_X7_room 5 size = 2 := by simp [f_X7_room, f_X7_room_J9]
  have r3 : f_X7_room 3 size = 4 := by simp [f_X7_room, f_X7_room_J9]
  have r4 : f_X7_room 4 size = 8 := by simp [f_X7_room, f_X7_room_J9]
  rcases hn with (⟨rfl, rfl⟩ | ⟨rfl, rfl⟩ | ⟨rfl, rfl⟩ | ⟨rfl, rfl⟩ | ⟨rfl, rfl⟩ | ⟨rfl, rfl⟩) | ⟨rfl, rfl, rfl⟩ | ⟨rfl, rfl, rfl⟩
  · exact num_case hR h (w := 1) (by decide) (by decide) (cn := 1) (sg := 1) (by decide) (by decide) (by decide) (by rw [hp]; exact r2) (fun n0 _ => by rw [hp, mask_s (by decide)]; exact fin_s (by decide) _) fn0
  · exact num_case hR h (w := 1) (by decide) (by decide) (cn := 2) (sg := 0) (by decide) (by decide) (by decide) (by rw [hp]; exact r6) (fun n0 hn => by rw [hp]; exact fin_u1 hR hn) fn0
  · exact num_case hR h (w := 2) (by decide) (by decide) (cn := 3) (sg := 0) (by decide) (by decide) (by decide) (by rw [hp]; exact r5) (fun n0 hn => by rw [hp]; exact fin_u2 hR hn) fn0
  · exact num_case hR h (w := 4) (by decide) (by decide) (cn := 4) (sg := 1) (by decide) (by decide) (by decide) (by rw [hp]; exact r3) (fun n0 _ => by rw [hp, mask_s (by decide)]; exact fin_s (by decide) _) fn0
  · exact num_case hR h (w := 8) (by decide) (by decide) (cn := 5) (sg := 1) (by decide) (by decide) (by decide) (by rw [hp]; exact r4) (fun n0 _ => by rw [hp, mask_s (by decide)]; exact fin_s (by decide) _) fn0
  · by_cases hs : size = 1
    · subst hs
      exact num_case hR h (w := 1) (by decide) (by decide) (cn := 1) (sg := 1) (by decide) (by decide) (by decide) (by rw [hp]; decide) (fun n0 _ => by rw [hp, mask_s (by decide)]; exact fin_s (by decide) _) fn0
    · have r1 : f_X7_room 1 size = 4 := by simp [f_X7_room, f_X7_room_J9, hs]
      have e4 : numC 6 size = 4 := by simp [numC, hs]
      rw [e4]
      exact num_case hR h (w := 4) (by decide) (by decide) (cn := 4) (sg := 1) (by decide) (by decide) (by decide) (by rw [hp]; exact r1) (fun n0 _ => by rw [hp, mask_s (by decide)]; exact fin_s (by decide) _) fn0
  · refine ⟨nx, f, 1, 1, a, s, ?_, ?_, h, fun h => ⟨h, rfl⟩⟩
    · simp [numC, f_X3_readNumber, f_X3_readNumber_J9]
    · intro found
      unfold f_X7_fits_J222
      rw [hp, r0, if_pos (by decide), J231_nf, hp]
      rfl
  · refine ⟨nx, f, 0, 0, a, s, ?_, ?_, h, fun h => ⟨h, rfl⟩⟩
    · have e1 : f_X4_numberWidth 0 = 0 := by decide
      have e2 : f_X4_numberHasSign 0 = 0 := by decide
      simp [numC, f_X3_readNumber, f_X3_readNumber_J9, e1, e2, f_X3_nextNumber, f_X3_nextNumber_L13]
    · intro found
      unfold f_X7_fits_J222
      rw [hp, r0, if_pos (by decide), J231_nf, hp]
      rfl
def memU (found : Nat → Int32) (i b ix sc d : Int32) : Nat → Int32 := upd (upd (upd (upd (upd found (((3 : Int32) + ((2 : Int32) * i))).toNatClampNeg (2 : Int32)) ((9 : Int32)).toNatClampNeg b) ((10 : Int32)).toNatClampNeg ix) ((11 : Int32)).toNatClampNeg sc) ((12 : Int32)).toNatClampNeg d
theorem mem_fin {c : Nat} {row fed : Nat → Int32} (hR : Row c row fed) {nx f a s : Int32} (h : Cur c nx f a s) {w : Nat} (hw : w = 0 ∨ w = 1 ∨ w = 4) (sc ix b : Int32) (found : Nat → Int32) (i : Int32) :
    ∃ nx' f' d a' s' d', f_X3_readMemory_J30 (nI c) row sc ix b nx f (nI w) = (nx', f', b, ix, sc, d) ∧ f_X7_takeForm_J34 (nI c) found fed i a s b ix sc (nI w) = (a', s', memU found i b ix sc d') ∧ Cur c nx' f' a' s' ∧ (f' = 0 → f = 0 ∧ d' = d) := by
  obtain ⟨nx', f', a', s', V, V', e1, e2, hN, hst⟩ := cur_num hR 1 (w := w) (by omega) h
  refine ⟨nx', f', (finC 1 (nI w) V).toInt32, a', s', (finR (nI w) V').toInt32, ?_, ?_, hN.cur, ?_⟩
  · unfold f_X3_readMemory_J30 f_X1_become
    rw [e1]
  · unfold f_X7_takeForm_J34 memU
    rw [e2]
  · intro hf
    obtain ⟨n0, h0, h1, h2⟩ := hN.val hf
    rw [h1, h2, fin_s (by omega)]
    exact ⟨hst hf, rfl⟩
theorem mem_stC {c : Nat} {row fed : Nat → Int32} (hR : Row c row fed) (nx sc ix b : Int32) {w : Nat} (hw : w = 0 ∨ w = 1 ∨ w = 4) : ∃ nx' b' ix' sc' d, f_X3_readMemory_J30 (nI c) row sc ix b nx 1 (nI w) = (nx', 1, b', ix', sc', d) := by
  obtain ⟨nx', f', d, a', s', d', e1, e2, hC, hst⟩ := mem_fin hR (nx := nx) (f := 1) (a := 0) (s := 1) (Or.inl ⟨rfl, rfl⟩) hw sc ix b fed 0
  rcases hC with ⟨rfl, rfl⟩ | ⟨h, -⟩
  · exact ⟨_, _, _, _, _, e1⟩
  · exact absurd (hst h).1 (by decide)
theorem mem_stR {c : Nat} {row fed : Nat → Int32} (hR : Row c row fed) (found : Nat → Int32) (i a sc ix b : Int32) {w : Nat} (hw : w = 0 ∨ w = 1 ∨ w = 4) : ∃ a' b' ix' sc' d, f_X7_takeForm_J34 (nI c) found fed i a 1 b ix sc (nI w) = (a', 1, memU found i b' ix' sc' d) := by
  obtain ⟨nx', f', d, a', s', d', e1, e2, hC, hst⟩ := mem_fin hR (nx := 0) (f := 1) (a := a) (s := 1) (Or.inl ⟨rfl, rfl⟩) hw sc ix b found i
  rcases hC with ⟨rfl, rfl⟩ | ⟨h, -⟩
  · exact ⟨_, _, _, _, _, e2⟩
  · exact absurd (hst h).1 (by decide)
theorem st_C21 {c : Nat} {row fed : Nat → Int32} (hR : Row c row fed) (form sc ix b nx : Int32) : ∃ nx' b' ix' sc' d, f_X3_readMemory_J21 form (nI c) row sc ix b nx 1 = (nx', 1, b', ix', sc', d) := by
  have k4 := fun b => mem_stC hR nx sc ix b (w := 4) (Or.inr (Or.inr rfl))
  have k1 := fun b => mem_stC hR nx sc ix b (w := 1) (Or.inr (Or.inl rfl))
  have k0 := fun b => mem_stC hR nx sc ix b (w := 0) (Or.inl rfl)
  have j1 : ∃ nx' b' ix' sc' d, f_X3_readMemory_J26 form (nI c) row sc ix b nx 1 1 = (nx', 1, b', ix', sc', d) := by
    unfold f_X3_readMemory_J26
    rw [if_neg (by decide)]
    exact k4 b
  have j0 : ∃ nx' b' ix' sc' d, f_X3_readMemory_J26 form (nI c) row sc ix b nx 1 0 = (nx', 1, b', ix', sc', d) := by
    unfold f_X3_readMemory_J26
    rw [if_pos rfl]
    by_cases h : f_X3_formMod form = 1
    · rw [if_pos h]; exact k1 b
    · rw [if_neg h]; exact k0 b
  unfold f_X3_readMemory_J21
  by_cases h : f_X3_formMod form = 2
  · rw [if_pos h]; exact j1
  · rw [if_neg h]
    by_cases h1 : b = -1
    · rw [if_pos h1]; exact j1
    · rw [if_neg h1]
      by_cases h2 : b = 16
      · rw [if_pos h2]; exact j1
      · rw [if_neg h2]; exact j0
theorem st_C11 {c : Nat} {row fed : Nat → Int32} (hR : Row c row fed) (pfx form v nx sc ix : Int32) : ∃ nx' b' ix' sc' d, f_X3_readMemory_J11 pfx form (nI c) row v nx 1 sc ix = (nx', 1, b', ix', sc', d) := by
  unfold f_X3_readMemory_J11 f_X3_readMemory_J15
  by_cases h : f_X3_formMod form = 0
  · rw [if_pos h]
    by_cases h1 : v &&& 7 = 5
    · rw [if_pos h1]; exact st_C21 hR _ _ _ _ _
    · rw [if_neg h1]; exact st_C21 hR _ _ _ _ _
  · rw [if_neg h]; exact st_C21 hR _ _ _ _ _
theorem st_R10 {c : Nat} {row fed : Nat → Int32} (hR : Row c row fed) (found : Nat → Int32) (pfx i v a : Int32) {form : Int32} {k : Nat} (hk : form >>> ((6 : Int32) &&& 31) = nI k) (hk3 : k = 0 ∨ k = 1 ∨ k = 2) : ∃ a' b' ix' sc' d, f_X7_takeForm_J10 (nI c) pfx found fed form i v a 1 = (a', 1, memU found i b' ix' sc' d) := by
  have k4 := fun sc ix b => mem_stR hR found i a sc ix b (w := 4) (Or.inr (Or.inr rfl))
  have kk : ∀ far sc ix b, ∃ a' b' ix' sc' d, f_X7_takeForm_J30 (nI c) found fed form i a 1 far b ix sc = (a', 1, memU found i b' ix' sc' d) := by
    intro far sc ix b
    unfold f_X7_takeForm_J30
    rw [hk]
    by_cases h : far = 0
    · rw [if_pos h]
      rcases hk3 with rfl | rfl | rfl
      · rw [if_neg (by decide)]; exact mem_stR hR found i a sc ix b (w := 0) (Or.inl rfl)
      · rw [if_neg (by decide)]; exact mem_stR hR found i a sc ix b (w := 1) (Or.inr (Or.inl rfl))
      · rw [if_pos (by decide)]; exact k4 sc ix b
    · rw [if_neg h]; exact k4 sc ix b
  have k24 : ∀ far b x, ∃ a' b' ix' sc' d, f_X7_takeForm_J24 (nI c) found fed form i v a 1 far b x = (a', 1, memU found i b' ix' sc' d) := by
    intro far b x
    unfold f_X7_takeForm_J24 f_X7_takeForm_J27
    by_cases h : x = 4
    · rw [if_pos h, if_pos h]; exact kk _ _ _ _
    · rw [if_neg h, if_neg h]; exact kk _ _ _ _
  have k21 : ∀ far b, ∃ a' b' ix' sc' d, f_X7_takeForm_J21 (nI c) pfx found fed form i v a 1 far b = (a', 1, memU found i b' ix' sc' d) := by
    intro far b
    unfold f_X7_takeForm_J21
    by_cases h : 0 ≤ v
    · rw [if_pos h]; exact k24 _ _ _
    · rw [if_neg h]; exact k24 _ _ _
  have k17 : ∀ y far, ∃ a' b' ix' sc' d, f_X7_takeForm_J17 (nI c) pfx found fed form i v a 1 y far = (a', 1, memU found i b' ix' sc' d) := by
    intro y far
    unfold f_X7_takeForm_J17
    by_cases h : far = 0
    · rw [if_pos h]; exact k21 _ _
    · rw [if_neg h]
      by_cases h : 0 ≤ v
      · rw [if_pos h]; exact k21 _ _
      · rw [if_neg h]; exact k21 _ _
  have k13 : ∀ y, ∃ a' b' ix' sc' d, f_X7_takeForm_J13 (nI c) pfx found fed form i v a 1 y = (a', 1, memU found i b' ix' sc' d) := by
    intro y
    unfold f_X7_takeForm_J13
    by_cases h : form >>> ((6 : Int32) &&& 31) = 0
    · rw [if_pos h]
      by_cases h : y = 5
      · rw [if_pos h]; exact k17 _ _
      · rw [if_neg h]; exact k17 _ _
    · rw [if_neg h]; exact k17 _ _
  unfold f_X7_takeForm_J10
  by_cases h : 0 ≤ v
  · rw [if_pos h]; exact k13 _
  · rw [if_neg h]; exact k13 _
