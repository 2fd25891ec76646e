/-! memory's bytes -/
def m8 (d : Int32) : Int32 := if d < -128 then 2 else if 128 ≤ d then 2 else 1
def mBare (b : Int32) : Int32 := if b = -1 then 1 else if b = 16 then 1 else 0
def mMod (x b d : Int32) : Int32 := if x = 0 then (if d = 0 then (if b &&& 7 = 5 then m8 d else 0) else m8 d) else 0
def mRow (b i : Int32) : Int32 := if b = -1 then 1 else if 0 ≤ i then 1 else if 16 ≤ b then 0 else if b &&& 7 = 4 then 1 else 0
def mLow (x b : Int32) : Int32 := if x = 0 then (if b = 16 then 5 else b &&& 7) else 4
def mSc (s : Int32) : Int32 := if s = 8 then 3 else if s = 4 then 2 else if s = 2 then 1 else 0
def mSib (b i s : Int32) : Int32 := 64 * mSc s + 8 * (if 0 ≤ i then i &&& 7 else 4) + (if b = -1 then 5 else b &&& 7)
def mWid (x m : Int32) : Int32 := if x = 0 then (if m = 2 then 4 else m) else 4
theorem fit8 (d : Int32) : (d = d.toInt8.toInt32) ↔ (¬ d < -128 ∧ ¬ 128 ≤ d) := by
  have e1 : (-128 : Int32).toInt = -128 := rfl
  have e2 : (128 : Int32).toInt = 128 := rfl
  rw [eqI, Int32.lt_iff_toInt_lt, Int32.le_iff_toInt_le, e1, e2, Int8.toInt_toInt32, Int32.toInt_toInt8]
  simp only [Int.bmod_def]
  omega
theorem m8_eq (d : Int32) : f_X1_mod_J4 d = m8 d := by
  unfold f_X1_mod_J4 f_X1_mod_J7 m8
  simp only [fit8]
  by_cases h1 : d < -128 <;> by_cases h2 : 128 ≤ d <;> simp [h1, h2]
theorem snd_b {b i s : Int32} (h : ¬ f_X1_isSound b i s = 0) : (b = -1 ∨ b = 16 ∨ (¬ b = -1 ∧ ¬ b = 16 ∧ ¬ 16 ≤ b ∧ 0 ≤ b)) ∧ (i = -1 ∨ (¬ i = -1 ∧ 0 ≤ i)) ∧ (b = 16 → i = -1) := by
  unfold f_X1_isSound f_X1_isSound_J12 f_X1_isSound_J17 f_X1_isSound_J22 f_X1_isSound_J6 at h
  rcases tri_i i with ⟨a1, a2, a3, a4, a5, a6, a7⟩ | rfl | ⟨a1, a2, a3, a4, a5, a6⟩ | rfl | ⟨a1, a2, a3, a4, a5, a6⟩ <;> rcases tri_b b with ⟨b1, b2, b3, b4, b5⟩ | rfl | ⟨b1, b2, b3, b4, b5, b6, b7⟩ | rfl | ⟨b1, b2, b3, b4, b5⟩ <;> simp_all
theorem mod_eq {b i s d : Int32} (h : ¬ f_X1_isSound b i s = 0) : f_X1_mod b d = mMod (mBare b) b d := by
  unfold f_X1_mod f_X1_hasBaseRegister f_X1_hasBaseRegister_J4 mMod mBare
  simp only [m8_eq]
  rcases (snd_b h).1 with rfl | rfl | ⟨b1, b2, b3, b4⟩ <;> simp [*]
theorem row_eq {b i s : Int32} (h : ¬ f_X1_isSound b i s = 0) : f_X1_needsIndexByte b i = mRow b i := by
  unfold f_X1_needsIndexByte f_X1_needsIndexByte_J6 f_X1_hasBaseRegister f_X1_hasBaseRegister_J4 mRow
  obtain ⟨hb, hi, hbi⟩ := snd_b h
  rcases hb with rfl | rfl | ⟨b1, b2, b3, b4⟩
  · simp
  · obtain rfl := hbi rfl
    decide
  · rcases hi with rfl | ⟨i1, i2⟩
    · by_cases h4 : b &&& 7 = 4 <;> simp [b1, b2, if_neg b3, h4]
    · simp [b1, i1, i2]
theorem low_eq {b i s : Int32} (h : ¬ f_X1_isSound b i s = 0) : f_X1_formLow b i = mLow (mRow b i) b := by
  unfold f_X1_formLow f_X1_formLow_J4 mLow
  rw [row_eq h]
theorem sib_eq {b i s : Int32} (h : ¬ f_X1_isSound b i s = 0) : f_X1_indexByte b i s = mSib b i s := by
  unfold f_X1_indexByte f_X1_indexByte_J5 f_X1_indexByte_J8 f_X1_indexByte_J11 mSib mSc
  obtain ⟨hb, hi, hbi⟩ := snd_b h
  rcases hb with rfl | rfl | ⟨b1, b2, b3, b4⟩ <;> rcases hi with rfl | ⟨i1, i2⟩ <;> rcases tri_s s with rfl | rfl | rfl | rfl | ⟨s1, s2, s4, s8⟩ <;> simp_all
theorem wid_eq {b i s d : Int32} (h : ¬ f_X1_isSound b i s = 0) : f_X1_displacementWidth b d = mWid (mBare b) (mMod (mBare b) b d) := by
  unfold f_X1_displacementWidth f_X1_displacementWidth_J5
  rw [mod_eq h]
  unfold f_X1_hasBaseRegister f_X1_hasBaseRegister_J4 mWid mMod mBare m8
  rcases (snd_b h).1 with rfl | rfl | ⟨b1, b2, b3, b4⟩ <;> simp [*]
  repeat' split
  all_goals simp_all
theorem wid_nI (b d : Int32) : ∃ w, w ≤ 4 ∧ mWid (mBare b) (mMod (mBare b) b d) = nI w := by
  unfold mWid mMod mBare m8
  repeat' split
  all_goals first | exact ⟨0, by decide, rfl⟩ | exact ⟨1, by decide, rfl⟩ | exact ⟨4, by decide, rfl⟩ | (exfalso; simp_all; done)
theorem mem_eq {F row tr : Nat → Int32} {b i s d reg : Int32} {n : Nat} (h9 : F 9 = b) (h10 : F 10 = i) (h11 : F 11 = s) (h12 : F 12 = d) (h : ¬ f_X1_isSound b i s = 0) (hn : n + 6 ≤ 16) (hR : RelR n row tr) :
    ∃ m row' tr', f_X5_writeMemory b i s d (nI n) row reg = (nI m, row') ∧ f_X7_putMemory (nI n) F tr reg = (nI m, tr') ∧ m ≤ n + 6 ∧ n < m ∧ RelR m row' tr' := by
  unfold f_X5_writeMemory f_X5_writeMemory_J10
  rw [mod_eq h, low_eq h, row_eq h, sib_eq h, wid_eq h]
  rw [nf_X7_putMemory, nf_X7_putMemory_J4, nf_X7_putMemory_J13, nf_X7_putMemory_J19]
  simp only [cl9, cl10, cl12, h9, h10, h12]
  show ∃ m row' tr', _ ∧ f_X7_putMemory_J23 (nI n) F tr reg (mBare b) (mMod (mBare b) b d) (mRow b i) (mLow (mRow b i) b) = (nI m, tr') ∧ _
  unfold f_X7_putMemory_J23
  obtain ⟨w, hw, ew⟩ := wid_nI b d
  rw [app_eq (by omega), put_eq (by omega)]
  dsimp only
  have hR1 := relR_upd (v := (64 * mMod (mBare b) b d + 8 * reg + mLow (mRow b i) b) &&& 255) hR rfl
  by_cases hr : mRow b i = 0
  · rw [if_pos hr, if_pos hr, nf_X7_putMemory_J44]
    show ∃ m row' tr', _ ∧ f_X7_putMemory_J48 F (nI (n + 1)) _ (mWid (mBare b) (mMod (mBare b) b d)) = (nI m, tr') ∧ _
    unfold f_X7_putMemory_J48
    simp only [cl12, h12, ew]
    obtain ⟨row', tr', g1, g2, g3⟩ := all_eq d.toInt64 (w := w) (n := n + 1) (by omega) (by omega) hR1
    exact ⟨n + 1 + w, row', tr', by rw [g1], by rw [g2], by omega, by omega, g3⟩
  · rw [if_neg hr, if_neg hr]
    have e9 : ∀ (x3 x12 y24 : Int32) (y25 : Nat → Int32), (if F (Int32.toNatClampNeg 11) = 8 then f_X7_putMemory_J32 F x3 x12 y24 y25 3 else if F (Int32.toNatClampNeg 11) = 4 then f_X7_putMemory_J32 F x3 x12 y24 y25 2 else if F (Int32.toNatClampNeg 11) = 2 then f_X7_putMemory_J32 F x3 x12 y24 y25 1 else f_X7_putMemory_J32 F x3 x12 y24 y25 0) = f_X7_putMemory_J32 F x3 x12 y24 y25 (mSc s) := by
      intro x3 x12 y24 y25
      simp only [cl11, h11]
      unfold mSc
      repeat' split
      all_goals rfl
    rw [e9, nf_X7_putMemory_J32, nf_X7_putMemory_J35]
    unfold f_X7_putMemory_J38
    simp only [cl9, cl10, h9, h10]
    rw [app_eq (by omega), put_eq (by omega)]
    dsimp only
    have hR2 := relR_upd (v := mSib b i s &&& 255) (w := (64 * mSc s + 8 * (if 0 ≤ i then i &&& 7 else 4) + (if b = -1 then 5 else b &&& 7)) &&& 255) hR1 rfl
    rw [nf_X7_putMemory_J44]
    show ∃ m row' tr', _ ∧ f_X7_putMemory_J48 F (nI (n + 1 + 1)) _ (mWid (mBare b) (mMod (mBare b) b d)) = (nI m, tr') ∧ _
    unfold f_X7_putMemory_J48
    simp only [cl12, h12, ew]
    obtain ⟨row', tr', g1, g2, g3⟩ := all_eq d.toInt64 (w := w) (n := n + 1 + 1) (by omega) (by omega) hR2
    exact ⟨n + 1 + 1 + w, row', tr', by rw [g1], by rw [g2], by omega, by omega, g3⟩
