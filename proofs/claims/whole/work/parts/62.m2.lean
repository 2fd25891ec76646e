/-! numbers and memory: what class and reference ask of them -/
theorem cl0 : ((0 : Int32)).toNatClampNeg = 0 := rfl
theorem cl1 : ((1 : Int32)).toNatClampNeg = 1 := rfl
theorem cl2 : ((2 : Int32)).toNatClampNeg = 2 := rfl
theorem cl3 : ((3 : Int32)).toNatClampNeg = 3 := rfl
theorem cl4 : ((4 : Int32)).toNatClampNeg = 4 := rfl
theorem cl5 : ((5 : Int32)).toNatClampNeg = 5 := rfl
theorem cl6 : ((6 : Int32)).toNatClampNeg = 6 := rfl
theorem cl7 : ((7 : Int32)).toNatClampNeg = 7 := rfl
theorem cl8 : ((8 : Int32)).toNatClampNeg = 8 := rfl
theorem cl9 : ((9 : Int32)).toNatClampNeg = 9 := rfl
theorem cl10 : ((10 : Int32)).toNatClampNeg = 10 := rfl
theorem cl11 : ((11 : Int32)).toNatClampNeg = 11 := rfl
theorem cl12 : ((12 : Int32)).toNatClampNeg = 12 := rfl
theorem eqI {x y : Int32} : x = y ↔ x.toInt = y.toInt := Int32.toInt_inj.symm
theorem eqL {x y : Int64} : x = y ↔ x.toInt = y.toInt := Int64.toInt_inj.symm
theorem iI {x y : Int32} : (x < y ↔ x.toInt < y.toInt) ∧ (x ≤ y ↔ x.toInt ≤ y.toInt) ∧ (x = y ↔ x.toInt = y.toInt) := ⟨Int32.lt_iff_toInt_lt, Int32.le_iff_toInt_le, eqI⟩
theorem tri_i (i : Int32) : (¬ i = -1 ∧ i < 0 ∧ ¬ 15 < i ∧ ¬ i = 4 ∧ i < -1 ∧ ¬ 0 ≤ i ∧ i ≤ 7) ∨ i = -1 ∨ (¬ i = -1 ∧ ¬ i < 0 ∧ ¬ 15 < i ∧ ¬ i = 4 ∧ ¬ i < -1 ∧ 0 ≤ i) ∨ i = 4 ∨ (¬ i = -1 ∧ ¬ i < 0 ∧ 15 < i ∧ ¬ i = 4 ∧ ¬ i < -1 ∧ 0 ≤ i) := by
  have e0 : (0 : Int32).toInt = 0 := rfl
  have e4 : (4 : Int32).toInt = 4 := rfl
  have e7 : (7 : Int32).toInt = 7 := rfl
  have e15 : (15 : Int32).toInt = 15 := rfl
  have em1 : (-1 : Int32).toInt = -1 := rfl
  simp only [Int32.lt_iff_toInt_lt, Int32.le_iff_toInt_le, eqI, e0, e4, e7, e15, em1]
  omega
theorem tri_b (b : Int32) : (b < -1 ∧ b ≤ 16 ∧ ¬ 16 < b ∧ ¬ b = 16 ∧ ¬ b = -1) ∨ b = -1 ∨ (¬ b < -1 ∧ b ≤ 16 ∧ ¬ 16 < b ∧ ¬ b = 16 ∧ ¬ b = -1 ∧ ¬ 16 ≤ b ∧ 0 ≤ b) ∨ b = 16 ∨ (¬ b < -1 ∧ ¬ b ≤ 16 ∧ 16 < b ∧ ¬ b = 16 ∧ ¬ b = -1) := by
  have e0 : (0 : Int32).toInt = 0 := rfl
  have e16 : (16 : Int32).toInt = 16 := rfl
  have em1 : (-1 : Int32).toInt = -1 := rfl
  simp only [Int32.lt_iff_toInt_lt, Int32.le_iff_toInt_le, eqI, e0, e16, em1]
  omega
theorem tri_s (s : Int32) : s = 1 ∨ s = 2 ∨ s = 4 ∨ s = 8 ∨ (¬ s = 1 ∧ ¬ s = 2 ∧ ¬ s = 4 ∧ ¬ s = 8) := by
  by_cases h1 : s = 1 <;> by_cases h2 : s = 2 <;> by_cases h4 : s = 4 <;> by_cases h8 : s = 8 <;> simp [h1, h2, h4, h8]
set_option maxHeartbeats 4000000 in
theorem sound_eq {F : Nat → Int32} {b i s : Int32} (h9 : F 9 = b) (h10 : F 10 = i) (h11 : F 11 = s) : f_X1_isSound b i s = f_X7_isMemory F := by
  unfold f_X1_isSound f_X1_isSound_J12 f_X1_isSound_J17 f_X1_isSound_J22 f_X1_isSound_J6 f_X7_isMemory f_X7_isMemory_J6 f_X7_isMemory_J20
  simp only [cl9, cl10, cl11, h9, h10, h11]
  clear h9 h10 h11
  rcases tri_s s with rfl | rfl | rfl | rfl | ⟨s1, s2, s4, s8⟩ <;> rcases tri_i i with ⟨a1, a2, a3, a4, a5, a6, a7⟩ | rfl | ⟨a1, a2, a3, a4, a5, a6⟩ | rfl | ⟨a1, a2, a3, a4, a5, a6⟩ <;> rcases tri_b b with ⟨b1, b2, b3, b4, b5⟩ | rfl | ⟨b1, b2, b3, b4, b5, b6, b7⟩ | rfl | ⟨b1, b2, b3, b4, b5⟩ <;> simp [*]
