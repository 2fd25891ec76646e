/-! numbers that fit -/
theorem fitIB (v : Int64) : (v = v.toInt32.toInt8.toInt32.toInt64) ↔ (¬ v < -128 ∧ ¬ 128 ≤ v) := by
  have e1 : (-128 : Int64).toInt = -128 := rfl
  have e2 : (128 : Int64).toInt = 128 := rfl
  rw [eqL, Int64.lt_iff_toInt_lt, Int64.le_iff_toInt_le, e1, e2, Int32.toInt_toInt64, Int8.toInt_toInt32, Int32.toInt_toInt8, Int64.toInt_toInt32]
  simp only [Int.bmod_def]
  omega
theorem fitID (v : Int64) : (v = v.toInt32.toInt64) ↔ (¬ v < -2147483648 ∧ ¬ 2147483648 ≤ v) := by
  have e1 : (-2147483648 : Int64).toInt = -2147483648 := rfl
  have e2 : (2147483648 : Int64).toInt = 2147483648 := rfl
  rw [eqL, Int64.lt_iff_toInt_lt, Int64.le_iff_toInt_le, e1, e2, Int32.toInt_toInt64, Int64.toInt_toInt32]
  simp only [Int.bmod_def]
  omega
theorem fit256 (v : Int64) : (255 < v) ↔ (256 ≤ v) := by
  have e1 : (255 : Int64).toInt = 255 := rfl
  have e2 : (256 : Int64).toInt = 256 := rfl
  rw [Int64.lt_iff_toInt_lt, Int64.le_iff_toInt_le, e1, e2]
  omega
theorem fit65536 (v : Int64) : (65535 < v) ↔ (65536 ≤ v) := by
  have e1 : (65535 : Int64).toInt = 65535 := rfl
  have e2 : (65536 : Int64).toInt = 65536 := rfl
  rw [Int64.lt_iff_toInt_lt, Int64.le_iff_toInt_le, e1, e2]
  omega
theorem sh_a : (1 : Int64) <<< (((8 : Int32) * (1 : Int32)).toInt64 &&& 63) = 256 := by decide
theorem sh_b : (1 : Int64) <<< (((8 : Int32) * (2 : Int32)).toInt64 &&& 63) = 65536 := by decide
theorem sh_c : (1 : Int64) <<< (((8 : Int32) * (1 : Int32) - (1 : Int32)).toInt64 &&& 63) = 128 := by decide
theorem sh_d : (-1 : Int64) <<< (((8 : Int32) * (1 : Int32) - (1 : Int32)).toInt64 &&& 63) = -128 := by decide
theorem sh_e : (1 : Int64) <<< (((8 : Int32) * (4 : Int32) - (1 : Int32)).toInt64 &&& 63) = 2147483648 := by decide
theorem sh_f : (-1 : Int64) <<< (((8 : Int32) * (4 : Int32) - (1 : Int32)).toInt64 &&& 63) = -2147483648 := by decide
/-- the pairs of numbers' kinds, the class's and the reference's -/
abbrev numOK (c6 rn : Int32) : Prop := (c6 = 1 ∧ rn = 2) ∨ (c6 = 2 ∧ rn = 6) ∨ (c6 = 3 ∧ rn = 5) ∨ (c6 = 4 ∧ rn = 3) ∨ (c6 = 5 ∧ rn = 4) ∨ (c6 = 6 ∧ rn = 1)
def numC (c6 size : Int32) : Int32 := if c6 = 6 then (if size = 1 then 1 else 4) else c6
theorem num_eq {c6 rn : Int32} (h : numOK c6 rn) (size : Int32) (v : Int64) : f_X4_numberFits (numC c6 size) v = f_X7_holds rn size v := by
  have ib : (if lg_cmp v v.toInt32.toInt8.toInt32.toInt64 = 0 then (1 : Int32) else 0) = (if lg_cmp v (-128) < 0 then 0 else if 0 ≤ lg_cmp v 128 then 0 else 1) := by
    simp only [lg_cmp_eq, lg_cmp_lt, lg_cmp_ge, fitIB]
    by_cases h1 : v < -128 <;> by_cases h2 : 128 ≤ v <;> simp [h1, h2]
  have idd : (if lg_cmp v v.toInt32.toInt64 = 0 then (1 : Int32) else 0) = (if lg_cmp v (-2147483648) < 0 then 0 else if 0 ≤ lg_cmp v 2147483648 then 0 else 1) := by
    simp only [lg_cmp_eq, lg_cmp_lt, lg_cmp_ge, fitID]
    by_cases h1 : v < -2147483648 <;> by_cases h2 : 2147483648 ≤ v <;> simp [h1, h2]
  have r2 : f_X7_room 2 size = 1 := by simp [f_X7_room, f_X7_room_J9]
  have r6 : f_X7_room 6 size = 1 := by simp [f_X7_room, f_X7_room_J9]
  have r5 : f_X7_room 5 size = 2 := by simp [f_X7_room, f_X7_room_J9]
  have r3 : f_X7_room 3 size = 4 := by simp [f_X7_room, f_X7_room_J9]
  have r4 : f_X7_room 4 size = 8 := by simp [f_X7_room, f_X7_room_J9]
  rcases h with ⟨rfl, rfl⟩ | ⟨rfl, rfl⟩ | ⟨rfl, rfl⟩ | ⟨rfl, rfl⟩ | ⟨rfl, rfl⟩ | ⟨rfl, rfl⟩
  · simp only [f_X7_holds, f_X7_holds_J15, r2, sh_c, sh_d, numC]
    simp only [f_X4_numberFits, f_X4_numberFits_J10]
    simpa using ib
  · simp only [f_X7_holds, f_X7_holds_J5, r6, sh_a, numC]
    simp [f_X4_numberFits, f_X4_numberFits_J14, lg_cmp_lt, lg_cmp_gt, lg_cmp_ge, fit256]
  · simp only [f_X7_holds, f_X7_holds_J10, r5, sh_b, numC]
    simp [f_X4_numberFits, f_X4_numberFits_J18, lg_cmp_lt, lg_cmp_gt, lg_cmp_ge, fit65536]
  · simp only [f_X7_holds, f_X7_holds_J15, r3, sh_e, sh_f, numC]
    simp only [f_X4_numberFits, f_X4_numberFits_J21]
    simpa using idd
  · simp [f_X7_holds, f_X7_holds_J15, r4, numC, f_X4_numberFits]
  · by_cases hs : size = 1
    · subst hs
      have r1 : f_X7_room 1 1 = 1 := by decide
      simp only [f_X7_holds, f_X7_holds_J15, r1, sh_c, sh_d, numC]
      simp only [f_X4_numberFits, f_X4_numberFits_J10]
      simpa using ib
    · have r1 : f_X7_room 1 size = 4 := by simp [f_X7_room, f_X7_room_J9, hs]
      simp only [f_X7_holds, f_X7_holds_J15, r1, sh_e, sh_f, numC, hs]
      simp only [f_X4_numberFits, f_X4_numberFits_J21]
      simpa using idd
