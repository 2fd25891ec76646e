/-! the lines of both tables agree -/
abbrev szOK (s z : Int32) : Prop := (s = 0 ∧ z = 4) ∨ (s = 1 ∧ z = 5) ∨ (s = 2 ∧ z = 0) ∨ (s = 3 ∧ z = 1) ∨ (s = 4 ∧ z = 6) ∨ (s = 5 ∧ z = 7) ∨ (s = 5 ∧ z = 3) ∨ (s = 6 ∧ z = 2)
def lineP (j : Nat) : Prop :=
  (pairOK (f_X4_roleOf (nI j) 0) (f_X7_place (rPats j) 0) (rOps j)) ∧
  (pairOK (f_X4_roleOf (nI j) 1) (f_X7_place (rPats j) 1) (rOps j)) ∧
  (pairOK (f_X4_roleOf (nI j) 2) (f_X7_place (rPats j) 2) (rOps j)) ∧
  ((f_X7_place (rPats j) 0 = 3 ∨ f_X7_place (rPats j) 1 = 3 ∨ f_X7_place (rPats j) 2 = 3) → numOK (f_X4_cell (nI j) 6) (rNums j)) ∧
  ((f_X7_place (rPats j) 0 = 7 ∨ f_X7_place (rPats j) 1 = 7 ∨ f_X7_place (rPats j) 2 = 7) → f_X4_cell (nI j) 6 = 7 ∧ rNums j = 0) ∧
  (numOK (f_X4_cell (nI j) 6) (rNums j) ∨ (f_X4_cell (nI j) 6 = 7 ∧ rNums j = 0) ∨ (f_X4_cell (nI j) 6 = 0 ∧ rNums j = 0)) ∧
  (szOK (f_X4_cell (nI j) 2) (rSizes j)) ∧
  (rOps j = 14 → f_X4_cell (nI j) 2 = 5)
def linePB (j : Nat) : Bool :=
  decide (pairOK (f_X4_roleOf (nI j) 0) (f_X7_place (rPats j) 0) (rOps j)) &&
  decide (pairOK (f_X4_roleOf (nI j) 1) (f_X7_place (rPats j) 1) (rOps j)) &&
  decide (pairOK (f_X4_roleOf (nI j) 2) (f_X7_place (rPats j) 2) (rOps j)) &&
  decide (((f_X7_place (rPats j) 0 = 3 ∨ f_X7_place (rPats j) 1 = 3 ∨ f_X7_place (rPats j) 2 = 3) → numOK (f_X4_cell (nI j) 6) (rNums j))) &&
  decide (((f_X7_place (rPats j) 0 = 7 ∨ f_X7_place (rPats j) 1 = 7 ∨ f_X7_place (rPats j) 2 = 7) → f_X4_cell (nI j) 6 = 7 ∧ rNums j = 0)) &&
  decide ((numOK (f_X4_cell (nI j) 6) (rNums j) ∨ (f_X4_cell (nI j) 6 = 7 ∧ rNums j = 0) ∨ (f_X4_cell (nI j) 6 = 0 ∧ rNums j = 0))) &&
  decide (szOK (f_X4_cell (nI j) 2) (rSizes j)) &&
  decide ((rOps j = 14 → f_X4_cell (nI j) 2 = 5))
theorem tb_line {j : Nat} (hj : j < 115) : lineP j := by
  have := tb_all (p := linePB) (by decide +kernel) hj
  simp only [linePB, Bool.and_eq_true, decide_eq_true_eq, and_assoc] at this
  exact this
def lineQ (j : Nat) : Prop :=
  (f_X4_isRepeated (nI j) = if rLeads j = 243 then 1 else 0) ∧
  (rLeads j = 243 ∨ rLeads j = 15 ∨ rLeads j = 0) ∧
  (f_X4_opcodeOf (nI j) = if rLeads j = 15 then 3840 + rCodes j else rCodes j) ∧
  (0 ≤ rCodes j ∧ rCodes j ≤ 255) ∧
  ((f_X4_digitOf (nI j) < 0 ∨ 8 ≤ f_X4_digitOf (nI j)) ∧ 8 ≤ rTells j ∨ (¬ f_X4_digitOf (nI j) < 0 ∧ ¬ 8 ≤ f_X4_digitOf (nI j)) ∧ rTells j = f_X4_digitOf (nI j)) ∧
  (f_X4_hasForm (nI j) = f_X7_hasForm (rPats j)) ∧
  (f_X4_hasCondition (nI j) = 1 → f_X4_hasSizeBit (nI j) = 0 ∧ ¬ f_X4_roleOf (nI j) 0 = 5 ∧ rCodes j ≤ 240) ∧
  (f_X4_hasSizeBit (nI j) = 1 → ¬ f_X4_roleOf (nI j) 0 = 5 ∧ rCodes j ≤ 254) ∧
  (f_X4_roleOf (nI j) 0 = 5 → rCodes j ≤ 248 ∧ f_X4_hasForm (nI j) = 0 ∧ (rPats j = 5 ∨ rPats j = 6) ∧ ¬ f_X7_place (rPats j) 1 = 2 ∧ ¬ f_X7_place (rPats j) 1 = 5 ∧ ¬ f_X7_place (rPats j) 2 = 2 ∧ ¬ f_X7_place (rPats j) 2 = 5) ∧
  (¬ f_X4_roleOf (nI j) 0 = 5 → ¬ rPats j = 5 ∧ ¬ rPats j = 6) ∧
  (¬ f_X4_roleOf (nI j) 1 = 5) ∧
  (¬ f_X4_roleOf (nI j) 2 = 5) ∧
  (f_X4_hasForm (nI j) = 1 → f_X4_cell (nI j) 6 ≠ 5 ∧ f_X4_isFormRole (f_X4_roleOf (nI j) 2) = 0 ∧ (f_X4_isFormRole (f_X4_roleOf (nI j) 0) = 1 ∧ f_X4_isFormRole (f_X4_roleOf (nI j) 1) = 0 ∨ f_X4_isFormRole (f_X4_roleOf (nI j) 0) = 0 ∧ f_X4_isFormRole (f_X4_roleOf (nI j) 1) = 1)) ∧
  (f_X4_hasForm (nI j) = 0 → f_X4_isFormRole (f_X4_roleOf (nI j) 0) = 0 ∧ f_X4_isFormRole (f_X4_roleOf (nI j) 1) = 0 ∧ f_X4_isFormRole (f_X4_roleOf (nI j) 2) = 0) ∧
  (f_X4_hasForm (nI j) = 0 ∨ f_X4_hasForm (nI j) = 1) ∧
  (f_X4_hasCondition (nI j) = 0 ∨ f_X4_hasCondition (nI j) = 1) ∧
  (f_X4_hasSizeBit (nI j) = if rSizes j = 0 then 1 else 0)
def lineQB (j : Nat) : Bool :=
  decide ((f_X4_isRepeated (nI j) = if rLeads j = 243 then 1 else 0)) &&
  decide ((rLeads j = 243 ∨ rLeads j = 15 ∨ rLeads j = 0)) &&
  decide ((f_X4_opcodeOf (nI j) = if rLeads j = 15 then 3840 + rCodes j else rCodes j)) &&
  decide ((0 ≤ rCodes j ∧ rCodes j ≤ 255)) &&
  decide (((f_X4_digitOf (nI j) < 0 ∨ 8 ≤ f_X4_digitOf (nI j)) ∧ 8 ≤ rTells j ∨ (¬ f_X4_digitOf (nI j) < 0 ∧ ¬ 8 ≤ f_X4_digitOf (nI j)) ∧ rTells j = f_X4_digitOf (nI j))) &&
  decide ((f_X4_hasForm (nI j) = f_X7_hasForm (rPats j))) &&
  decide ((f_X4_hasCondition (nI j) = 1 → f_X4_hasSizeBit (nI j) = 0 ∧ ¬ f_X4_roleOf (nI j) 0 = 5 ∧ rCodes j ≤ 240)) &&
  decide ((f_X4_hasSizeBit (nI j) = 1 → ¬ f_X4_roleOf (nI j) 0 = 5 ∧ rCodes j ≤ 254)) &&
  decide ((f_X4_roleOf (nI j) 0 = 5 → rCodes j ≤ 248 ∧ f_X4_hasForm (nI j) = 0 ∧ (rPats j = 5 ∨ rPats j = 6) ∧ ¬ f_X7_place (rPats j) 1 = 2 ∧ ¬ f_X7_place (rPats j) 1 = 5 ∧ ¬ f_X7_place (rPats j) 2 = 2 ∧ ¬ f_X7_place (rPats j) 2 = 5)) &&
  decide ((¬ f_X4_roleOf (nI j) 0 = 5 → ¬ rPats j = 5 ∧ ¬ rPats j = 6)) &&
  decide (¬ f_X4_roleOf (nI j) 1 = 5) &&
  decide (¬ f_X4_roleOf (nI j) 2 = 5) &&
  decide ((f_X4_hasForm (nI j) = 1 → f_X4_cell (nI j) 6 ≠ 5 ∧ f_X4_isFormRole (f_X4_roleOf (nI j) 2) = 0 ∧ (f_X4_isFormRole (f_X4_roleOf (nI j) 0) = 1 ∧ f_X4_isFormRole (f_X4_roleOf (nI j) 1) = 0 ∨ f_X4_isFormRole (f_X4_roleOf (nI j) 0) = 0 ∧ f_X4_isFormRole (f_X4_roleOf (nI j) 1) = 1))) &&
  decide ((f_X4_hasForm (nI j) = 0 → f_X4_isFormRole (f_X4_roleOf (nI j) 0) = 0 ∧ f_X4_isFormRole (f_X4_roleOf (nI j) 1) = 0 ∧ f_X4_isFormRole (f_X4_roleOf (nI j) 2) = 0)) &&
  decide ((f_X4_hasForm (nI j) = 0 ∨ f_X4_hasForm (nI j) = 1)) &&
  decide ((f_X4_hasCondition (nI j) = 0 ∨ f_X4_hasCondition (nI j) = 1)) &&
  decide ((f_X4_hasSizeBit (nI j) = if rSizes j = 0 then 1 else 0))
theorem tb_lineQ {j : Nat} (hj : j < 115) : lineQ j := by
  have := tb_all (p := lineQB) (by decide +kernel) hj
  simp only [lineQB, Bool.and_eq_true, decide_eq_true_eq, and_assoc] at this
  simpa only [lineQ, and_assoc] using this
theorem size_eq {L z size : Int32} (h : szOK (f_X4_cell L 2) z) : f_X4_hasSize L size = f_X7_allows z size := by
  unfold f_X4_hasSize f_X4_hasSize_J8 f_X4_hasSize_J11 f_X4_hasSize_J16 f_X4_hasSize_J20 f_X4_hasSize_J23 f_X4_hasSize_J26
  unfold f_X7_allows f_X7_allows_J26 f_X7_allows_J29 f_X7_allows_J12 f_X7_allows_J16 f_X7_allows_J19 f_X7_allows_J22 f_X7_allows_J25
  generalize f_X4_cell L 2 = c at h ⊢
  rcases h with ⟨rfl, rfl⟩ | ⟨rfl, rfl⟩ | ⟨rfl, rfl⟩ | ⟨rfl, rfl⟩ | ⟨rfl, rfl⟩ | ⟨rfl, rfl⟩ | ⟨rfl, rfl⟩ | ⟨rfl, rfl⟩ <;> simp
