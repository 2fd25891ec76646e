/-! what a line tells: class and reference alike -/
def RelF (F : Nat → Int32) (op size cond : Int32) (kf rf : Nat → Int32) (b i s d : Int32) : Prop := F 0 = op ∧ F 1 = size ∧ F 2 = cond ∧ F 3 = kf 0 ∧ F 4 = rf 0 ∧ F 5 = kf 1 ∧ F 6 = rf 1 ∧ F 7 = kf 2 ∧ F 8 = rf 2 ∧ F 9 = b ∧ F 10 = i ∧ F 11 = s ∧ F 12 = d
def WfK (kf rf : Nat → Int32) : Prop := okKR (kf 0) (rf 0) ∧ okKR (kf 1) (rf 1) ∧ okKR (kf 2) (rf 2)
theorem kind0 (kf : Nat → Int32) : f_X0_kindOf kf 0 = kf 0 := by simp [f_X0_kindOf, f_X0_kindOf_J4]
theorem kind1 (kf : Nat → Int32) : f_X0_kindOf kf 1 = kf 1 := by simp [f_X0_kindOf, f_X0_kindOf_J4]
theorem kind2 (kf : Nat → Int32) : f_X0_kindOf kf 2 = kf 2 := by simp [f_X0_kindOf, f_X0_kindOf_J4]
theorem regi0 (kf : Nat → Int32) : f_X0_registerOf kf 0 = kf 0 := by simp [f_X0_registerOf, f_X0_registerOf_J4]
theorem regi1 (kf : Nat → Int32) : f_X0_registerOf kf 1 = kf 1 := by simp [f_X0_registerOf, f_X0_registerOf_J4]
theorem regi2 (kf : Nat → Int32) : f_X0_registerOf kf 2 = kf 2 := by simp [f_X0_registerOf, f_X0_registerOf_J4]
theorem nI_cl {j : Nat} (hj : j < 115) : (nI j).toNatClampNeg = j := nI_clamp (by omega)
theorem tM3_eq (F : Nat → Int32) : tM3 F = if F 3 = 2 then 1 else if F 5 = 2 then 1 else if F 7 = 2 then 1 else 0 := by
  unfold tM3 tM
  by_cases h3 : F 3 = 2 <;> by_cases h5 : F 5 = 2 <;> by_cases h7 : F 7 = 2 <;> simp [h3, h5, h7]
set_option maxHeartbeats 4000000 in
theorem tell_eq {F kf rf : Nat → Int32} {op size cond b i s d : Int32} {num : Int64} (hF : RelF F op size cond kf rf b i s d) (hK : WfK kf rf) {j : Nat} (hj : j < 115) :
    f_X5_canTell op size cond num kf rf b i s (nI j) = (if tGood F (nI j) = 0 then 0 else if f_X7_suits num F (nI j) 0 (F 3) (F 4) = 0 then 0 else if f_X7_suits num F (nI j) 1 (F 5) (F 6) = 0 then 0 else if f_X7_suits num F (nI j) 2 (F 7) (F 8) = 0 then 0 else if tM3 F = 0 then 1 else if f_X7_isMemory F = 0 then 0 else 1) := by
  obtain ⟨f0, f1, f2, f3, f4, f5, f6, f7, f8, f9, f10, f11, f12⟩ := hF
  obtain ⟨p0, p1, p2, n3, n7, -, sz, -⟩ := tb_line hj
  have hc := nI_cl hj
  have a0 := acc_eq (size := size) (L := nI j) (k := 0) (b := b) (i := i) (s := s) (num := num) (F := F) (kind0 kf) (regi0 rf) rfl (by rw [hc]) p0 hK.1 f1 (fun h => by rw [hc]; exact n3 (Or.inl h)) (fun h => (n7 (Or.inl h)).1)
  have a1 := acc_eq (size := size) (L := nI j) (k := 1) (b := b) (i := i) (s := s) (num := num) (F := F) (kind1 kf) (regi1 rf) rfl (by rw [hc]) p1 hK.2.1 f1 (fun h => by rw [hc]; exact n3 (Or.inr (Or.inl h))) (fun h => (n7 (Or.inr (Or.inl h))).1)
  have a2 := acc_eq (size := size) (L := nI j) (k := 2) (b := b) (i := i) (s := s) (num := num) (F := F) (kind2 kf) (regi2 rf) rfl (by rw [hc]) p2 hK.2.2 f1 (fun h => by rw [hc]; exact n3 (Or.inr (Or.inr h))) (fun h => (n7 (Or.inr (Or.inr h))).1)
  rw [tM3_eq, f3, f4, f5, f6, f7, f8, ← sound_eq f9 f10 f11]
  unfold f_X5_canTell f_X5_canTell_J5 tGood
  rw [a0, a1, a2, tb_op hj, tb_cond hj, size_eq sz, hc, f0, f1, f2]
  have hcd : f_X7_conditional (rOps j) = 0 ∨ f_X7_conditional (rOps j) = 1 := by
    unfold f_X7_conditional f_X7_conditional_J4
    repeat' split
    all_goals first | exact Or.inl rfl | exact Or.inr rfl
  have e0 : cond < 0 ∨ cond = 0 ∨ (¬ cond < 0 ∧ ¬ cond ≤ 0 ∧ ¬ cond = 0 ∧ ¬ 16 ≤ cond ∧ cond ≤ 15) ∨ (¬ cond < 0 ∧ ¬ cond ≤ 0 ∧ ¬ cond = 0 ∧ 16 ≤ cond ∧ ¬ cond ≤ 15) := by
    have e0 : (0 : Int32).toInt = 0 := rfl
    have e15 : (15 : Int32).toInt = 15 := rfl
    have e16 : (16 : Int32).toInt = 16 := rfl
    simp only [Int32.lt_iff_toInt_lt, Int32.le_iff_toInt_le, eqI, e0, e15, e16]
    omega
  have hneg : cond < 0 → ¬ cond = 0 := by
    rintro h rfl
    exact absurd h (by decide)
  generalize f_X7_suits num F (nI j) 0 (kf 0) (rf 0) = S0
  generalize f_X7_suits num F (nI j) 1 (kf 1) (rf 1) = S1
  generalize f_X7_suits num F (nI j) 2 (kf 2) (rf 2) = S2
  generalize f_X1_isSound b i s = M
  generalize f_X7_allows (rSizes j) size = al
  by_cases ho : rOps j = op
  · rw [if_pos ho, if_pos ho]
    by_cases hal : al = 0
    · simp [hal]
    · rw [if_neg hal, if_neg hal]
      by_cases h0 : S0 = 0 <;> by_cases h1 : S1 = 0 <;> by_cases h2 : S2 = 0 <;> by_cases hM : M = 0 <;> by_cases k0 : kf 0 = 2 <;> by_cases k1 : kf 1 = 2 <;> by_cases k2 : kf 2 = 2 <;> rcases hcd with hcd | hcd <;> rcases e0 with e | e | ⟨e1, e2, e3, e4, e5⟩ | ⟨e1, e2, e3, e4, e5⟩ <;> simp [*]
  · simp [ho]
