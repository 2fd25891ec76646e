/-! operands: what a line takes -/
abbrev okKR (κ ρ : Int32) : Prop := (κ = 0 ∧ ρ = 0) ∨ (κ = 1 ∧ qv 0 15 ρ) ∨ (κ = 2 ∧ ρ = 0) ∨ (κ = 3 ∧ ρ = 0)
abbrev pairOK (r q o : Int32) : Prop := (r = 0 ∧ q = 0) ∨ (r = 1 ∧ q = 1) ∨ (r = 2 ∧ q = 2 ∧ ¬ o = 12 ∧ ¬ o = 13) ∨ (r = 3 ∧ q = 2 ∧ (o = 12 ∨ o = 13)) ∨ (r = 4 ∧ q = 6) ∨ (r = 5 ∧ q = 5) ∨ (r = 6 ∧ q = 4) ∨ (r = 7 ∧ q = 8) ∨ (r = 8 ∧ q = 3) ∨ (r = 8 ∧ q = 7)
theorem numOf_eq (L size : Int32) : f_X4_numberOf L size = numC (f_X4_cell L 6) size := by
  unfold f_X4_numberOf f_X4_numberOf_J4 numC
  repeat' split
  all_goals rfl
set_option maxHeartbeats 4000000 in
theorem acc_eq {size L k κ ρ r q o b i s : Int32} {num : Int64} {kf rf F : Nat → Int32} (hκ : f_X0_kindOf kf k = κ) (hρ : f_X0_registerOf rf k = ρ) (hr : f_X4_roleOf L k = r) (hq : f_X7_place (rPats L.toNatClampNeg) k = q) (hp : pairOK r q o) (hk : okKR κ ρ) (h1 : F 1 = size)
    (hn : q = 3 → numOK (f_X4_cell L 6) (rNums L.toNatClampNeg)) (h7 : q = 7 → f_X4_cell L 6 = 7) :
    f_X5_canTellOperand size num kf rf b i s L k = (if f_X7_suits num F L k κ ρ = 0 then 0 else if κ = 2 then (if f_X1_isSound b i s = 0 then 0 else 1) else 1) := by
  rw [nf_X5_canTellOperand, nf_X5_canTellOperand_J3]
  unfold f_X5_canTellOperand_J7 f_X5_canTellOperand_J19 f_X5_canTellOperand_J23 f_X5_canTellOperand_J27 f_X5_canTellOperand_J31 f_X5_canTellOperand_J35 f_X5_canTellOperand_J38
  unfold f_X7_suits f_X7_suits_J11 f_X7_suits_J15 f_X7_suits_J19 f_X7_suits_J23 f_X7_suits_J26 f_X7_suits_J29 f_X7_suits_J33 f_X7_suits_J37 f_X7_suits_J40
  simp only [hκ, hρ, hr, hq, cl1, h1, numOf_eq]
  rcases hp with ⟨rfl, rfl⟩ | ⟨rfl, rfl⟩ | ⟨rfl, rfl, -, -⟩ | ⟨rfl, rfl, -⟩ | ⟨rfl, rfl⟩ | ⟨rfl, rfl⟩ | ⟨rfl, rfl⟩ | ⟨rfl, rfl⟩ | ⟨rfl, rfl⟩ | ⟨rfl, rfl⟩
  case inr.inr.inr.inr.inr.inr.inr.inr.inl =>
    have hh := num_eq (hn rfl) size num
    simp only [hh]
    rcases hk with ⟨rfl, -⟩ | ⟨rfl, -⟩ | ⟨rfl, -⟩ | ⟨rfl, -⟩ <;> by_cases hs : f_X1_isSound b i s = 0 <;> simp [hs]
  case inr.inr.inr.inr.inr.inr.inr.inr.inr =>
    have h77 : numC (f_X4_cell L 6) size = 7 := by rw [h7 rfl]; rfl
    have hf : f_X4_numberFits 7 num = if lg_cmp num 1 = 0 then 1 else 0 := by simp [f_X4_numberFits, f_X4_numberFits_J24]
    simp only [h77, hf]
    rcases hk with ⟨rfl, -⟩ | ⟨rfl, -⟩ | ⟨rfl, -⟩ | ⟨rfl, -⟩ <;> by_cases hs : f_X1_isSound b i s = 0 <;> by_cases hc : lg_cmp num 1 = 0 <;> simp [hs, hc]
  all_goals (rcases hk with ⟨rfl, rfl⟩ | ⟨rfl, -⟩ | ⟨rfl, rfl⟩ | ⟨rfl, rfl⟩ <;> by_cases hs : f_X1_isSound b i s = 0 <;> simp [hs])
/-- the reference's steps over an operand -/
def tT (κ q : Int32) : Int32 := if κ = 1 then (if q = 1 then 1 else if q = 2 then 1 else if q = 5 then 1 else 0) else 0
def tN (t w ρ n : Int32) : Int32 := if t = 0 then n else if w = 1 then (if ρ ≤ 3 then n else if 8 ≤ ρ then n else 1) else n
def tB (t ρ q b : Int32) : Int32 := if t = 0 then b else if ρ ≤ 7 then b else b ||| (if q = 1 then 4 else 1)
def tG (t ρ q g : Int32) : Int32 := if t = 0 then g else if q = 1 then ρ &&& 7 else g
def tL (t ρ q l : Int32) : Int32 := if t = 0 then l else if q = 1 then l else ρ &&& 7
def tM (m κ : Int32) : Int32 := if m = 0 then (if κ = 2 then 1 else 0) else 1
def tGood (F : Nat → Int32) (p : Int32) : Int32 := if rOps p.toNatClampNeg = F 0 then (if f_X7_allows (rSizes p.toNatClampNeg) (F 1) = 0 then 0 else if f_X7_conditional (rOps p.toNatClampNeg) = 0 then (if F 2 = 0 then 1 else 0) else if F 2 < 0 then 0 else if 16 ≤ F 2 then 0 else 1) else 0
def tW (F : Nat → Int32) (p : Int32) : Int32 := if rSizes p.toNatClampNeg = 3 then 1 else if F 1 = 8 then (if rSizes p.toNatClampNeg = 0 then 1 else if rSizes p.toNatClampNeg = 1 then 1 else if rSizes p.toNatClampNeg = 7 then 1 else 0) else 0
def tQ (p k : Int32) : Int32 := f_X7_place (rPats p.toNatClampNeg) k
def tR0 (p : Int32) : Int32 := if 8 ≤ rTells p.toNatClampNeg then 0 else rTells p.toNatClampNeg
def tw (F : Nat → Int32) (p k : Int32) : Int32 := f_X7_width p (tQ p k) (F 1)
def tN3 (F : Nat → Int32) (p : Int32) : Int32 := tN (tT (F 7) (tQ p 2)) (tw F p 2) (F 8) (tN (tT (F 5) (tQ p 1)) (tw F p 1) (F 6) (tN (tT (F 3) (tQ p 0)) (tw F p 0) (F 4) (tW F p)))
def tB3 (F : Nat → Int32) (p : Int32) : Int32 := tB (tT (F 7) (tQ p 2)) (F 8) (tQ p 2) (tB (tT (F 5) (tQ p 1)) (F 6) (tQ p 1) (tB (tT (F 3) (tQ p 0)) (F 4) (tQ p 0) (if tW F p = 0 then 0 else 8)))
def tG3 (F : Nat → Int32) (p : Int32) : Int32 := tG (tT (F 7) (tQ p 2)) (F 8) (tQ p 2) (tG (tT (F 5) (tQ p 1)) (F 6) (tQ p 1) (tG (tT (F 3) (tQ p 0)) (F 4) (tQ p 0) (tR0 p)))
def tL3 (F : Nat → Int32) (p : Int32) : Int32 := tL (tT (F 7) (tQ p 2)) (F 8) (tQ p 2) (tL (tT (F 5) (tQ p 1)) (F 6) (tQ p 1) (tL (tT (F 3) (tQ p 0)) (F 4) (tQ p 0) 0))
def tM3 (F : Nat → Int32) : Int32 := tM (tM (if F 3 = 2 then 1 else 0) (F 5)) (F 7)
set_option maxHeartbeats 4000000 in
theorem tries_nf (num : Int64) (tried : Int32) (F trial : Nat → Int32) (p : Int32) : f_X7_tries num tried F trial p =
    (if tGood F p = 0 then (0, tried, trial) else if f_X7_suits num F p 0 (F 3) (F 4) = 0 then (0, tried, trial) else if f_X7_suits num F p 1 (F 5) (F 6) = 0 then (0, tried, trial) else if f_X7_suits num F p 2 (F 7) (F 8) = 0 then (0, tried, trial)
     else if tM3 F = 0 then f_X7_tries_J128 num F trial p (tL3 F p) (tG3 F p) (tB3 F p) (tN3 F p) (tM3 F) else if f_X7_isMemory F = 0 then (0, tried, trial) else f_X7_tries_J128 num F trial p (tL3 F p) (tG3 F p) (tB3 F p) (tN3 F p) (tM3 F)) := by
  rw [nf_X7_tries, nf_X7_tries_J8, nf_X7_tries_J15, nf_X7_tries_J18]
  simp only [cl0, cl1, cl2]
  show f_X7_tries_J21 num tried F trial p (tGood F p) (tW F p) (if tW F p = 0 then 0 else 8) (tR0 p) = _
  unfold f_X7_tries_J21
  by_cases hg : tGood F p = 0
  · rw [if_pos hg, if_pos hg]
    unfold f_X7_tries_J124
    rw [if_pos hg]
  · rw [if_neg hg, if_neg hg]
    have e1 : ∀ x : Int32, (if F (Int32.toNatClampNeg 3) = 2 then f_X7_tries_J25 num tried F trial p (tW F p) (if tW F p = 0 then 0 else 8) (tR0 p) 1 else f_X7_tries_J25 num tried F trial p (tW F p) (if tW F p = 0 then 0 else 8) (tR0 p) 0) = f_X7_tries_J25 num tried F trial p (tW F p) (if tW F p = 0 then 0 else 8) (tR0 p) (if F 3 = 2 then 1 else 0) := by
      intro x
      simp only [cl3]
      split <;> rfl
    rw [e1 0, nf_X7_tries_J25, nf_X7_tries_J31, nf_X7_tries_J37, nf_X7_tries_J44, nf_X7_tries_J48]
    unfold f_X7_tries_J52
    simp only [cl1, cl3, cl4, cl5, cl6]
    by_cases h0 : f_X7_suits num F p 0 (F 3) (F 4) = 0
    · rw [if_pos h0, if_pos h0]
      unfold f_X7_tries_J124
      rw [if_pos h0]
    · rw [if_neg h0, if_neg h0]
      have e2 : ∀ a b c d m : Int32, (if m = 0 then (if F 5 = 2 then f_X7_tries_J57 num tried F trial p a b c d 1 else f_X7_tries_J57 num tried F trial p a b c d 0) else f_X7_tries_J57 num tried F trial p a b c d 1) = f_X7_tries_J57 num tried F trial p a b c d (tM m (F 5)) := by
        intro a b c d m
        unfold tM
        repeat' split
        all_goals rfl
      rw [e2, nf_X7_tries_J57, nf_X7_tries_J63, nf_X7_tries_J69, nf_X7_tries_J76, nf_X7_tries_J80]
      unfold f_X7_tries_J84
      simp only [cl1, cl5, cl6, cl7, cl8]
      by_cases h1 : f_X7_suits num F p 1 (F 5) (F 6) = 0
      · rw [if_pos h1, if_pos h1]
        unfold f_X7_tries_J124
        rw [if_pos h1]
      · rw [if_neg h1, if_neg h1]
        have e3 : ∀ a b c d m : Int32, (if m = 0 then (if F 7 = 2 then f_X7_tries_J89 num tried F trial p a b c d 1 else f_X7_tries_J89 num tried F trial p a b c d 0) else f_X7_tries_J89 num tried F trial p a b c d 1) = f_X7_tries_J89 num tried F trial p a b c d (tM m (F 7)) := by
          intro a b c d m
          unfold tM
          repeat' split
          all_goals rfl
        rw [e3, nf_X7_tries_J89, nf_X7_tries_J95, nf_X7_tries_J101, nf_X7_tries_J108, nf_X7_tries_J112]
        unfold f_X7_tries_J116
        simp only [cl1, cl7, cl8]
        unfold f_X7_tries_J124
        rfl
