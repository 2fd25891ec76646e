/-! operands that a line takes: their bits, whether a byte is needed -/
def opOK (r q κ ρ o : Int32) : Prop := (r = 0 ∧ q = 0 ∧ κ = 0 ∧ ρ = 0) ∨ (r = 1 ∧ q = 1 ∧ κ = 1) ∨ (r = 2 ∧ q = 2 ∧ κ = 1 ∧ ¬ o = 12 ∧ ¬ o = 13) ∨ (r = 2 ∧ q = 2 ∧ κ = 2 ∧ ρ = 0) ∨ (r = 3 ∧ q = 2 ∧ κ = 1 ∧ (o = 12 ∨ o = 13)) ∨ (r = 3 ∧ q = 2 ∧ κ = 2 ∧ ρ = 0) ∨ (r = 4 ∧ q = 6 ∧ κ = 2 ∧ ρ = 0) ∨ (r = 5 ∧ q = 5 ∧ κ = 1) ∨ (r = 6 ∧ q = 4 ∧ κ = 1 ∧ ρ = 0) ∨ (r = 7 ∧ q = 8 ∧ κ = 1 ∧ ρ = 1) ∨ (r = 8 ∧ q = 3 ∧ κ = 3 ∧ ρ = 0) ∨ (r = 8 ∧ q = 7 ∧ κ = 3 ∧ ρ = 0)
theorem opOK_of {r q κ ρ o p k : Int32} {num : Int64} {F : Nat → Int32} (hq : f_X7_place (rPats p.toNatClampNeg) k = q) (hp : pairOK r q o) (hk : okKR κ ρ) (h : ¬ f_X7_suits num F p k κ ρ = 0) : opOK r q κ ρ o := by
  unfold f_X7_suits f_X7_suits_J11 f_X7_suits_J15 f_X7_suits_J19 f_X7_suits_J23 f_X7_suits_J26 f_X7_suits_J29 f_X7_suits_J33 f_X7_suits_J37 f_X7_suits_J40 at h
  simp only [hq] at h
  unfold opOK
  rcases hp with ⟨rfl, rfl⟩ | ⟨rfl, rfl⟩ | ⟨rfl, rfl, o1, o2⟩ | ⟨rfl, rfl, o3⟩ | ⟨rfl, rfl⟩ | ⟨rfl, rfl⟩ | ⟨rfl, rfl⟩ | ⟨rfl, rfl⟩ | ⟨rfl, rfl⟩ | ⟨rfl, rfl⟩ <;> rcases hk with ⟨rfl, rfl⟩ | ⟨rfl, -⟩ | ⟨rfl, rfl⟩ | ⟨rfl, rfl⟩ <;> simp_all
def tb (t ρ q : Int32) : Int32 := if t = 0 then 0 else if ρ ≤ 7 then 0 else (if q = 1 then 4 else 1)
theorem tB_eq (t ρ q x : Int32) : tB t ρ q x = x ||| tb t ρ q := by
  unfold tB tb
  repeat' split
  all_goals first | rfl | simp
theorem tri_r (ρ : Int32) (h : qv 0 15 ρ) : (ρ ≤ 7 ∧ ¬ 8 ≤ ρ ∧ (ρ ≤ 3 ∧ ρ < 4 ∨ ¬ ρ ≤ 3 ∧ ¬ ρ < 4 ∧ ¬ 7 < ρ)) ∨ (¬ ρ ≤ 7 ∧ 8 ≤ ρ ∧ ¬ ρ ≤ 3 ∧ ¬ ρ < 4 ∧ 7 < ρ) := by
  have e3 : (3 : Int32).toInt = 3 := rfl
  have e4 : (4 : Int32).toInt = 4 := rfl
  have e7 : (7 : Int32).toInt = 7 := rfl
  have e8 : (8 : Int32).toInt = 8 := rfl
  simp only [Int32.lt_iff_toInt_lt, Int32.le_iff_toInt_le, e3, e4, e7, e8]
  omega
def pb (b i : Int32) : Int32 := (if b ≤ 7 then 0 else if 16 ≤ b then 0 else 1) ||| (if i ≤ 7 then 0 else 2)
theorem pb_eq {b i s : Int32} (h : ¬ f_X1_isSound b i s = 0) : f_X1_prefixBits b i = pb b i := by
  unfold f_X1_prefixBits f_X1_prefixBits_J3 f_X1_prefixBits_J7 f_X1_hasBaseRegister f_X1_hasBaseRegister_J4 pb
  rcases (snd_b h).1 with rfl | rfl | ⟨b1, b2, b3, b4⟩
  · by_cases hi : i ≤ 7 <;> simp [hi]
  · by_cases hi : i ≤ 7 <;> simp [hi]
  · by_cases hi : i ≤ 7 <;> by_cases hb : b ≤ 7 <;> simp [hi, hb, b1, b2, if_neg b3] <;> decide
theorem ob_eq {r q κ ρ o b i k : Int32} {kf rf : Nat → Int32} (hκ : f_X0_kindOf kf k = κ) (hρ : f_X0_registerOf rf k = ρ) (hk : okKR κ ρ) (h : opOK r q κ ρ o) (hb : κ = 2 → f_X1_prefixBits b i = pb b i) :
    f_X5_operandBits kf rf b i r k = tb (tT κ q) ρ q ||| (if κ = 2 then pb b i else 0) := by
  unfold f_X5_operandBits f_X5_operandBits_J5 tb tT
  rw [hκ, hρ]
  have hρ1 : κ = 1 → qv 0 15 ρ := by
    intro h1; subst h1
    rcases hk with ⟨h, -⟩ | ⟨-, h⟩ | ⟨h, -⟩ | ⟨h, -⟩
    · exact absurd h (by decide)
    · exact h
    · exact absurd h (by decide)
    · exact absurd h (by decide)
  rcases h with ⟨rfl, rfl, rfl, rfl⟩ | ⟨rfl, rfl, rfl⟩ | ⟨rfl, rfl, rfl, -, -⟩ | ⟨rfl, rfl, rfl, rfl⟩ | ⟨rfl, rfl, rfl, -⟩ | ⟨rfl, rfl, rfl, rfl⟩ | ⟨rfl, rfl, rfl, rfl⟩ | ⟨rfl, rfl, rfl⟩ | ⟨rfl, rfl, rfl, rfl⟩ | ⟨rfl, rfl, rfl, rfl⟩ | ⟨rfl, rfl, rfl, rfl⟩ | ⟨rfl, rfl, rfl, rfl⟩
  case inr.inl => rcases tri_r ρ (hρ1 rfl) with ⟨a1, a2, -⟩ | ⟨a1, a2, -⟩ <;> simp [a1, a2]
  case inr.inr.inl => rcases tri_r ρ (hρ1 rfl) with ⟨a1, a2, -⟩ | ⟨a1, a2, -⟩ <;> simp [a1, a2]
  case inr.inr.inr.inr.inl => rcases tri_r ρ (hρ1 rfl) with ⟨a1, a2, -⟩ | ⟨a1, a2, -⟩ <;> simp [a1, a2]
  case inr.inr.inr.inr.inr.inr.inr.inl => rcases tri_r ρ (hρ1 rfl) with ⟨a1, a2, -⟩ | ⟨a1, a2, -⟩ <;> simp [a1, a2]
  case inr.inr.inr.inl => simp [hb rfl]
  case inr.inr.inr.inr.inr.inl => simp [hb rfl]
  case inr.inr.inr.inr.inr.inr.inl => simp [hb rfl]
  all_goals simp
theorem nd_eq {r q κ ρ o p size n : Int32} (ho : rOps p.toNatClampNeg = o) (h14 : o = 14 → size = 8) (hk : okKR κ ρ) (h : opOK r q κ ρ o) :
    (if κ = 1 then (if f_X4_needsAnyPrefix r size ρ = 0 then n else 1) else n) = tN (tT κ q) (f_X7_width p q size) ρ n := by
  have hρ1 : κ = 1 → qv 0 15 ρ := by
    intro h1; subst h1
    rcases hk with ⟨h, -⟩ | ⟨-, h⟩ | ⟨h, -⟩ | ⟨h, -⟩
    · exact absurd h (by decide)
    · exact h
    · exact absurd h (by decide)
    · exact absurd h (by decide)
  unfold f_X4_needsAnyPrefix f_X4_needsAnyPrefix_J8 tN tT f_X7_width f_X7_width_J5 f_X7_width_J11
  rw [ho]
  have h148 : ¬ (8 : Int32) = 1 := by decide
  rcases h with ⟨rfl, rfl, rfl, rfl⟩ | ⟨rfl, rfl, rfl⟩ | ⟨rfl, rfl, rfl, o1, o2⟩ | ⟨rfl, rfl, rfl, rfl⟩ | ⟨rfl, rfl, rfl, o1⟩ | ⟨rfl, rfl, rfl, rfl⟩ | ⟨rfl, rfl, rfl, rfl⟩ | ⟨rfl, rfl, rfl⟩ | ⟨rfl, rfl, rfl, rfl⟩ | ⟨rfl, rfl, rfl, rfl⟩ | ⟨rfl, rfl, rfl, rfl⟩ | ⟨rfl, rfl, rfl, rfl⟩
  case inr.inl =>
    by_cases hs : size = 1 <;> rcases tri_r ρ (hρ1 rfl) with ⟨a1, a2, ⟨a3, a4⟩ | ⟨a3, a4, a5⟩⟩ | ⟨a1, a2, a3, a4, a5⟩ <;> simp [*]
  case inr.inr.inl =>
    by_cases h1 : o = 14
    · have := h14 h1
      subst h1
      subst this
      simp
    · by_cases hs : size = 1 <;> rcases tri_r ρ (hρ1 rfl) with ⟨a1, a2, ⟨a3, a4⟩ | ⟨a3, a4, a5⟩⟩ | ⟨a1, a2, a3, a4, a5⟩ <;> simp [*]
  case inr.inr.inr.inr.inl =>
    by_cases hs : size = 1 <;> rcases o1 with rfl | rfl <;> rcases tri_r ρ (hρ1 rfl) with ⟨a1, a2, ⟨a3, a4⟩ | ⟨a3, a4, a5⟩⟩ | ⟨a1, a2, a3, a4, a5⟩ <;> simp [*]
  case inr.inr.inr.inr.inr.inr.inr.inl =>
    by_cases hs : size = 1 <;> rcases tri_r ρ (hρ1 rfl) with ⟨a1, a2, ⟨a3, a4⟩ | ⟨a3, a4, a5⟩⟩ | ⟨a1, a2, a3, a4, a5⟩ <;> simp [*]
  all_goals (by_cases hs : size = 1 <;> simp [hs])
