theorem take_at (g : Int32) (fd : Nat → Int32) (n : Int32) : ∀ (fuel : Nat) (k : Int32) (v : Int64) (t sh : Int32), (n.toInt - k.toInt).toNat < fuel → 0 ≤ k.toInt → k.toInt ≤ n.toInt → n.toInt ≤ 100 → qv 0 100 t → t.toInt + (n.toInt - k.toInt) ≤ 100 → (f_X7_take_L14 g fd n fuel k v t sh).2.1.toInt = t.toInt + (n.toInt - k.toInt) := by
  intro fuel
  induction fuel with
  | zero => intro k v t sh h; exact absurd h (Nat.not_lt_zero _)
  | succ fuel ih =>
    intro k v t sh h h0 h1 h2 ht h3
    rw [f_X7_take_L14]
    by_cases c : n ≤ k
    · rw [if_pos c]
      have := Int32.le_iff_toInt_le.mp c
      unfold f_X7_take_J13
      repeat' split
      all_goals (show t.toInt = _; omega)
    · rw [if_neg c]
      have c' : ¬ n.toInt ≤ k.toInt := fun q => c (Int32.le_iff_toInt_le.mpr q)
      have hk : (k + 1).toInt = k.toInt + 1 := qv_inc (lo := 0) (hi := 100) ⟨h0, by omega⟩ (by decide)
      have ht1 : (t + 1).toInt = t.toInt + 1 := qv_inc ht (by decide)
      have hna := next_at g t sh fd
      generalize f_X7_next g t sh fd = z at hna ⊢
      obtain ⟨r, a, s9⟩ := z
      dsimp only at hna ⊢
      subst hna
      rw [ih (k + 1) _ (t + 1) s9 (qw_up h c) (by omega) (by omega) h2 ⟨by omega, by omega⟩ (by omega), hk, ht1]
      omega
theorem post_X7_take {a b c d lo' hi' : Int} {g t sh n r sh' : Int32} {v : Int64} {fd : Nat → Int32} (ht : qv a b t) (hn : qv c d n) (q : f_X7_take g t sh fd n = (v, r, sh')) (e1 : lo' ≤ a + c ∧ 0 ≤ a ∧ 0 ≤ c) (e2 : b + d ≤ hi' ∧ b + d ≤ 100 ∧ b ≤ 100 ∧ d ≤ 100) : qv lo' hi' r := by
  obtain ⟨p1, p2⟩ := ht
  obtain ⟨p3, p4⟩ := hn
  obtain ⟨e1, e3, e4⟩ := e1
  obtain ⟨e2, e5, e6, e7⟩ := e2
  have z : (0 : Int32).toInt = 0 := rfl
  have := take_at g fd n ((n.toInt - (0 : Int32).toInt).toNat + 1) 0 0 t sh (Nat.lt_succ_self _) (by decide) (by omega) (by omega) ⟨by omega, by omega⟩ (by omega)
  rw [f_X7_take] at q
  rw [q] at this
  dsimp only at this
  constructor <;> omega
