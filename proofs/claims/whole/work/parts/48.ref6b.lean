theorem next_at (g t sh : Int32) (fd : Nat → Int32) : (f_X7_next g t sh fd).2.1 = t + 1 := by
  unfold f_X7_next f_X7_next_J4 f_X7_next_J7
  repeat' split
  all_goals rfl
theorem next_r (g t sh : Int32) (fd : Nat → Int32) (ha : ∀ j : Nat, qv 0 255 (fd j)) : qv 0 255 (f_X7_next g t sh fd).1 := by
  unfold f_X7_next f_X7_next_J4 f_X7_next_J7
  repeat' split
  all_goals first | exact ha _ | exact (by decide : qv 0 255 (0 : Int32))
theorem post_X7_next {lo hi lo' hi' : Int} {g t sh r a sh' : Int32} {fd : Nat → Int32} (h : qv lo hi t) (q : f_X7_next g t sh fd = (r, a, sh')) (e1 : lo' ≤ lo + 1 ∧ -2147483648 ≤ lo + 1) (e2 : hi + 1 ≤ hi' ∧ hi + 1 < 2147483648) : qv lo' hi' a := by
  have h1 : a = t + 1 := by have := next_at g t sh fd; rw [q] at this; exact this
  subst h1
  exact qv_add h (⟨by decide, by decide⟩ : qv 1 1 (1 : Int32)) e1.1 e2.1 e1.2 e2.2
theorem post_X7_next_r {g t sh r a sh' : Int32} {fd : Nat → Int32} (ha : ∀ j : Nat, qv 0 255 (fd j)) (q : f_X7_next g t sh fd = (r, a, sh')) : qv 0 255 r := by
  have := next_r g t sh fd ha
  rw [q] at this
  exact this
theorem rel_X7_take {t x1 x2 g sh r a sh' : Int32} {fd : Nat → Int32} (hrel : x2.toInt = t.toInt + x1.toInt) (ht : qv 0 30 t) (hk : qv 0 7 x1) (q : f_X7_next g x2 sh fd = (r, a, sh')) : a.toInt = t.toInt + (x1 + 1).toInt := by
  have h1 : a = x2 + 1 := by have := next_at g x2 sh fd; rw [q] at this; exact this
  subst h1
  have hx2 : qv 0 37 x2 := qv_rel hrel ht hk (by decide) (by decide)
  rw [qv_inc hx2 (by decide), qv_inc hk (by decide), hrel]
  omega
