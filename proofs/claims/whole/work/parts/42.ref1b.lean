theorem qv_lb1 {lo hi l : Int} {x : Int32} (q : qv lo hi x) (e : l ≤ lo + 1) : l ≤ x.toInt + 1 := by
  have := q.1
  omega
theorem post_X7_room {a b r : Int32} (q : f_X7_room a b = r) : qv 0 8 r := by
  subst q
  unfold f_X7_room f_X7_room_J9
  repeat' split
  all_goals decide
theorem post_X7_put {lo hi lo' hi' : Int} {t b a : Int32} {tr r : Nat → Int32} (h : qv lo hi t) (q : f_X7_put t tr b = (a, r)) (e1 : lo' ≤ lo + 1 ∧ -2147483648 ≤ lo + 1) (e2 : hi + 1 ≤ hi' ∧ hi + 1 < 2147483648) : qv lo' hi' a := by
  have h1 : a = t + 1 := by rw [f_X7_put] at q; exact (Prod.mk.inj q).1.symm
  subst h1
  exact qv_add h (⟨by decide, by decide⟩ : qv 1 1 (1 : Int32)) e1.1 e2.1 e1.2 e2.2
theorem qv_inc {lo hi : Int} {x : Int32} (h : qv lo hi x) (h2 : hi < 2147483647) : (x + 1).toInt = x.toInt + 1 := by
  obtain ⟨p1, p2⟩ := h
  have := x.le_toInt
  rw [Int32.toInt_add]
  exact qv_bm (by show -2147483648 ≤ x.toInt + 1; omega) (by show x.toInt + 1 < 2147483648; omega)
theorem rel_X7_putAll {t x1 x2 b a : Int32} {tr r : Nat → Int32} (hrel : x2.toInt = t.toInt + x1.toInt) (ht : qv 0 12 t) (hk : qv 0 7 x1) (q : f_X7_put x2 tr b = (a, r)) : a.toInt = t.toInt + (x1 + 1).toInt := by
  have h1 : a = x2 + 1 := by rw [f_X7_put] at q; exact (Prod.mk.inj q).1.symm
  subst h1
  have hx2 : qv 0 19 x2 := qv_rel hrel ht hk (by decide) (by decide)
  rw [qv_inc hx2 (by decide), qv_inc hk (by decide), hrel]
  omega
