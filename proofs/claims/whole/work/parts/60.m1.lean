/-! the two tables, line by line -/
theorem tb_all {p : Nat → Bool} (h : (List.range 115).all p = true) {j : Nat} (hj : j < 115) : p j = true := List.all_eq_true.mp h j (List.mem_range.mpr hj)
theorem tb_op {j : Nat} (hj : j < 115) : f_X4_opOf (nI j) = rOps j := by
  have := tb_all (p := fun j => decide (f_X4_opOf (nI j) = rOps j)) (by decide +kernel) hj
  simpa using this
theorem tb_cond {j : Nat} (hj : j < 115) : f_X4_hasCondition (nI j) = f_X7_conditional (rOps j) := by
  have := tb_all (p := fun j => decide (f_X4_hasCondition (nI j) = f_X7_conditional (rOps j))) (by decide +kernel) hj
  simpa using this
