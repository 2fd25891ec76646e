/-! from the opcode on: class and reference alike -/
def mostR (j : Nat) : Int32 := if rPats j = 5 then 7 else if rPats j = 6 then 7 else if f_X7_conditional (rOps j) = 0 then (if rSizes j = 0 then 1 else 0) else 15
def rightR (z w : Int32) : Int32 := if z = 6 then (if w = 0 then 1 else 0) else if z = 7 then w else if z = 3 then w else 1
def sizeR (z off w : Int32) : Int32 := if z = 0 then (if off = 0 then 1 else if w = 0 then 4 else 8) else if z = 5 then 1 else if z = 1 then (if w = 0 then 4 else 8) else if z = 6 then 4 else if z = 4 then 0 else 8
def lineT (j : Nat) : Prop :=
  (rPats j = 0 ∨ rPats j = 1 ∨ rPats j = 2 ∨ rPats j = 3 ∨ rPats j = 4 ∨ rPats j = 5 ∨ rPats j = 6 ∨ rPats j = 7 ∨ rPats j = 8 ∨ rPats j = 9 ∨ rPats j = 10 ∨ rPats j = 11 ∨ rPats j = 12) ∧
  (f_X4_opcodes (nI j) = mostR j + 1) ∧
  (¬ rLeads j = 15 → (15 - rCodes j < 0 ∨ ¬ 15 - rCodes j ≤ mostR j)) ∧
  (¬ 8 ≤ rTells j → f_X7_hasForm (rPats j) = 1) ∧
  (f_X4_roleOf (nI j) 0 = 5 → mostR j = 7 ∧ ∀ o, o < 8 → (f_X4_opcodeOf (nI j) + nI o) &&& 7 = nI o) ∧
  ((rPats j = 11 ∧ f_X4_cell (nI j) 6 = 7 ∧ rNums j = 0) ∨ (¬ rPats j = 11 ∧ numOK (f_X4_cell (nI j) 6) (rNums j)) ∨ (¬ rPats j = 11 ∧ f_X4_cell (nI j) 6 = 0 ∧ rNums j = 0)) ∧
  (mostR j = 0 ∨ mostR j = 1 ∨ mostR j = 7 ∨ mostR j = 15)
def lineTB (j : Nat) : Bool :=
  decide (rPats j = 0 ∨ rPats j = 1 ∨ rPats j = 2 ∨ rPats j = 3 ∨ rPats j = 4 ∨ rPats j = 5 ∨ rPats j = 6 ∨ rPats j = 7 ∨ rPats j = 8 ∨ rPats j = 9 ∨ rPats j = 10 ∨ rPats j = 11 ∨ rPats j = 12) &&
  decide (f_X4_opcodes (nI j) = mostR j + 1) &&
  decide (¬ rLeads j = 15 → (15 - rCodes j < 0 ∨ ¬ 15 - rCodes j ≤ mostR j)) &&
  decide (¬ 8 ≤ rTells j → f_X7_hasForm (rPats j) = 1) &&
  decide (f_X4_roleOf (nI j) 0 = 5 → mostR j = 7 ∧ (List.range 8).all (fun o => decide ((f_X4_opcodeOf (nI j) + nI o) &&& 7 = nI o)) = true) &&
  decide ((rPats j = 11 ∧ f_X4_cell (nI j) 6 = 7 ∧ rNums j = 0) ∨ (¬ rPats j = 11 ∧ numOK (f_X4_cell (nI j) 6) (rNums j)) ∨ (¬ rPats j = 11 ∧ f_X4_cell (nI j) 6 = 0 ∧ rNums j = 0)) &&
  decide (mostR j = 0 ∨ mostR j = 1 ∨ mostR j = 7 ∨ mostR j = 15)
theorem tb_lineT {j : Nat} (hj : j < 115) : lineT j := by
  have := tb_all (p := lineTB) (by decide +kernel) hj
  simp only [lineTB, Bool.and_eq_true, decide_eq_true_eq] at this
  obtain ⟨⟨⟨⟨⟨⟨a, b⟩, c⟩, d⟩, e⟩, f⟩, g⟩ := this
  exact ⟨a, b, c, d, fun h => ⟨(e h).1, fun o ho => of_decide_eq_true (List.all_eq_true.mp (e h).2 o (List.mem_range.mpr ho))⟩, f, g⟩
theorem J13_m {C pfx pfd p a s : Int32} {found fed : Nat → Int32} {code a' s' : Int32} (h : f_X7_next C a s fed = (code, a', s')) : f_X7_fits_J13 C pfx pfd found fed p a s = f_X7_fits_J29 C pfx pfd found fed p code a' s' (if rSizes p.toNatClampNeg = 0 then 1 else 0) (mostR p.toNatClampNeg) := by
  unfold f_X7_fits_J13 f_X7_fits_J21 f_X7_fits_J24 mostR
  rw [h]
  dsimp only
  by_cases h1 : rPats p.toNatClampNeg = 5
  · by_cases h3 : rSizes p.toNatClampNeg = 0 <;> simp [h1, h3]
  · by_cases h2 : rPats p.toNatClampNeg = 6
    · by_cases h3 : rSizes p.toNatClampNeg = 0 <;> simp [h2, h3]
    · by_cases h3 : rSizes p.toNatClampNeg = 0 <;> by_cases h4 : f_X7_conditional (rOps p.toNatClampNeg) = 0 <;> simp [h1, h2, h3, h4]
theorem J29_z {C pfx pfd p code a s x m : Int32} {found fed : Nat → Int32} (h : code - rCodes p.toNatClampNeg < 0 ∨ ¬ code - rCodes p.toNatClampNeg ≤ m) : (f_X7_fits_J29 C pfx pfd found fed p code a s x m).1 = 0 := by
  unfold f_X7_fits_J29
  by_cases h1 : code - rCodes p.toNatClampNeg < 0
  · rw [if_pos h1]
  · rcases h with h | h
    · exact absurd h h1
    · rw [if_neg h1, if_neg h]
theorem J29_ok {C pfx pfd p code a s x m : Int32} {found fed : Nat → Int32} (h1 : ¬ code - rCodes p.toNatClampNeg < 0) (h2 : code - rCodes p.toNatClampNeg ≤ m) : f_X7_fits_J29 C pfx pfd found fed p code a s x m = f_X7_fits_J34 C pfx pfd found fed p code a s x (if pfx &&& 8 = 0 then 0 else 1) := by
  unfold f_X7_fits_J29
  rw [if_neg h1, if_pos h2]
  by_cases h3 : pfx &&& 8 = 0
  · rw [if_pos h3, if_pos h3]
  · rw [if_neg h3, if_neg h3]
theorem J34_z {C pfx pfd p code a s x w : Int32} {found fed : Nat → Int32} (h : rightR (rSizes p.toNatClampNeg) w = 0) : (f_X7_fits_J34 C pfx pfd found fed p code a s x w).1 = 0 := by
  unfold f_X7_fits_J34 f_X7_fits_J40
  unfold rightR at h
  by_cases h1 : rSizes p.toNatClampNeg = 6
  · rw [if_pos h1] at h
    rw [if_pos h1]
    by_cases h2 : w = 0
    · rw [if_pos h2] at h
      exact absurd h (by decide)
    · rw [if_neg h2, if_pos rfl]
  · rw [if_neg h1] at h
    rw [if_neg h1]
    by_cases h2 : rSizes p.toNatClampNeg = 7
    · rw [if_pos h2] at h
      rw [if_pos h2, if_pos h]
    · rw [if_neg h2] at h
      rw [if_neg h2]
      by_cases h3 : rSizes p.toNatClampNeg = 3
      · rw [if_pos h3] at h
        rw [if_pos h3, if_pos h]
      · rw [if_neg h3] at h
        exact absurd h (by decide)
set_option maxHeartbeats 4000000 in
theorem J34_ok {C pfx pfd p code a s w L : Int32} {found fed : Nat → Int32} (hz : szOK L (rSizes p.toNatClampNeg)) (hw : w = 0 ∨ w = 1) (h : ¬ rightR (rSizes p.toNatClampNeg) w = 0) : f_X7_fits_J34 C pfx pfd found fed p code a s (if rSizes p.toNatClampNeg = 0 then 1 else 0) w = f_X7_fits_J59 C pfx pfd found fed p code a s (sizeR (rSizes p.toNatClampNeg) (code - rCodes p.toNatClampNeg) w) := by
  unfold f_X7_fits_J34 f_X7_fits_J40 sizeR
  unfold rightR at h
  generalize rSizes p.toNatClampNeg = z at hz h ⊢
  by_cases h0 : code - rCodes p.toNatClampNeg = 0 <;> rcases hw with rfl | rfl <;> rcases hz with ⟨-, rfl⟩ | ⟨-, rfl⟩ | ⟨-, rfl⟩ | ⟨-, rfl⟩ | ⟨-, rfl⟩ | ⟨-, rfl⟩ | ⟨-, rfl⟩ | ⟨-, rfl⟩ <;> simp [h0] at h ⊢
theorem told_eq {L z off w : Int32} (hz : szOK (f_X4_cell L 2) z) (hw : w = 0 ∨ w = 1) (h : ¬ rightR z w = 0) : f_X4_sizeTold L off w = sizeR z off w := by
  unfold f_X4_sizeTold f_X4_sizeTold_J5 f_X4_sizeTold_J9 sizeR
  unfold rightR at h
  generalize f_X4_cell L 2 = y at hz ⊢
  by_cases h0 : off = 0 <;> rcases hw with rfl | rfl <;> rcases hz with ⟨rfl, rfl⟩ | ⟨rfl, rfl⟩ | ⟨rfl, rfl⟩ | ⟨rfl, rfl⟩ | ⟨rfl, rfl⟩ | ⟨rfl, rfl⟩ | ⟨rfl, rfl⟩ | ⟨rfl, rfl⟩ <;> simp [h0] at h ⊢
theorem aW_eq {L z w : Int32} (hz : szOK (f_X4_cell L 2) z) (hw : w = 0 ∨ w = 1) : f_X4_allowsW L w = 0 ↔ rightR z w = 0 := by
  unfold f_X4_allowsW f_X4_allowsW_J5 rightR
  generalize f_X4_cell L 2 = y at hz ⊢
  rcases hw with rfl | rfl <;> rcases hz with ⟨rfl, rfl⟩ | ⟨rfl, rfl⟩ | ⟨rfl, rfl⟩ | ⟨rfl, rfl⟩ | ⟨rfl, rfl⟩ | ⟨rfl, rfl⟩ | ⟨rfl, rfl⟩ | ⟨rfl, rfl⟩ <;> simp
theorem size14 {z L off w : Int32} (hz : szOK L z) (h : L = 5) : sizeR z off w = 8 := by
  subst h
  unfold sizeR
  rcases hz with ⟨a, -⟩ | ⟨a, -⟩ | ⟨a, -⟩ | ⟨a, -⟩ | ⟨a, -⟩ | ⟨-, rfl⟩ | ⟨-, rfl⟩ | ⟨a, -⟩
  · exact absurd a (by decide)
  · exact absurd a (by decide)
  · exact absurd a (by decide)
  · exact absurd a (by decide)
  · exact absurd a (by decide)
  · simp
  · simp
  · exact absurd a (by decide)
theorem oct_ok {c n : Nat} {row fed : Nat → Int32} (hR : Row c row fed) (hn : n ≤ c) : ∃ r nx' f' a' s', r < 256 ∧ nI r = (if n < c then row n else 0) ∧ f_X3_nextOctet (nI n) 0 (nI c) row = (nI r, nx', f') ∧ f_X7_next (nI c) (nI n) 0 fed = (nI r, a', s') ∧ Cur c nx' f' a' s' ∧ (n < c → row n = nI r ∧ nx' = nI (n + 1) ∧ a' = nI (n + 1) ∧ f' = 0 ∧ s' = 0) ∧ (¬ n < c → f' = 1 ∧ s' = 1) := by
  have hc := hR.1
  rw [oct_eq hR (by omega), nxt_eq hc (by omega)]
  by_cases h : n < c
  · obtain ⟨r, e, h1, h2⟩ := qv_nI (hR.2.2 n h) (by decide)
    refine ⟨r, nI (n + 1), 0, nI (n + 1), 0, by omega, by rw [if_pos h, e], ?_, ?_, Or.inr ⟨rfl, rfl, n + 1, by omega, by omega, rfl, rfl⟩, fun _ => ⟨e, rfl, rfl, rfl, rfl⟩, fun h' => absurd h h'⟩
    · rw [if_pos h, e]
    · rw [if_pos h, ← hR.2.1 n h, e]
      simp only [h, if_true]
  · refine ⟨0, nI n, 1, nI (n + 1), 1, by omega, by rw [if_neg h, nI_0], ?_, ?_, Or.inl ⟨rfl, rfl⟩, fun h' => absurd h' h, fun _ => ⟨rfl, rfl⟩⟩
    · rw [if_neg h, nI_0]
    · rw [if_neg h, nI_0]
      simp only [h, if_true, if_false]
def K00 (k : Nat → Int32) : Nat → Int32 := upd (upd (upd k (0 : Int32).toNatClampNeg 0) (1 : Int32).toNatClampNeg 0) (2 : Int32).toNatClampNeg 0
theorem K00_0 (k : Nat → Int32) : K00 k 0 = 0 ∧ K00 k 1 = 0 ∧ K00 k 2 = 0 := by
  simp [K00, upd, cl0, cl1, cl2]
theorem J3_n {nx f pfd pfx oc oform C x2 p : Int32} {row kf rf : Nat → Int32} (h : f_X4_hasForm p = 0) : f_X3_readLine_J3 nx f pfd pfx oc oform C row kf rf p x2 = f_X3_readLine_J35 pfd pfx oc C row p (f_X4_opOf p) (f_X4_sizeTold p (oc - f_X4_opcodeOf p) (f_X3_hasBit pfx 8)) x2 (K00 kf) (K00 rf) nx f oform (-1) (-1) 1 0 := by
  unfold f_X3_readLine_J3 f_X0_begin f_X1_becomeNone f_X1_become K00
  simp only [setOp hk0, setOp hk1, setOp hk2]
  rw [if_pos h]
theorem J3_f {nx f pfd pfx oc oform C x2 p v nx' f' : Int32} {row kf rf : Nat → Int32} (h : ¬ f_X4_hasForm p = 0) (e : f_X3_nextOctet nx f C row = (v, nx', f')) : f_X3_readLine_J3 nx f pfd pfx oc oform C row kf rf p x2 = (if f_X3_formMod v = (3 : Int32) then (f_X3_readLine_J35 pfd pfx oc C row p (f_X4_opOf p) (f_X4_sizeTold p (oc - f_X4_opcodeOf p) (f_X3_hasBit pfx 8)) x2 (K00 kf) (K00 rf) nx' f' v (-1) (-1) 1 0) else (match (f_X3_readMemory nx' f' pfx v C row) with | (y21, y22, y23, y24, y25, y26) => f_X3_readLine_J35 pfd pfx oc C row p (f_X4_opOf p) (f_X4_sizeTold p (oc - f_X4_opcodeOf p) (f_X3_hasBit pfx 8)) x2 (K00 kf) (K00 rf) y21 y22 v y23 y24 y25 y26)) := by
  unfold f_X3_readLine_J3 f_X0_begin f_X1_becomeNone f_X1_become K00
  simp only [setOp hk0, setOp hk1, setOp hk2]
  rw [if_neg h, e]
theorem J62_n {C pfx pfd p code a s size cond : Int32} {found fed : Nat → Int32} (h : f_X7_hasForm (rPats p.toNatClampNeg) = 0) : f_X7_fits_J62 C pfx pfd found fed p code a s size cond = f_X7_fits_J75 C pfx pfd found fed p code size cond 0 a s := by
  unfold f_X7_fits_J62 f_X7_fits_J71
  rw [if_pos h, if_pos h]
theorem J62_f {C pfx pfd p code a s size cond v a' s' : Int32} {found fed : Nat → Int32} (h : ¬ f_X7_hasForm (rPats p.toNatClampNeg) = 0) (e : f_X7_next C a s fed = (v, a', s')) (hd : 8 ≤ rTells p.toNatClampNeg ∨ ((v >>> ((3 : Int32) &&& 31)) &&& 7) = rTells p.toNatClampNeg) : f_X7_fits_J62 C pfx pfd found fed p code a s size cond = f_X7_fits_J75 C pfx pfd found fed p code size cond v a' s' := by
  unfold f_X7_fits_J62 f_X7_fits_J71
  rw [if_neg h, e]
  dsimp only
  rw [if_neg h]
  by_cases h8 : 8 ≤ rTells p.toNatClampNeg
  · rw [if_pos h8]
  · rcases hd with hd | hd
    · exact absurd hd h8
    · rw [if_neg h8, if_pos hd]
theorem J62_z {C pfx pfd p code a s size cond v a' s' : Int32} {found fed : Nat → Int32} (h : ¬ f_X7_hasForm (rPats p.toNatClampNeg) = 0) (e : f_X7_next C a s fed = (v, a', s')) (h8 : ¬ 8 ≤ rTells p.toNatClampNeg) (hd : ¬ ((v >>> ((3 : Int32) &&& 31)) &&& 7) = rTells p.toNatClampNeg) : (f_X7_fits_J62 C pfx pfd found fed p code a s size cond).1 = 0 := by
  unfold f_X7_fits_J62 f_X7_fits_J71
  rw [if_neg h, e]
  dsimp only
  rw [if_neg h, if_neg h8, if_neg hd]
theorem bit8 (x : Int32) : f_X3_hasBit x 8 = if x &&& 8 = 0 then 0 else 1 := by
  unfold f_X3_hasBit f_X3_hasBit_J3
  rfl
theorem inv1 {r o : Int32} (h : pairOK r 1 o) : r = 1 := by
  rcases h with ⟨-, b⟩ | ⟨a, -⟩ | ⟨-, b, -⟩ | ⟨-, b, -⟩ | ⟨-, b⟩ | ⟨-, b⟩ | ⟨-, b⟩ | ⟨-, b⟩ | ⟨-, b⟩ | ⟨-, b⟩
  all_goals first | exact a | exact absurd b (by decide)
theorem inv0 {r o : Int32} (h : pairOK r 0 o) : r = 0 := by
  rcases h with ⟨a, b⟩ | ⟨a, b⟩ | ⟨-, b, -⟩ | ⟨-, b, -⟩ | ⟨a, b⟩ | ⟨a, b⟩ | ⟨a, b⟩ | ⟨a, b⟩ | ⟨a, b⟩ | ⟨a, b⟩
  all_goals first | exact absurd b (by decide) | exact a
theorem inv3 {r o : Int32} (h : pairOK r 3 o) : r = 8 := by
  rcases h with ⟨a, b⟩ | ⟨a, b⟩ | ⟨-, b, -⟩ | ⟨-, b, -⟩ | ⟨a, b⟩ | ⟨a, b⟩ | ⟨a, b⟩ | ⟨a, b⟩ | ⟨a, b⟩ | ⟨a, b⟩
  all_goals first | exact absurd b (by decide) | exact a
theorem inv4 {r o : Int32} (h : pairOK r 4 o) : r = 6 := by
  rcases h with ⟨a, b⟩ | ⟨a, b⟩ | ⟨-, b, -⟩ | ⟨-, b, -⟩ | ⟨a, b⟩ | ⟨a, b⟩ | ⟨a, b⟩ | ⟨a, b⟩ | ⟨a, b⟩ | ⟨a, b⟩
  all_goals first | exact absurd b (by decide) | exact a
theorem inv5 {r o : Int32} (h : pairOK r 5 o) : r = 5 := by
  rcases h with ⟨a, b⟩ | ⟨a, b⟩ | ⟨-, b, -⟩ | ⟨-, b, -⟩ | ⟨a, b⟩ | ⟨a, b⟩ | ⟨a, b⟩ | ⟨a, b⟩ | ⟨a, b⟩ | ⟨a, b⟩
  all_goals first | exact absurd b (by decide) | exact a
theorem inv6 {r o : Int32} (h : pairOK r 6 o) : r = 4 := by
  rcases h with ⟨a, b⟩ | ⟨a, b⟩ | ⟨-, b, -⟩ | ⟨-, b, -⟩ | ⟨a, b⟩ | ⟨a, b⟩ | ⟨a, b⟩ | ⟨a, b⟩ | ⟨a, b⟩ | ⟨a, b⟩
  all_goals first | exact absurd b (by decide) | exact a
theorem inv7 {r o : Int32} (h : pairOK r 7 o) : r = 8 := by
  rcases h with ⟨a, b⟩ | ⟨a, b⟩ | ⟨-, b, -⟩ | ⟨-, b, -⟩ | ⟨a, b⟩ | ⟨a, b⟩ | ⟨a, b⟩ | ⟨a, b⟩ | ⟨a, b⟩ | ⟨a, b⟩
  all_goals first | exact absurd b (by decide) | exact a
theorem inv8 {r o : Int32} (h : pairOK r 8 o) : r = 7 := by
  rcases h with ⟨a, b⟩ | ⟨a, b⟩ | ⟨-, b, -⟩ | ⟨-, b, -⟩ | ⟨a, b⟩ | ⟨a, b⟩ | ⟨a, b⟩ | ⟨a, b⟩ | ⟨a, b⟩ | ⟨a, b⟩
  all_goals first | exact absurd b (by decide) | exact a
theorem inv2 {r o : Int32} (h : pairOK r 2 o) : (r = 2 ∧ ¬ o = 12 ∧ ¬ o = 13) ∨ (r = 3 ∧ (o = 12 ∨ o = 13)) := by
  rcases h with ⟨-, b⟩ | ⟨-, b⟩ | ⟨a, -, h1, h2⟩ | ⟨a, -, h1⟩ | ⟨-, b⟩ | ⟨-, b⟩ | ⟨-, b⟩ | ⟨-, b⟩ | ⟨-, b⟩ | ⟨-, b⟩
  all_goals first | exact absurd b (by decide) | exact Or.inl ⟨a, h1, h2⟩ | exact Or.inr ⟨a, h1⟩
theorem readLine_nf {nx f pfd pfx oc oform C p : Int32} {row kf rf : Nat → Int32} : f_X3_readLine nx f pfd pfx oc oform C row kf rf p = f_X3_readLine_J3 nx f pfd pfx oc oform C row kf rf p (if f_X4_hasCondition p = 0 then 0 else oc - f_X4_opcodeOf p) := by
  unfold f_X3_readLine
  by_cases h : f_X4_hasCondition p = 0
  · rw [if_pos h, if_pos h]
  · rw [if_neg h, if_neg h]
theorem J59_nf {C pfx pfd p code a s size : Int32} {found fed : Nat → Int32} : f_X7_fits_J59 C pfx pfd found fed p code a s size = f_X7_fits_J62 C pfx pfd found fed p code a s size (if f_X7_conditional (rOps p.toNatClampNeg) = 0 then 0 else code - rCodes p.toNatClampNeg) := by
  unfold f_X7_fits_J59
  by_cases h : f_X7_conditional (rOps p.toNatClampNeg) = 0
  · rw [if_pos h, if_pos h]
  · rw [if_neg h, if_neg h]
theorem off_nI {o m : Int32} (h0 : ¬ o < 0) (h : o ≤ m) (hm : m = 7) : ∃ k : Nat, k < 8 ∧ o = nI k := by
  subst hm
  obtain ⟨k, h1, h2⟩ := nI_of2 (n := 7) (M := 7) rfl h0 h
  exact ⟨k, by omega, h2⟩
set_option maxHeartbeats 4000000 in
theorem line_gen {c j x r : Nat} {row fed : Nat → Int32} (hR : Row c row fed) (hj : j < 115) (hx : x < 16) {nx f a s nx' f' a' s' : Int32} (hcu : Cur c nx f a s) (hr256 : r < 256) (e1 : f_X3_nextOctet nx f (nI c) row = (nI r, nx', f')) (e2 : f_X7_next (nI c) a s fed = (nI r, a', s')) (hcu' : Cur c nx' f' a' s') (hdig : 8 ≤ rTells j ∨ (((nI r) >>> ((3 : Int32) &&& 31)) &&& 7) = rTells j) {pfd code opcode oform : Int32} (hpp : pfd = 0 → x = 0) (hoff : opcode - f_X4_opcodeOf (nI j) = code - rCodes j) (h0 : ¬ code - rCodes j < 0) (hm : code - rCodes j ≤ mostR j) (hr : ¬ rightR (rSizes j) (if nI x &&& 8 = 0 then 0 else 1) = 0) (found kf rf : Nat → Int32) :
    ∃ f0, (f0 = f ∨ f0 = f') ∧ (f_X7_hasForm (rPats j) = 1 → f0 = f') ∧ LR c f0 (f_X3_readLine nx f pfd (nI x) opcode oform (nI c) row kf rf (nI j)) (f_X7_fits_J59 (nI c) (nI x) pfd found fed (nI j) code a s (sizeR (rSizes j) (code - rCodes j) (if nI x &&& 8 = 0 then 0 else 1))) := by
  have hc := nI_cl hj
  obtain ⟨p0, p1, p2, -, -, -, sz, s14⟩ := tb_line hj
  obtain ⟨-, -, q3, -, q5, q6, -⟩ := tb_lineQ hj
  obtain ⟨t1, t2, -, t4, t5, t6, -⟩ := tb_lineT hj
  have hw : (if nI x &&& 8 = 0 then (0 : Int32) else 1) = 0 ∨ (if nI x &&& 8 = 0 then (0 : Int32) else 1) = 1 := by
    by_cases h : nI x &&& 8 = 0
    · rw [if_pos h]; exact Or.inl rfl
    · rw [if_neg h]; exact Or.inr rfl
  have hsz : f_X4_sizeTold (nI j) (opcode - f_X4_opcodeOf (nI j)) (f_X3_hasBit (nI x) 8) = sizeR (rSizes j) (code - rCodes j) (if nI x &&& 8 = 0 then 0 else 1) := by
    rw [bit8, hoff]
    exact told_eq sz hw hr
  have h14 : rOps j = 14 → sizeR (rSizes j) (code - rCodes j) (if nI x &&& 8 = 0 then 0 else 1) = 8 := fun h => size14 sz (s14 h)
  have hn5 : f_X4_roleOf (nI j) 0 = 5 → opcode &&& 7 = code - rCodes j ∧ qv 0 7 (code - rCodes j) := by
    intro h5
    obtain ⟨m7, ho⟩ := t5 h5
    obtain ⟨k, hk, e⟩ := off_nI h0 hm m7
    have hop : opcode = f_X4_opcodeOf (nI j) + nI k := by
      rw [← e, ← hoff, Int32.add_comm, Int32.sub_add_cancel]
    rw [e, hop]
    exact ⟨ho k hk, by rw [nI_toInt (by omega)]; omega, by rw [nI_toInt (by omega)]; omega⟩
  rw [readLine_nf, J59_nf, hc, tb_cond hj, hoff]
  generalize sizeR (rSizes j) (code - rCodes j) (if nI x &&& 8 = 0 then 0 else 1) = size at hsz h14 ⊢
  generalize (if f_X7_conditional (rOps j) = 0 then 0 else code - rCodes j) = cond
  obtain ⟨ka, kb, kc⟩ := K00_0 kf
  obtain ⟨ra, rb, rc⟩ := K00_0 rf
  rcases t1 with hp | hp | hp | hp | hp | hp | hp | hp | hp | hp | hp | hp | hp
  · obtain ⟨z0, z1, z2⟩ := pl_0
    rw [hp] at p0 p1 p2 q6
    rw [z0] at p0
    rw [z1] at p1
    rw [z2] at p2
    have hnn : numOK (f_X4_cell (nI j) 6) (rNums (nI j).toNatClampNeg) ∨ (f_X4_cell (nI j) 6 = 7 ∧ rNums (nI j).toNatClampNeg = 0 ∧ (0 : Int64) = 1) ∨ (f_X4_cell (nI j) 6 = 0 ∧ rNums (nI j).toNatClampNeg = 0 ∧ (0 : Int64) = 0) := by
      rw [hc]
      rcases t6 with ⟨a, -⟩ | ⟨-, a⟩ | ⟨-, a, b⟩
      · rw [hp] at a
        exact absurd a (by decide)
      · exact Or.inl a
      · exact Or.inr (Or.inr ⟨a, b, rfl⟩)
    have hT := tail_0 (size := size) (cond := cond) (code := code) (opcode := opcode) (p := nI j) hR hx hcu hpp (by rw [hc]; exact hp) (inv0 p0) (inv0 p1) (inv0 p2) hnn 0 oform ka kb kc ra rb rc found
    have hff : f_X7_hasForm (rPats (nI j).toNatClampNeg) = 0 := by rw [hc, hp]; decide
    have hfc : f_X4_hasForm (nI j) = 0 := by rw [q6]; decide
    rw [J3_n hfc, J62_n hff, hsz, tb_op hj]
    rw [hc] at hT
    exact ⟨f, Or.inl rfl, fun h => absurd h (by rw [hp]; decide), hT⟩
  · obtain ⟨z0, z1, z2⟩ := pl_1
    rw [hp] at p0 p1 p2 q6
    rw [z0] at p0
    rw [z1] at p1
    rw [z2] at p2
    have hnn : numOK (f_X4_cell (nI j) 6) (rNums (nI j).toNatClampNeg) ∨ (f_X4_cell (nI j) 6 = 7 ∧ rNums (nI j).toNatClampNeg = 0 ∧ (0 : Int64) = 1) ∨ (f_X4_cell (nI j) 6 = 0 ∧ rNums (nI j).toNatClampNeg = 0 ∧ (0 : Int64) = 0) := by
      rw [hc]
      rcases t6 with ⟨a, -⟩ | ⟨-, a⟩ | ⟨-, a, b⟩
      · rw [hp] at a
        exact absurd a (by decide)
      · exact Or.inl a
      · exact Or.inr (Or.inr ⟨a, b, rfl⟩)
    have hT := tail_1 (size := size) (cond := cond) (code := code) (opcode := opcode) (p := nI j) hR hx hcu' hpp (by rw [hc]; exact hp) rfl (by rw [hc]; exact inv2 p0) (by rw [hc]; exact h14) (inv1 p1) (inv0 p2) hnn hr256 ka kb kc ra rb rc found
    have hff : ¬ f_X7_hasForm (rPats (nI j).toNatClampNeg) = 0 := by rw [hc, hp]; decide
    have hfc : ¬ f_X4_hasForm (nI j) = 0 := by rw [q6]; decide
    rw [J3_f hfc e1, J62_f hff e2 (by rw [hc]; exact hdig), hsz, tb_op hj]
    rw [hc] at hT
    exact ⟨f', Or.inr rfl, fun _ => rfl, hT⟩
  · obtain ⟨z0, z1, z2⟩ := pl_2
    rw [hp] at p0 p1 p2 q6
    rw [z0] at p0
    rw [z1] at p1
    rw [z2] at p2
    have hnn : numOK (f_X4_cell (nI j) 6) (rNums (nI j).toNatClampNeg) ∨ (f_X4_cell (nI j) 6 = 7 ∧ rNums (nI j).toNatClampNeg = 0 ∧ (0 : Int64) = 1) ∨ (f_X4_cell (nI j) 6 = 0 ∧ rNums (nI j).toNatClampNeg = 0 ∧ (0 : Int64) = 0) := by
      rw [hc]
      rcases t6 with ⟨a, -⟩ | ⟨-, a⟩ | ⟨-, a, b⟩
      · rw [hp] at a
        exact absurd a (by decide)
      · exact Or.inl a
      · exact Or.inr (Or.inr ⟨a, b, rfl⟩)
    have hT := tail_2 (size := size) (cond := cond) (code := code) (opcode := opcode) (p := nI j) hR hx hcu' hpp (by rw [hc]; exact hp) (inv1 p0) rfl (by rw [hc]; exact inv2 p1) (by rw [hc]; exact h14) (inv0 p2) hnn hr256 ka kb kc ra rb rc found
    have hff : ¬ f_X7_hasForm (rPats (nI j).toNatClampNeg) = 0 := by rw [hc, hp]; decide
    have hfc : ¬ f_X4_hasForm (nI j) = 0 := by rw [q6]; decide
    rw [J3_f hfc e1, J62_f hff e2 (by rw [hc]; exact hdig), hsz, tb_op hj]
    rw [hc] at hT
    exact ⟨f', Or.inr rfl, fun _ => rfl, hT⟩
  · obtain ⟨z0, z1, z2⟩ := pl_3
    rw [hp] at p0 p1 p2 q6
    rw [z0] at p0
    rw [z1] at p1
    rw [z2] at p2
    have hnn : numOK (f_X4_cell (nI j) 6) (rNums (nI j).toNatClampNeg) ∨ (f_X4_cell (nI j) 6 = 7 ∧ rNums (nI j).toNatClampNeg = 0 ∧ (0 : Int64) = 1) ∨ (f_X4_cell (nI j) 6 = 0 ∧ rNums (nI j).toNatClampNeg = 0 ∧ (0 : Int64) = 0) := by
      rw [hc]
      rcases t6 with ⟨a, -⟩ | ⟨-, a⟩ | ⟨-, a, b⟩
      · rw [hp] at a
        exact absurd a (by decide)
      · exact Or.inl a
      · exact Or.inr (Or.inr ⟨a, b, rfl⟩)
    have hT := tail_3 (size := size) (cond := cond) (code := code) (opcode := opcode) (p := nI j) hR hx hcu hpp (by rw [hc]; exact hp) (inv4 p0) (inv3 p1) (inv0 p2) hnn 0 oform ka kb kc ra rb rc found
    have hff : f_X7_hasForm (rPats (nI j).toNatClampNeg) = 0 := by rw [hc, hp]; decide
    have hfc : f_X4_hasForm (nI j) = 0 := by rw [q6]; decide
    rw [J3_n hfc, J62_n hff, hsz, tb_op hj]
    rw [hc] at hT
    exact ⟨f, Or.inl rfl, fun h => absurd h (by rw [hp]; decide), hT⟩
  · obtain ⟨z0, z1, z2⟩ := pl_4
    rw [hp] at p0 p1 p2 q6
    rw [z0] at p0
    rw [z1] at p1
    rw [z2] at p2
    have hnn : numOK (f_X4_cell (nI j) 6) (rNums (nI j).toNatClampNeg) ∨ (f_X4_cell (nI j) 6 = 7 ∧ rNums (nI j).toNatClampNeg = 0 ∧ (0 : Int64) = 1) ∨ (f_X4_cell (nI j) 6 = 0 ∧ rNums (nI j).toNatClampNeg = 0 ∧ (0 : Int64) = 0) := by
      rw [hc]
      rcases t6 with ⟨a, -⟩ | ⟨-, a⟩ | ⟨-, a, b⟩
      · rw [hp] at a
        exact absurd a (by decide)
      · exact Or.inl a
      · exact Or.inr (Or.inr ⟨a, b, rfl⟩)
    have hT := tail_4 (size := size) (cond := cond) (code := code) (opcode := opcode) (p := nI j) hR hx hcu' hpp (by rw [hc]; exact hp) rfl (by rw [hc]; exact inv2 p0) (by rw [hc]; exact h14) (inv3 p1) (inv0 p2) hnn hr256 ka kb kc ra rb rc found
    have hff : ¬ f_X7_hasForm (rPats (nI j).toNatClampNeg) = 0 := by rw [hc, hp]; decide
    have hfc : ¬ f_X4_hasForm (nI j) = 0 := by rw [q6]; decide
    rw [J3_f hfc e1, J62_f hff e2 (by rw [hc]; exact hdig), hsz, tb_op hj]
    rw [hc] at hT
    exact ⟨f', Or.inr rfl, fun _ => rfl, hT⟩
  · obtain ⟨z0, z1, z2⟩ := pl_5
    rw [hp] at p0 p1 p2 q6
    rw [z0] at p0
    rw [z1] at p1
    rw [z2] at p2
    have hnn : numOK (f_X4_cell (nI j) 6) (rNums (nI j).toNatClampNeg) ∨ (f_X4_cell (nI j) 6 = 7 ∧ rNums (nI j).toNatClampNeg = 0 ∧ (0 : Int64) = 1) ∨ (f_X4_cell (nI j) 6 = 0 ∧ rNums (nI j).toNatClampNeg = 0 ∧ (0 : Int64) = 0) := by
      rw [hc]
      rcases t6 with ⟨a, -⟩ | ⟨-, a⟩ | ⟨-, a, b⟩
      · rw [hp] at a
        exact absurd a (by decide)
      · exact Or.inl a
      · exact Or.inr (Or.inr ⟨a, b, rfl⟩)
    have hT := tail_5 (size := size) (cond := cond) (code := code) (opcode := opcode) (p := nI j) hR hx hcu hpp (by rw [hc]; exact hp) (inv5 p0) (inv0 p1) (inv0 p2) (by rw [hc]; exact (hn5 (inv5 p0)).1) (by rw [hc]; exact (hn5 (inv5 p0)).2) hnn 0 oform ka kb kc ra rb rc found
    have hff : f_X7_hasForm (rPats (nI j).toNatClampNeg) = 0 := by rw [hc, hp]; decide
    have hfc : f_X4_hasForm (nI j) = 0 := by rw [q6]; decide
    rw [J3_n hfc, J62_n hff, hsz, tb_op hj]
    rw [hc] at hT
    exact ⟨f, Or.inl rfl, fun h => absurd h (by rw [hp]; decide), hT⟩
  · obtain ⟨z0, z1, z2⟩ := pl_6
    rw [hp] at p0 p1 p2 q6
    rw [z0] at p0
    rw [z1] at p1
    rw [z2] at p2
    have hnn : numOK (f_X4_cell (nI j) 6) (rNums (nI j).toNatClampNeg) ∨ (f_X4_cell (nI j) 6 = 7 ∧ rNums (nI j).toNatClampNeg = 0 ∧ (0 : Int64) = 1) ∨ (f_X4_cell (nI j) 6 = 0 ∧ rNums (nI j).toNatClampNeg = 0 ∧ (0 : Int64) = 0) := by
      rw [hc]
      rcases t6 with ⟨a, -⟩ | ⟨-, a⟩ | ⟨-, a, b⟩
      · rw [hp] at a
        exact absurd a (by decide)
      · exact Or.inl a
      · exact Or.inr (Or.inr ⟨a, b, rfl⟩)
    have hT := tail_6 (size := size) (cond := cond) (code := code) (opcode := opcode) (p := nI j) hR hx hcu hpp (by rw [hc]; exact hp) (inv5 p0) (inv3 p1) (inv0 p2) (by rw [hc]; exact (hn5 (inv5 p0)).1) (by rw [hc]; exact (hn5 (inv5 p0)).2) hnn 0 oform ka kb kc ra rb rc found
    have hff : f_X7_hasForm (rPats (nI j).toNatClampNeg) = 0 := by rw [hc, hp]; decide
    have hfc : f_X4_hasForm (nI j) = 0 := by rw [q6]; decide
    rw [J3_n hfc, J62_n hff, hsz, tb_op hj]
    rw [hc] at hT
    exact ⟨f, Or.inl rfl, fun h => absurd h (by rw [hp]; decide), hT⟩
  · obtain ⟨z0, z1, z2⟩ := pl_7
    rw [hp] at p0 p1 p2 q6
    rw [z0] at p0
    rw [z1] at p1
    rw [z2] at p2
    have hnn : numOK (f_X4_cell (nI j) 6) (rNums (nI j).toNatClampNeg) ∨ (f_X4_cell (nI j) 6 = 7 ∧ rNums (nI j).toNatClampNeg = 0 ∧ (0 : Int64) = 1) ∨ (f_X4_cell (nI j) 6 = 0 ∧ rNums (nI j).toNatClampNeg = 0 ∧ (0 : Int64) = 0) := by
      rw [hc]
      rcases t6 with ⟨a, -⟩ | ⟨-, a⟩ | ⟨-, a, b⟩
      · rw [hp] at a
        exact absurd a (by decide)
      · exact Or.inl a
      · exact Or.inr (Or.inr ⟨a, b, rfl⟩)
    have hT := tail_7 (size := size) (cond := cond) (code := code) (opcode := opcode) (p := nI j) hR hx hcu' hpp (by rw [hc]; exact hp) (inv1 p0) (inv6 p1) (inv0 p2) hnn hr256 ka kb kc ra rb rc found
    have hff : ¬ f_X7_hasForm (rPats (nI j).toNatClampNeg) = 0 := by rw [hc, hp]; decide
    have hfc : ¬ f_X4_hasForm (nI j) = 0 := by rw [q6]; decide
    rw [J3_f hfc e1, J62_f hff e2 (by rw [hc]; exact hdig), hsz, tb_op hj]
    rw [hc] at hT
    exact ⟨f', Or.inr rfl, fun _ => rfl, hT⟩
  · obtain ⟨z0, z1, z2⟩ := pl_8
    rw [hp] at p0 p1 p2 q6
    rw [z0] at p0
    rw [z1] at p1
    rw [z2] at p2
    have hnn : numOK (f_X4_cell (nI j) 6) (rNums (nI j).toNatClampNeg) ∨ (f_X4_cell (nI j) 6 = 7 ∧ rNums (nI j).toNatClampNeg = 0 ∧ (0 : Int64) = 1) ∨ (f_X4_cell (nI j) 6 = 0 ∧ rNums (nI j).toNatClampNeg = 0 ∧ (0 : Int64) = 0) := by
      rw [hc]
      rcases t6 with ⟨a, -⟩ | ⟨-, a⟩ | ⟨-, a, b⟩
      · rw [hp] at a
        exact absurd a (by decide)
      · exact Or.inl a
      · exact Or.inr (Or.inr ⟨a, b, rfl⟩)
    have hT := tail_8 (size := size) (cond := cond) (code := code) (opcode := opcode) (p := nI j) hR hx hcu' hpp (by rw [hc]; exact hp) rfl (by rw [hc]; exact inv2 p0) (by rw [hc]; exact h14) (inv0 p1) (inv0 p2) hnn hr256 ka kb kc ra rb rc found
    have hff : ¬ f_X7_hasForm (rPats (nI j).toNatClampNeg) = 0 := by rw [hc, hp]; decide
    have hfc : ¬ f_X4_hasForm (nI j) = 0 := by rw [q6]; decide
    rw [J3_f hfc e1, J62_f hff e2 (by rw [hc]; exact hdig), hsz, tb_op hj]
    rw [hc] at hT
    exact ⟨f', Or.inr rfl, fun _ => rfl, hT⟩
  · obtain ⟨z0, z1, z2⟩ := pl_9
    rw [hp] at p0 p1 p2 q6
    rw [z0] at p0
    rw [z1] at p1
    rw [z2] at p2
    have hnn : numOK (f_X4_cell (nI j) 6) (rNums (nI j).toNatClampNeg) ∨ (f_X4_cell (nI j) 6 = 7 ∧ rNums (nI j).toNatClampNeg = 0 ∧ (0 : Int64) = 1) ∨ (f_X4_cell (nI j) 6 = 0 ∧ rNums (nI j).toNatClampNeg = 0 ∧ (0 : Int64) = 0) := by
      rw [hc]
      rcases t6 with ⟨a, -⟩ | ⟨-, a⟩ | ⟨-, a, b⟩
      · rw [hp] at a
        exact absurd a (by decide)
      · exact Or.inl a
      · exact Or.inr (Or.inr ⟨a, b, rfl⟩)
    have hT := tail_9 (size := size) (cond := cond) (code := code) (opcode := opcode) (p := nI j) hR hx hcu' hpp (by rw [hc]; exact hp) (inv1 p0) rfl (by rw [hc]; exact inv2 p1) (by rw [hc]; exact h14) (inv3 p2) hnn hr256 ka kb kc ra rb rc found
    have hff : ¬ f_X7_hasForm (rPats (nI j).toNatClampNeg) = 0 := by rw [hc, hp]; decide
    have hfc : ¬ f_X4_hasForm (nI j) = 0 := by rw [q6]; decide
    rw [J3_f hfc e1, J62_f hff e2 (by rw [hc]; exact hdig), hsz, tb_op hj]
    rw [hc] at hT
    exact ⟨f', Or.inr rfl, fun _ => rfl, hT⟩
  · obtain ⟨z0, z1, z2⟩ := pl_10
    rw [hp] at p0 p1 p2 q6
    rw [z0] at p0
    rw [z1] at p1
    rw [z2] at p2
    have hnn : numOK (f_X4_cell (nI j) 6) (rNums (nI j).toNatClampNeg) ∨ (f_X4_cell (nI j) 6 = 7 ∧ rNums (nI j).toNatClampNeg = 0 ∧ (0 : Int64) = 1) ∨ (f_X4_cell (nI j) 6 = 0 ∧ rNums (nI j).toNatClampNeg = 0 ∧ (0 : Int64) = 0) := by
      rw [hc]
      rcases t6 with ⟨a, -⟩ | ⟨-, a⟩ | ⟨-, a, b⟩
      · rw [hp] at a
        exact absurd a (by decide)
      · exact Or.inl a
      · exact Or.inr (Or.inr ⟨a, b, rfl⟩)
    have hT := tail_10 (size := size) (cond := cond) (code := code) (opcode := opcode) (p := nI j) hR hx hcu hpp (by rw [hc]; exact hp) (inv3 p0) (inv0 p1) (inv0 p2) hnn 0 oform ka kb kc ra rb rc found
    have hff : f_X7_hasForm (rPats (nI j).toNatClampNeg) = 0 := by rw [hc, hp]; decide
    have hfc : f_X4_hasForm (nI j) = 0 := by rw [q6]; decide
    rw [J3_n hfc, J62_n hff, hsz, tb_op hj]
    rw [hc] at hT
    exact ⟨f, Or.inl rfl, fun h => absurd h (by rw [hp]; decide), hT⟩
  · obtain ⟨z0, z1, z2⟩ := pl_11
    rw [hp] at p0 p1 p2 q6
    rw [z0] at p0
    rw [z1] at p1
    rw [z2] at p2
    have hnn : numOK (f_X4_cell (nI j) 6) (rNums (nI j).toNatClampNeg) ∨ (f_X4_cell (nI j) 6 = 7 ∧ rNums (nI j).toNatClampNeg = 0 ∧ (1 : Int64) = 1) ∨ (f_X4_cell (nI j) 6 = 0 ∧ rNums (nI j).toNatClampNeg = 0 ∧ (1 : Int64) = 0) := by
      rw [hc]
      rcases t6 with ⟨-, a, b⟩ | ⟨a, -⟩ | ⟨a, -⟩
      · exact Or.inr (Or.inl ⟨a, b, rfl⟩)
      · exact absurd hp a
      · exact absurd hp a
    have hT := tail_11 (size := size) (cond := cond) (code := code) (opcode := opcode) (p := nI j) hR hx hcu' hpp (by rw [hc]; exact hp) rfl (by rw [hc]; exact inv2 p0) (by rw [hc]; exact h14) (inv7 p1) (inv0 p2) hnn hr256 ka kb kc ra rb rc found
    have hff : ¬ f_X7_hasForm (rPats (nI j).toNatClampNeg) = 0 := by rw [hc, hp]; decide
    have hfc : ¬ f_X4_hasForm (nI j) = 0 := by rw [q6]; decide
    rw [J3_f hfc e1, J62_f hff e2 (by rw [hc]; exact hdig), hsz, tb_op hj]
    rw [hc] at hT
    exact ⟨f', Or.inr rfl, fun _ => rfl, hT⟩
  · obtain ⟨z0, z1, z2⟩ := pl_12
    rw [hp] at p0 p1 p2 q6
    rw [z0] at p0
    rw [z1] at p1
    rw [z2] at p2
    have hnn : numOK (f_X4_cell (nI j) 6) (rNums (nI j).toNatClampNeg) ∨ (f_X4_cell (nI j) 6 = 7 ∧ rNums (nI j).toNatClampNeg = 0 ∧ (0 : Int64) = 1) ∨ (f_X4_cell (nI j) 6 = 0 ∧ rNums (nI j).toNatClampNeg = 0 ∧ (0 : Int64) = 0) := by
      rw [hc]
      rcases t6 with ⟨a, -⟩ | ⟨-, a⟩ | ⟨-, a, b⟩
      · rw [hp] at a
        exact absurd a (by decide)
      · exact Or.inl a
      · exact Or.inr (Or.inr ⟨a, b, rfl⟩)
    have hT := tail_12 (size := size) (cond := cond) (code := code) (opcode := opcode) (p := nI j) hR hx hcu' hpp (by rw [hc]; exact hp) rfl (by rw [hc]; exact inv2 p0) (by rw [hc]; exact h14) (inv8 p1) (inv0 p2) hnn hr256 ka kb kc ra rb rc found
    have hff : ¬ f_X7_hasForm (rPats (nI j).toNatClampNeg) = 0 := by rw [hc, hp]; decide
    have hfc : ¬ f_X4_hasForm (nI j) = 0 := by rw [q6]; decide
    rw [J3_f hfc e1, J62_f hff e2 (by rw [hc]; exact hdig), hsz, tb_op hj]
    rw [hc] at hT
    exact ⟨f', Or.inr rfl, fun _ => rfl, hT⟩
theorem line_rel {c j n x : Nat} {row fed : Nat → Int32} (hR : Row c row fed) (hj : j < 115) (hx : x < 16) (hn0 : 0 < n) (hn : n ≤ c) {pfd code opcode oform : Int32} (hpp : pfd = 0 → x = 0) (hoff : opcode - f_X4_opcodeOf (nI j) = code - rCodes j) (h0 : ¬ code - rCodes j < 0) (hm : code - rCodes j ≤ mostR j) (hr : ¬ rightR (rSizes j) (if nI x &&& 8 = 0 then 0 else 1) = 0) (hdg : 8 ≤ rTells j ∨ (((if n < c then row n else 0) >>> ((3 : Int32) &&& 31)) &&& 7) = rTells j) (found kf rf : Nat → Int32) :
    ∃ f0, (f_X7_hasForm (rPats j) = 1 → ¬ n < c → f0 = 1) ∧ LR c f0 (f_X3_readLine (nI n) 0 pfd (nI x) opcode oform (nI c) row kf rf (nI j)) (f_X7_fits_J59 (nI c) (nI x) pfd found fed (nI j) code (nI n) 0 (sizeR (rSizes j) (code - rCodes j) (if nI x &&& 8 = 0 then 0 else 1))) := by
  obtain ⟨r, nx', f', a', s', hr256, hrv, e1, e2, hcu', hlt, hge⟩ := oct_ok hR hn
  obtain ⟨f0, -, h2, hL⟩ := line_gen (oform := oform) (opcode := opcode) hR hj hx (Or.inr ⟨rfl, rfl, n, hn0, hn, rfl, rfl⟩) hr256 e1 e2 hcu' (by rw [hrv]; exact hdg) hpp hoff h0 hm hr found kf rf
  exact ⟨f0, fun h h' => by rw [h2 h, (hge h').1], hL⟩
theorem st59 {c j m x : Nat} {row fed : Nat → Int32} (hR : Row c row fed) (hj : j < 115) (hx : x < 16) (hm0 : c ≤ m) (hm1 : m < 2 ^ 29) {pfd code : Int32} (hpp : pfd = 0 → x = 0) (h0 : ¬ code - rCodes j < 0) (hm : code - rCodes j ≤ mostR j) (hr : ¬ rightR (rSizes j) (if nI x &&& 8 = 0 then 0 else 1) = 0) (found : Nat → Int32) :
    (f_X7_fits_J59 (nI c) (nI x) pfd found fed (nI j) code (nI m) 1 (sizeR (rSizes j) (code - rCodes j) (if nI x &&& 8 = 0 then 0 else 1))).1 = 0 := by
  have hc := nI_cl hj
  have hn : ¬ m < c := by omega
  have e2 : f_X7_next (nI c) (nI m) 1 fed = (nI 0, nI (m + 1), 1) := by
    rw [nxt_eq hR.1 (by omega), if_neg hn, if_neg (by decide), nI_0]
  by_cases hd : 8 ≤ rTells j ∨ (((nI 0) >>> ((3 : Int32) &&& 31)) &&& 7) = rTells j
  · obtain ⟨f0, h1, -, hL⟩ := line_gen (r := 0) (nx := nI m) (f := 1) (a := nI m) (s := 1) (nx' := nI m) (f' := 1) (oform := 0) (opcode := code - rCodes j + f_X4_opcodeOf (nI j)) hR hj hx (Or.inl ⟨rfl, rfl⟩) (by decide) (by rw [oct_eq hR (by omega), if_neg hn, nI_0]) e2 (Or.inl ⟨rfl, rfl⟩) hd hpp (by rw [Int32.add_sub_cancel]) h0 hm hr found found found
    have hf : f0 = 1 := by rcases h1 with h | h <;> exact h
    rcases hL with ⟨-, h⟩ | ⟨-, h, -⟩
    · exact h
    · rw [hf] at h
      exact absurd h (by decide)
  · obtain ⟨-, -, -, t4, -⟩ := tb_lineT hj
    have h8 : ¬ 8 ≤ rTells j := fun h => hd (Or.inl h)
    rw [J59_nf]
    refine J62_z (v := nI 0) (by rw [hc, t4 h8]; decide) e2 (by rw [hc]; exact h8) ?_
    rw [hc]
    exact fun h => hd (Or.inr h)
theorem st13 {c j m x : Nat} {row fed : Nat → Int32} (hR : Row c row fed) (hj : j < 115) (hx : x < 16) (hm0 : c ≤ m) (hm1 : m < 2 ^ 28) {pfd s : Int32} (hpp : pfd = 0 → x = 0) (found : Nat → Int32) :
    (f_X7_fits_J13 (nI c) (nI x) pfd found fed (nI j) (nI m) s).1 = 0 := by
  have hc := nI_cl hj
  obtain ⟨-, -, -, -, -, -, sz, -⟩ := tb_line hj
  have hn : ¬ m < c := by omega
  have e2 : f_X7_next (nI c) (nI m) s fed = (0, nI (m + 1), 1) := by
    rw [nxt_eq hR.1 (by omega), if_neg hn, if_neg hn]
    by_cases hs : s = 0
    · rw [if_pos hs]
    · rw [if_neg hs]
  rw [J13_m e2, hc]
  have hw : (if nI x &&& 8 = 0 then (0 : Int32) else 1) = 0 ∨ (if nI x &&& 8 = 0 then (0 : Int32) else 1) = 1 := by
    by_cases h : nI x &&& 8 = 0
    · rw [if_pos h]; exact Or.inl rfl
    · rw [if_neg h]; exact Or.inr rfl
  by_cases h0 : (0 : Int32) - rCodes j < 0
  · exact J29_z (by rw [hc]; exact Or.inl h0)
  by_cases hm : ¬ (0 : Int32) - rCodes j ≤ mostR j
  · exact J29_z (by rw [hc]; exact Or.inr hm)
  have hm := Decidable.not_not.mp hm
  rw [J29_ok (by rw [hc]; exact h0) (by rw [hc]; exact hm)]
  by_cases hr : rightR (rSizes j) (if nI x &&& 8 = 0 then 0 else 1) = 0
  · exact J34_z (by rw [hc]; exact hr)
  have hJ := J34_ok (C := nI c) (pfx := nI x) (pfd := pfd) (p := nI j) (code := 0) (a := nI (m + 1)) (s := 1) (w := if nI x &&& 8 = 0 then 0 else 1) (L := f_X4_cell (nI j) 2) (found := found) (fed := fed) (by rw [hc]; exact sz) hw (by rw [hc]; exact hr)
  rw [hc] at hJ
  rw [hJ]
  exact st59 hR hj hx (by omega) (by omega) hpp h0 hm hr found
