theorem tM3_0 {F kf rf : Nat → Int32} {op size cond b i s d : Int32} (hF : RelF F op size cond kf rf b i s d) : tM3 F = if kf 0 = 2 then 1 else if kf 1 = 2 then 1 else if kf 2 = 2 then 1 else 0 := by
  obtain ⟨f0, f1, f2, f3, f4, f5, f6, f7, f8, f9, f10, f11, f12⟩ := hF
  rw [tM3_eq, f3, f5, f7]
set_option maxHeartbeats 4000000 in
theorem form_eq {F kf rf : Nat → Int32} {op size cond b i s d : Int32} {j : Nat} (hA : Acc F kf rf op size cond b i s d j) (hf : f_X4_hasForm (nI j) = 1) {n : Nat} (hn : n + 6 ≤ 16) {row tr : Nat → Int32} (hR : RelR n row tr) :
    ∃ m row' tr', f_X5_writeForm kf rf b i s d (nI n) row (nI j) = (nI m, row') ∧ (if tM3 F = 0 then f_X7_put (nI n) tr (192 + 8 * tG3 F (nI j) + tL3 F (nI j)) else f_X7_putMemory (nI n) F tr (tG3 F (nI j))) = (nI m, tr') ∧ n < m ∧ m ≤ n + 6 ∧ RelR m row' tr' := by
  obtain ⟨hF, hK, hj, hg, o0, o1, o2, hs⟩ := hA
  have hM := tM3_0 hF
  obtain ⟨f0, f1, f2, f3, f4, f5, f6, f7, f8, f9, f10, f11, f12⟩ := hF
  obtain ⟨-, -, -, -, q5, -, -, -, q9, -, q11, q12, q13, -⟩ := tb_lineQ hj
  have hc := nI_cl hj
  obtain ⟨-, hf2, hff⟩ := q13 hf
  have h05 : ¬ f_X4_roleOf (nI j) 0 = 5 := fun h => by
    have := (q9 h).2.1
    rw [hf] at this
    exact absurd this (by decide)
  rw [nf_X5_writeForm, nf_X5_writeForm_J4, nf_X5_writeForm_J8, nf_X5_writeForm_J13]
  have hreg : (if f_X4_roleOf (nI j) 2 = 1 then f_X0_registerOf rf 2 &&& 7 else if f_X4_roleOf (nI j) 1 = 1 then f_X0_registerOf rf 1 &&& 7 else if f_X4_roleOf (nI j) 0 = 1 then f_X0_registerOf rf 0 &&& 7 else if f_X4_digitOf (nI j) < 0 then 0 else if 8 ≤ f_X4_digitOf (nI j) then 0 else f_X4_digitOf (nI j)) = tG3 F (nI j) := by
    unfold tG3 tR0
    rw [f3, f4, f5, f6, f7, f8, tG_eq o0, tG_eq o1, tG_eq o2, regi0, regi1, regi2, hc]
    have : (if f_X4_digitOf (nI j) < 0 then (0 : Int32) else if 8 ≤ f_X4_digitOf (nI j) then 0 else f_X4_digitOf (nI j)) = if 8 ≤ rTells j then 0 else rTells j := by
      rcases q5 with ⟨h1 | h1, h2⟩ | ⟨⟨h1, h1'⟩, h2⟩
      · rw [if_pos h1, if_pos h2]
      · by_cases h0 : f_X4_digitOf (nI j) < 0
        · rw [if_pos h0, if_pos h2]
        · rw [if_neg h0, if_pos h1, if_pos h2]
      · rw [if_neg h1, if_neg h1', h2, if_neg h1']
    rw [this]
  rw [hreg]
  rw [hf2]
  have hsnd : ¬ tM3 F = 0 → ¬ f_X1_isSound b i s = 0 := fun h => hs.resolve_left h
  have k2 : ¬ kf 2 = 2 := fun h => form_k o2 h hf2
  have hl3 : ∀ x, (if f_X4_roleOf (nI j) 2 = 1 then x else if (0 : Int32) = 0 then x else (2 : Int32)) = x := fun x => by simp
  rw [hl3]
  unfold f_X5_writeForm_J18 f_X5_writeForm_J28
  rcases hff with ⟨hf0, hf1⟩ | ⟨hf0, hf1⟩
  · have k1 : ¬ kf 1 = 2 := fun h => form_k o1 h hf1
    rw [hf1]
    have hl4 : (if f_X4_roleOf (nI j) 1 = 1 then (0 : Int32) else if (0 : Int32) = 0 then 0 else 1) = 0 := by simp
    rw [hl4, kind0, regi0]
    by_cases k0 : kf 0 = 2
    · have hm : ¬ tM3 F = 0 := by rw [hM, if_pos k0]; decide
      rw [if_pos k0, if_neg hm]
      obtain ⟨m, row', tr', g1, g2, g3, g4, g5⟩ := mem_eq (reg := tG3 F (nI j)) f9 f10 f11 f12 (hsnd hm) hn hR
      exact ⟨m, row', tr', by rw [g1], g2, g4, g3, g5⟩
    · have hm : tM3 F = 0 := by rw [hM, if_neg k0, if_neg k1, if_neg k2]
      have hlow : tL3 F (nI j) = rf 0 &&& 7 := by
        unfold tL3
        rw [f3, f4, f5, f6, f7, f8, tL_eq o0, tL_eq o1, tL_eq o2, if_neg q11, if_neg q12, if_pos hf1, if_pos hf2, if_neg h05, if_neg (by rw [hf0]; decide), if_neg k0]
      rw [if_neg k0, if_pos hm, hlow, app_eq (by omega), put_eq (by omega)]
      exact ⟨n + 1, _, _, rfl, rfl, by omega, by omega, relR_upd hR rfl⟩
  · have k0 : ¬ kf 0 = 2 := fun h => form_k o0 h hf0
    have hr1 : ¬ f_X4_roleOf (nI j) 1 = 1 := fun h => by
      rw [h] at hf1
      exact absurd hf1 (by decide)
    have hl4 : (if f_X4_roleOf (nI j) 1 = 1 then (0 : Int32) else if f_X4_isFormRole (f_X4_roleOf (nI j) 1) = 0 then 0 else 1) = 1 := by
      rw [if_neg hr1, hf1]; decide
    rw [hl4, kind1, regi1]
    by_cases k1 : kf 1 = 2
    · have hm : ¬ tM3 F = 0 := by rw [hM, if_neg k0, if_pos k1]; decide
      rw [if_pos k1, if_neg hm]
      obtain ⟨m, row', tr', g1, g2, g3, g4, g5⟩ := mem_eq (reg := tG3 F (nI j)) f9 f10 f11 f12 (hsnd hm) hn hR
      exact ⟨m, row', tr', by rw [g1], g2, g4, g3, g5⟩
    · have hm : tM3 F = 0 := by rw [hM, if_neg k0, if_neg k1, if_neg k2]
      have hlow : tL3 F (nI j) = rf 1 &&& 7 := by
        unfold tL3
        rw [f3, f4, f5, f6, f7, f8, tL_eq o0, tL_eq o1, tL_eq o2, if_neg q11, if_neg q12, if_pos hf2, if_neg (by rw [hf1]; decide), if_neg k1]
      rw [if_neg k1, if_pos hm, hlow, app_eq (by omega), put_eq (by omega)]
      exact ⟨n + 1, _, _, rfl, rfl, by omega, by omega, relR_upd hR rfl⟩
set_option maxHeartbeats 4000000 in
theorem write_eq {F kf rf : Nat → Int32} {op size cond b i s d : Int32} {j : Nat} (hA : Acc F kf rf op size cond b i s d j) (num : Int64) (orow tr : Nat → Int32) :
    ∃ m row' tr', f_X5_write size cond num kf rf b i s d orow (nI j) = (nI m, row') ∧ f_X7_tries_J128 num F tr (nI j) (tL3 F (nI j)) (tG3 F (nI j)) (tB3 F (nI j)) (tN3 F (nI j)) (tM3 F) = (1, nI m, tr') ∧ 0 < m ∧ m ≤ 16 ∧ RelR m row' tr' := by
  have hA' := hA
  obtain ⟨hF, hK, hj, hg, o0, o1, o2, hs⟩ := hA'
  obtain ⟨q1, q2, -, -, -, q6, -, -, -, -, -, -, q13, -, q15, -⟩ := tb_lineQ hj
  obtain ⟨-, -, -, -, -, n6, -⟩ := tb_line hj
  have hc := nI_cl hj
  have f1 := hF.2.1
  obtain ⟨hwd, w, hw, hw8, hw5⟩ := width_eq (size := size) n6
  -- F3
  obtain ⟨n1, row1, tr1, hn1, e1, e1', hR1⟩ : ∃ n1 row1 tr1, n1 ≤ 1 ∧ f_X5_write size cond num kf rf b i s d orow (nI j) = f_X5_write_J7 size cond num kf rf b i s d (nI j) (nI n1) row1 ∧ (∀ l g n m x, f_X7_tries_J137 num F tr (nI j) l g n m x = f_X7_tries_J144 num F (nI j) l g n m x (nI n1) tr1) ∧ RelR n1 row1 tr1 := by
    unfold f_X5_write f_X7_tries_J137
    rw [q1, hc]
    by_cases h : rLeads j = 243
    · rw [if_pos h, if_neg (by decide)]
      refine ⟨1, upd orow 0 (243 &&& 255), upd tr 0 (243 &&& 255), by omega, ?_, ?_, relR_upd (n := 0) (fun i hi => absurd hi (Nat.not_lt_zero _)) rfl⟩
      · rw [show f_X2_clear = nI 0 from rfl, app_eq (by omega)]
      · intro l g n m x
        rw [if_pos h, show (0 : Int32) = nI 0 from rfl, put_eq (by omega)]
    · rw [if_neg h, if_pos rfl]
      exact ⟨0, orow, tr, by omega, rfl, fun l g n m x => by rw [if_neg h]; rfl, fun i hi => absurd hi (Nat.not_lt_zero _)⟩
  rw [e1, J128_nf, e1']
  have hrb : tB3 F (nI j) ||| (if tM3 F = 0 then 0 else pb (F 9) (F 10)) = refBits F (nI j) := rfl
  rw [hrb]
  -- the byte with W, R, X, B
  obtain ⟨n2, row2, tr2, e2, e2', hn2, hn2', hR2⟩ := prefix_eq hA (n := n1) (by omega) hR1 num (tL3 F (nI j)) (tG3 F (nI j)) (tM3 F)
  rw [e2']
  unfold f_X5_write_J7
  rw [e2]
  dsimp only
  -- the opcode
  obtain ⟨hcode, hcv⟩ := code_eq hA
  rw [nf_X5_writeOpcode, hcode]
  obtain ⟨n3, row3, tr3, e3, e3', hn3, hn3', hR3⟩ := opc_eq (lead := decide (rLeads j = 15)) rfl hcv (n := n2) (by omega) hR2
  rw [e3]
  dsimp only
  rw [J155_nf, hc]
  have e3'' : (if rLeads j = 15 then f_X7_put (nI n2) tr2 15 else (nI n2, tr2)) = (nI (n3 - 1), tr3) := by
    have := e3' 0 F 0 0 0 0
    by_cases h : rLeads j = 15
    · rw [if_pos h]; simpa [h] using this
    · rw [if_neg h]; simpa [h] using this
  rw [e3'']
  dsimp only
  unfold f_X7_tries_J173
  rw [put_eq (by omega), show n3 - 1 + 1 = n3 by omega, hc]
  dsimp only
  rw [← q6]
  have hfin : ∀ (n : Nat) (row tr : Nat → Int32), n + w ≤ 16 → RelR n row tr → ∃ row' tr', f_X5_write_J20 size num (nI j) (nI n) row = (nI (n + w), row') ∧ f_X7_tries_J192 num F (nI j) (nI n) tr = (1, nI (n + w), tr') ∧ RelR (n + w) row' tr' := by
    intro n row tr hn hR
    unfold f_X5_write_J20 f_X7_tries_J192
    rw [numOf_eq, hwd]
    simp only [cl1, hc, f1, hw]
    obtain ⟨row', tr', g1, g2, g3⟩ := all_eq num hw8 hn hR
    exact ⟨row', tr', by rw [g1], by rw [g2], g3⟩
  rcases q15 with h0 | h1
  · rw [h0]
    simp only [if_true]
    obtain ⟨row', tr', g1, g2, g3⟩ := hfin n3 row3 _ (by omega) hR3
    exact ⟨n3 + w, row', tr', g1, g2, by omega, by omega, g3⟩
  · have h1n : ¬ f_X4_hasForm (nI j) = 0 := by rw [h1]; decide
    have hw4 : w ≤ 4 := hw5 (q13 h1).1
    obtain ⟨n4, row4, tr4, e4, e4', hn4, hn4', hR4⟩ := form_eq hA h1 (n := n3) (by omega) hR3
    obtain ⟨row', tr', g1, g2, g3⟩ := hfin n4 row4 tr4 (by omega) hR4
    rw [if_neg h1n, if_neg h1n, e4]
    refine ⟨n4 + w, row', tr', g1, ?_, by omega, by omega, g3⟩
    by_cases hm : tM3 F = 0
    · rw [if_pos hm] at e4'
      rw [if_pos hm, if_neg h1n, e4']
      exact g2
    · rw [if_neg hm] at e4'
      rw [if_neg hm, e4']
      exact g2
