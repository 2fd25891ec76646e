/-! the whole of a line's bytes -/
def refCode (F : Nat → Int32) (p l : Int32) : Int32 := if rPats p.toNatClampNeg = 5 then rCodes p.toNatClampNeg + (if rSizes p.toNatClampNeg = 0 then (if F 1 = 1 then 0 else 1) else 0) + (if f_X7_conditional (rOps p.toNatClampNeg) = 0 then 0 else F 2) + l else if rPats p.toNatClampNeg = 6 then rCodes p.toNatClampNeg + (if rSizes p.toNatClampNeg = 0 then (if F 1 = 1 then 0 else 1) else 0) + (if f_X7_conditional (rOps p.toNatClampNeg) = 0 then 0 else F 2) + l else rCodes p.toNatClampNeg + (if rSizes p.toNatClampNeg = 0 then (if F 1 = 1 then 0 else 1) else 0) + (if f_X7_conditional (rOps p.toNatClampNeg) = 0 then 0 else F 2)
theorem J155_nf (num : Int64) (F tr : Nat → Int32) (p l g m c : Int32) : f_X7_tries_J155 num F p l g m c tr = f_X7_tries_J173 num F p l g m (if rLeads p.toNatClampNeg = 15 then f_X7_put c tr 15 else (c, tr)).1 (if rLeads p.toNatClampNeg = 15 then f_X7_put c tr 15 else (c, tr)).2 (refCode F p l) := by
  unfold f_X7_tries_J155
  have h : ∀ (c : Int32) (tr : Nat → Int32), f_X7_tries_J162 num F p l g m c tr = f_X7_tries_J173 num F p l g m c tr (refCode F p l) := by
    intro c tr
    rw [nf_X7_tries_J162, nf_X7_tries_J166, nf_X7_tries_J169]
    simp only [cl1, cl2]
    rfl
  by_cases hl : rLeads p.toNatClampNeg = 15
  · rw [if_pos hl, if_pos hl]
    obtain ⟨y1, y2, hq⟩ : ∃ y1 y2, f_X7_put c tr 15 = (y1, y2) := ⟨_, _, rfl⟩
    rw [hq]
    exact h y1 y2
  · rw [if_neg hl, if_neg hl]
    exact h c tr
theorem cond_01 (o : Int32) : f_X7_conditional o = 0 ∨ f_X7_conditional o = 1 := by
  unfold f_X7_conditional f_X7_conditional_J4
  repeat' split
  all_goals first | exact Or.inl rfl | exact Or.inr rfl
theorem and7 (x : Int32) : qv 0 7 (x &&& 7) := by
  obtain ⟨r, hr, h⟩ := pk_andE x (m := 7) 3 (by decide)
  rw [h]
  exact ⟨by rw [nI_toInt (by omega)]; omega, by rw [nI_toInt (by omega)]; omega⟩
set_option maxHeartbeats 4000000 in
theorem code_eq {F kf rf : Nat → Int32} {op size cond b i s d : Int32} {j : Nat} (hA : Acc F kf rf op size cond b i s d j) :
    (if f_X4_hasCondition (nI j) = 0 then (if f_X4_hasSizeBit (nI j) = 0 then (if f_X4_roleOf (nI j) 0 = 5 then f_X4_opcodeOf (nI j) + (f_X0_registerOf rf 0 &&& 7) else f_X4_opcodeOf (nI j)) else f_X4_opcodeOf (nI j) + (if size = 1 then 0 else 1)) else f_X4_opcodeOf (nI j) + cond)
      = (if decide (rLeads j = 15) then 3840 + refCode F (nI j) (tL3 F (nI j)) else refCode F (nI j) (tL3 F (nI j))) ∧ qv 0 255 (refCode F (nI j) (tL3 F (nI j))) := by
  obtain ⟨hF, hK, hj, hg, o0, o1, o2, hs⟩ := hA
  obtain ⟨f0, f1, f2, f3, f4, f5, f6, f7, f8, f9, f10, f11, f12⟩ := hF
  obtain ⟨hop, hal, hcd0, hcd1⟩ := good_al hj hg
  obtain ⟨-, -, q3, ⟨q4a, q4b⟩, -, -, q7, q8, q9, q10, q11, q12, -, -, -, q16, q17⟩ := tb_lineQ hj
  have hc := nI_cl hj
  have hcodes : qv 0 255 (rCodes j) := ⟨qv_l4 q4a (by decide), qv_h2 q4b (by decide)⟩
  rw [tb_cond hj] at q7 q16 ⊢
  rw [q3, q17, regi0]
  unfold refCode
  rw [hc, f1, f2]
  by_cases h5 : f_X4_roleOf (nI j) 0 = 5
  · obtain ⟨a1, -, a3, a4, a5, a6, a7⟩ := q9 h5
    have hcz : f_X7_conditional (rOps j) = 0 := by
      rcases cond_01 (rOps j) with h | h
      · exact h
      · exact absurd h5 (q7 h).2.1
    have hsz : ¬ rSizes j = 0 := by
      intro h
      exact (q8 (by rw [q17, if_pos h])).1 h5
    have hl : tL3 F (nI j) = rf 0 &&& 7 := by
      unfold tL3
      rw [f3, f4, f5, f6, f7, f8, tL_eq o0, tL_eq o1, tL_eq o2, if_pos h5]
      have n1 : f_X4_isFormRole (f_X4_roleOf (nI j) 1) = 0 ∧ f_X4_isFormRole (f_X4_roleOf (nI j) 2) = 0 := by
        obtain ⟨-, -, -, -, -, -, -, -, -, -, -, -, -, q14, -⟩ := tb_lineQ hj
        exact (q14 (q9 h5).2.1).2
      rw [if_neg q11, if_neg q12, if_pos n1.1, if_pos n1.2]
    have h7 := and7 (rf 0)
    rw [if_pos hcz, if_neg hsz, if_pos rfl, if_pos h5, if_pos hcz, if_neg hsz, hl]
    have hv : qv 0 255 (rCodes j + 0 + 0 + (rf 0 &&& 7)) := by
      have hc8 : qv 0 248 (rCodes j) := ⟨hcodes.1, qv_h2 a1 (by decide)⟩
      simp only [Int32.add_zero]
      exact qv_add hc8 h7 (by decide) (by decide) (by decide) (by decide)
    have hpp : (if rPats j = 5 then rCodes j + 0 + 0 + (rf 0 &&& 7) else if rPats j = 6 then rCodes j + 0 + 0 + (rf 0 &&& 7) else rCodes j + 0 + 0) = rCodes j + 0 + 0 + (rf 0 &&& 7) := by
      rcases a3 with h | h
      · rw [if_pos h]
      · by_cases h' : rPats j = 5
        · rw [if_pos h']
        · rw [if_neg h', if_pos h]
    rw [hpp]
    refine ⟨?_, hv⟩
    by_cases hld : rLeads j = 15
    · simp [hld, Int32.add_assoc]
    · simp [hld]
  · obtain ⟨a1, a2⟩ := q10 h5
    rw [if_neg a1, if_neg a2]
    rcases cond_01 (rOps j) with hcz | hcz
    · rw [if_pos hcz, if_pos hcz]
      by_cases hsz : rSizes j = 0
      · have hle := (q8 (by rw [q17, if_pos hsz])).2
        have hc8 : qv 0 254 (rCodes j) := ⟨hcodes.1, qv_h2 hle (by decide)⟩
        rw [if_pos hsz, if_neg (by decide), if_pos hsz]
        refine ⟨?_, ?_⟩
        · by_cases hld : rLeads j = 15
          · simp [hld, Int32.add_assoc]
          · simp [hld]
        · simp only [Int32.add_zero]
          refine qv_add hc8 (c := 0) (d := 1) ?_ (by decide) (by decide) (by decide) (by decide)
          split <;> exact ⟨by decide, by decide⟩
      · rw [if_neg hsz, if_pos rfl, if_neg h5, if_neg hsz]
        refine ⟨?_, ?_⟩
        · by_cases hld : rLeads j = 15
          · simp [hld]
          · simp [hld]
        · simpa using hcodes
    · have hcn : ¬ f_X7_conditional (rOps j) = 0 := by rw [hcz]; decide
      obtain ⟨b1, -, b3⟩ := q7 hcz
      have hsz : ¬ rSizes j = 0 := by
        intro h
        rw [q17, if_pos h] at b1
        exact absurd b1 (by decide)
      have hc8 : qv 0 240 (rCodes j) := ⟨hcodes.1, qv_h2 b3 (by decide)⟩
      have hcd := hcd1 hcn
      rw [f2] at hcd
      rw [if_neg hcn, if_neg hcn, if_neg hsz]
      refine ⟨?_, ?_⟩
      · by_cases hld : rLeads j = 15
        · simp [hld, Int32.add_assoc]
        · simp [hld]
      · simp only [Int32.add_zero]
        exact qv_add hc8 hcd (by decide) (by decide) (by decide) (by decide)
