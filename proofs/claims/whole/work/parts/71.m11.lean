/-! a line that takes the fields: what it writes -/
def Acc (F kf rf : Nat → Int32) (op size cond b i s d : Int32) (j : Nat) : Prop := RelF F op size cond kf rf b i s d ∧ WfK kf rf ∧ j < 115 ∧ ¬ tGood F (nI j) = 0 ∧ opOK (f_X4_roleOf (nI j) 0) (tQ (nI j) 0) (kf 0) (rf 0) (rOps j) ∧ opOK (f_X4_roleOf (nI j) 1) (tQ (nI j) 1) (kf 1) (rf 1) (rOps j) ∧ opOK (f_X4_roleOf (nI j) 2) (tQ (nI j) 2) (kf 2) (rf 2) (rOps j) ∧ (tM3 F = 0 ∨ ¬ f_X1_isSound b i s = 0)
theorem Acc_of {F kf rf : Nat → Int32} {op size cond b i s d : Int32} {num : Int64} {j : Nat} (hF : RelF F op size cond kf rf b i s d) (hK : WfK kf rf) (hj : j < 115) (hg : ¬ tGood F (nI j) = 0) (h0 : ¬ f_X7_suits num F (nI j) 0 (F 3) (F 4) = 0) (h1 : ¬ f_X7_suits num F (nI j) 1 (F 5) (F 6) = 0) (h2 : ¬ f_X7_suits num F (nI j) 2 (F 7) (F 8) = 0) (hm : tM3 F = 0 ∨ ¬ f_X7_isMemory F = 0) : Acc F kf rf op size cond b i s d j := by
  obtain ⟨f0, f1, f2, f3, f4, f5, f6, f7, f8, f9, f10, f11, f12⟩ := id hF
  obtain ⟨p0, p1, p2, -⟩ := tb_line hj
  have hc := nI_cl hj
  rw [f3, f4] at h0
  rw [f5, f6] at h1
  rw [f7, f8] at h2
  rw [← sound_eq f9 f10 f11] at hm
  exact ⟨hF, hK, hj, hg, opOK_of rfl (by rw [tQ, hc]; exact p0) hK.1 h0, opOK_of rfl (by rw [tQ, hc]; exact p1) hK.2.1 h1, opOK_of rfl (by rw [tQ, hc]; exact p2) hK.2.2 h2, hm⟩
theorem good_al {F : Nat → Int32} {j : Nat} (hj : j < 115) (h : ¬ tGood F (nI j) = 0) : rOps j = F 0 ∧ ¬ f_X7_allows (rSizes j) (F 1) = 0 ∧ (f_X7_conditional (rOps j) = 0 → F 2 = 0) ∧ (¬ f_X7_conditional (rOps j) = 0 → qv 0 15 (F 2)) := by
  unfold tGood at h
  rw [nI_cl hj] at h
  by_cases h0 : rOps j = F 0
  · rw [if_pos h0] at h
    by_cases h1 : f_X7_allows (rSizes j) (F 1) = 0
    · rw [if_pos h1] at h; exact absurd rfl h
    · rw [if_neg h1] at h
      refine ⟨h0, h1, fun hc => ?_, fun hc => ?_⟩
      · rw [if_pos hc] at h
        by_cases h2 : F 2 = 0
        · exact h2
        · rw [if_neg h2] at h; exact absurd rfl h
      · rw [if_neg hc] at h
        by_cases h2 : F 2 < 0
        · rw [if_pos h2] at h; exact absurd rfl h
        · rw [if_neg h2] at h
          by_cases h3 : 16 ≤ F 2
          · rw [if_pos h3] at h; exact absurd rfl h
          · exact ⟨qv_l1 h2 (by decide), qv_h4 h3 (by decide)⟩
  · rw [if_neg h0] at h; exact absurd rfl h
theorem tW_01 (F : Nat → Int32) (p : Int32) : tW F p = 0 ∨ tW F p = 1 := by
  unfold tW
  repeat' split
  all_goals first | exact Or.inl rfl | exact Or.inr rfl
def refBits (F : Nat → Int32) (p : Int32) : Int32 := tB3 F p ||| (if tM3 F = 0 then 0 else pb (F 9) (F 10))
theorem J128_nf (num : Int64) (F tr : Nat → Int32) (p l g x n m : Int32) : f_X7_tries_J128 num F tr p l g x n m = f_X7_tries_J137 num F tr p l g n m (x ||| (if m = 0 then 0 else pb (F 9) (F 10))) := by
  rw [nf_X7_tries_J128, nf_X7_tries_J133]
  simp only [cl9, cl10]
  rw [mem_bits]
set_option maxHeartbeats 4000000 in
theorem prefix_eq {F kf rf : Nat → Int32} {op size cond b i s d : Int32} {j : Nat} (hA : Acc F kf rf op size cond b i s d j) {n : Nat} (hn : n < 16) {row tr : Nat → Int32} (hR : RelR n row tr) (num : Int64) (l g m9 : Int32) :
    ∃ m row' tr', f_X5_writePrefix size kf rf b i (nI n) row (nI j) = (nI m, row') ∧ f_X7_tries_J144 num F (nI j) l g (tN3 F (nI j)) m9 (refBits F (nI j)) (nI n) tr = f_X7_tries_J155 num F (nI j) l g m9 (nI m) tr' ∧ n ≤ m ∧ m ≤ n + 1 ∧ RelR m row' tr' := by
  obtain ⟨hF, hK, hj, hg, o0, o1, o2, hs⟩ := hA
  obtain ⟨f0, f1, f2, f3, f4, f5, f6, f7, f8, f9, f10, f11, f12⟩ := hF
  obtain ⟨hop, hal, -⟩ := good_al hj hg
  obtain ⟨-, -, -, -, -, -, sz, s14⟩ := tb_line hj
  have hc := nI_cl hj
  obtain ⟨hW, w3, w7⟩ := W_eq (size := size) sz (by rw [← f1]; exact hal)
  have hW' : f_X4_sizeNeedsW (nI j) size = tW F (nI j) := by rw [hW]; unfold tW; rw [hc, f1]
  have h14 : rOps j = 14 → size = 8 := by
    intro h
    have h5 := s14 h
    rcases sz with ⟨a, -⟩ | ⟨a, -⟩ | ⟨a, -⟩ | ⟨a, -⟩ | ⟨a, -⟩ | ⟨-, a⟩ | ⟨-, a⟩ | ⟨a, -⟩
    · rw [h5] at a; exact absurd a (by decide)
    · rw [h5] at a; exact absurd a (by decide)
    · rw [h5] at a; exact absurd a (by decide)
    · rw [h5] at a; exact absurd a (by decide)
    · rw [h5] at a; exact absurd a (by decide)
    · exact w7 a
    · exact w3 a
    · rw [h5] at a; exact absurd a (by decide)
  have hmm : ∀ k, k = kf 0 ∨ k = kf 1 ∨ k = kf 2 → k = 2 → f_X1_prefixBits b i = pb b i := by
    intro k hk h2
    refine pb_eq (s := s) ?_
    rcases hs with hs | hs
    · rw [tM3_eq, f3, f5, f7] at hs
      rcases hk with rfl | rfl | rfl
      · rw [if_pos h2] at hs; exact absurd hs (by decide)
      · by_cases h3 : kf 0 = 2
        · rw [if_pos h3] at hs; exact absurd hs (by decide)
        · rw [if_neg h3, if_pos h2] at hs; exact absurd hs (by decide)
      · by_cases h3 : kf 0 = 2
        · rw [if_pos h3] at hs; exact absurd hs (by decide)
        · by_cases h4 : kf 1 = 2
          · rw [if_neg h3, if_pos h4] at hs; exact absurd hs (by decide)
          · rw [if_neg h3, if_neg h4, if_pos h2] at hs; exact absurd hs (by decide)
    · exact hs
  have b0 := ob_eq (b := b) (i := i) (k := 0) (kind0 kf) (regi0 rf) hK.1 o0 (hmm _ (Or.inl rfl))
  have b1 := ob_eq (b := b) (i := i) (k := 1) (kind1 kf) (regi1 rf) hK.2.1 o1 (hmm _ (Or.inr (Or.inl rfl)))
  have b2 := ob_eq (b := b) (i := i) (k := 2) (kind2 kf) (regi2 rf) hK.2.2 o2 (hmm _ (Or.inr (Or.inr rfl)))
  rw [nf_X5_writePrefix, nf_X5_writePrefix_J3, nf_X5_writePrefix_J7, nf_X5_writePrefix_J11]
  unfold f_X5_writePrefix_J15 f_X5_writePrefix_J26
  rw [b0, b1, b2, or_mem, hW', kind0, kind1, kind2, regi0, regi1, regi2]
  have hro : rOps (nI j).toNatClampNeg = rOps j := by rw [hc]
  have hbits : (((((if tW F (nI j) = 0 then (0 : Int32) else 8) ||| tb (tT (kf 0) (tQ (nI j) 0)) (rf 0) (tQ (nI j) 0)) ||| tb (tT (kf 1) (tQ (nI j) 1)) (rf 1) (tQ (nI j) 1)) ||| tb (tT (kf 2) (tQ (nI j) 2)) (rf 2) (tQ (nI j) 2)) ||| (if (if kf 0 = 2 then (1 : Int32) else if kf 1 = 2 then 1 else if kf 2 = 2 then 1 else 0) = 0 then 0 else pb b i)) = refBits F (nI j) := by
    unfold refBits tB3
    rw [tB_eq, tB_eq, tB_eq, tM3_eq, f3, f4, f5, f6, f7, f8, f9, f10]
  have hpc : (if (if kf 0 = 2 then (1 : Int32) else if kf 1 = 2 then 1 else if kf 2 = 2 then 1 else 0) = 0 then 0 else pb b i) = 0 ∨ (if (if kf 0 = 2 then (1 : Int32) else if kf 1 = 2 then 1 else if kf 2 = 2 then 1 else 0) = 0 then 0 else pb b i) = 1 ∨ (if (if kf 0 = 2 then (1 : Int32) else if kf 1 = 2 then 1 else if kf 2 = 2 then 1 else 0) = 0 then 0 else pb b i) = 2 ∨ (if (if kf 0 = 2 then (1 : Int32) else if kf 1 = 2 then 1 else if kf 2 = 2 then 1 else 0) = 0 then 0 else pb b i) = 3 := by
    generalize (if kf 0 = 2 then (1 : Int32) else if kf 1 = 2 then 1 else if kf 2 = 2 then 1 else 0) = z
    by_cases hq : z = 0
    · rw [if_pos hq]; exact Or.inl rfl
    · rw [if_neg hq]; exact pb_c b i
  have hB := bits_c (w := if tW F (nI j) = 0 then (0 : Int32) else 8) (by split <;> simp) (tb_c (tT (kf 0) (tQ (nI j) 0)) (rf 0) (tQ (nI j) 0)) (tb_c (tT (kf 1) (tQ (nI j) 1)) (rf 1) (tQ (nI j) 1)) (tb_c (tT (kf 2) (tQ (nI j) 2)) (rf 2) (tQ (nI j) 2)) hpc
  rw [hbits] at hB ⊢
  have hR1 := relR_upd (v := (64 + refBits F (nI j)) &&& 255) hR rfl
  unfold f_X7_tries_J144
  by_cases hw : tW F (nI j) = 0
  · have hnd : tN3 F (nI j) = (if kf 2 = 1 then (if f_X4_needsAnyPrefix (f_X4_roleOf (nI j) 2) size (rf 2) = 0 then (if kf 1 = 1 then (if f_X4_needsAnyPrefix (f_X4_roleOf (nI j) 1) size (rf 1) = 0 then (if kf 0 = 1 then (if f_X4_needsAnyPrefix (f_X4_roleOf (nI j) 0) size (rf 0) = 0 then 0 else 1) else 0) else 1) else (if kf 0 = 1 then (if f_X4_needsAnyPrefix (f_X4_roleOf (nI j) 0) size (rf 0) = 0 then 0 else 1) else 0)) else 1) else (if kf 1 = 1 then (if f_X4_needsAnyPrefix (f_X4_roleOf (nI j) 1) size (rf 1) = 0 then (if kf 0 = 1 then (if f_X4_needsAnyPrefix (f_X4_roleOf (nI j) 0) size (rf 0) = 0 then 0 else 1) else 0) else 1) else (if kf 0 = 1 then (if f_X4_needsAnyPrefix (f_X4_roleOf (nI j) 0) size (rf 0) = 0 then 0 else 1) else 0))) := by
      unfold tN3 tw
      rw [hw, f1, f3, f4, f5, f6, f7, f8, ← nd_eq hro h14 hK.1 o0, ← nd_eq hro h14 hK.2.1 o1, ← nd_eq hro h14 hK.2.2 o2]
    rw [← hnd]
    by_cases hn0 : tN3 F (nI j) = 0
    · rw [if_pos hn0, if_pos hn0]
      by_cases hb0 : refBits F (nI j) = 0
      · rw [if_pos hb0, if_pos (hB.1.mpr hb0)]
        exact ⟨n, row, tr, rfl, rfl, by omega, by omega, hR⟩
      · rw [if_neg hb0, if_neg (fun h => hb0 (hB.1.mp h)), app_eq hn, put_eq (by omega)]
        exact ⟨n + 1, _, _, rfl, rfl, by omega, by omega, hR1⟩
    · rw [if_neg hn0, if_neg hn0, app_eq hn, put_eq (by omega)]
      exact ⟨n + 1, _, _, rfl, rfl, by omega, by omega, hR1⟩
  · have hw1 : tW F (nI j) = 1 := (tW_01 F (nI j)).resolve_left hw
    have hn1 : tN3 F (nI j) = 1 := by
      unfold tN3
      rw [hw1, tN_1, tN_1, tN_1]
    have hb1 : ¬ refBits F (nI j) = 0 := hB.2 (if_neg hw)
    rw [if_neg (show ¬ tN3 F (nI j) = 0 by rw [hn1]; decide), put_eq (by omega), app_eq hn]
    refine ⟨n + 1, _, _, ?_, rfl, by omega, by omega, hR1⟩
    dsimp only
    rw [if_neg hb1]
    exact ite_self _
theorem qv_nI {lo hi : Int} {x : Int32} (h : qv lo hi x) (h0 : 0 ≤ lo) : ∃ r : Nat, x = nI r ∧ (r : Int) ≤ hi ∧ lo ≤ (r : Int) := by
  obtain ⟨p1, p2⟩ := h
  have hn : ¬ x < 0 := fun q => by
    have := Int32.lt_iff_toInt_lt.mp q
    have e0 : (0 : Int32).toInt = 0 := rfl
    omega
  obtain ⟨r, hr, rfl⟩ := nI_of hn
  rw [nI_toInt hr] at p1 p2
  exact ⟨r, rfl, p2, p1⟩
/-- one opcode or two -/
theorem opc_eq {oc rc : Int32} {lead : Bool} (h : oc = (if lead then 3840 + rc else rc)) (hr : qv 0 255 rc) {n : Nat} (hn : n + 2 ≤ 16) {row tr : Nat → Int32} (hR : RelR n row tr) :
    ∃ m row' tr', f_X5_writeOpcode_J8 (nI n) row oc = (nI m, row') ∧ (∀ (num : Int64) (F : Nat → Int32) (p l g m9 : Int32), (if lead then f_X7_put (nI n) tr 15 else (nI n, tr)) = (nI (m - 1), tr')) ∧ n < m ∧ m ≤ n + 2 ∧ RelR m row' (upd tr' (m - 1) (rc &&& 255)) := by
  obtain ⟨r, rfl, r1, r2⟩ := qv_nI hr (by decide)
  have r3 : r < 256 := by omega
  unfold f_X5_writeOpcode_J8 f_X5_writeOpcode_J15
  cases lead with
  | false =>
    subst h
    simp only [Bool.false_eq_true, if_false]
    have h1 : nI r ≤ (255 : Int32) := nI_le (a := r) (b := 255) (by omega) (by decide)
    rw [if_pos h1, app_eq (by omega)]
    exact ⟨n + 1, _, tr, rfl, fun _ _ _ _ _ _ => rfl, by omega, by omega, relR_upd hR rfl⟩
  | true =>
    have h' : oc = nI (3840 + r) := by rw [h, if_pos rfl, ← nI_add]; rfl
    subst h'
    have h1 : ¬ nI (3840 + r) ≤ (255 : Int32) := nI_ge (a := 255) (b := 3840 + r) (by omega) (by omega)
    rw [if_neg h1, app_eq (by omega)]
    dsimp only
    rw [app_eq (by omega)]
    refine ⟨n + 2, _, upd tr n ((15 : Int32) &&& 255), rfl, fun _ _ _ _ _ _ => ?_, by omega, by omega, ?_⟩
    · rw [if_pos rfl, put_eq (by omega)]
      rfl
    · have e1 : (nI (3840 + r) >>> ((8 : Int32) &&& 31)) &&& 255 = (15 : Int32) &&& 255 := by
        rw [pk_shrN (by omega) _ 8 (by decide)]
        rw [show (3840 + r) / 2 ^ 8 = 15 by omega]
        decide
      have e2 : nI (3840 + r) &&& 255 = nI r &&& 255 := by
        rw [pk_andN (by omega) 8 (by decide), pk_andN (by omega) 8 (by decide)]
        rw [show (3840 + r) % 2 ^ 8 = r % 2 ^ 8 by omega]
      exact relR_upd (relR_upd hR e1) e2
