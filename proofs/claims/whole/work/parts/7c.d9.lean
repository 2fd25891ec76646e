/-! decode: class and reference alike -/
theorem find_spec {c n x : Nat} {row : Nat → Int32} {mk opcode : Int32} : ∀ (m i k : Nat), i + m = 115 → m < k →
    (∃ j, i ≤ j ∧ j < 115 ∧ MC c n row mk (nI x) opcode j ∧ f_X3_findLine_L5 (nI n) mk (nI x) opcode (nI c) row k (nI i) = nI j) ∨ ((∀ j, i ≤ j → j < 115 → ¬ MC c n row mk (nI x) opcode j) ∧ f_X3_findLine_L5 (nI n) mk (nI x) opcode (nI c) row k (nI i) = -1) := by
  intro m
  induction m with
  | zero =>
    intro i k hi hk
    obtain ⟨q, rfl⟩ : ∃ q, k = q + 1 := ⟨k - 1, by omega⟩
    have hi' : i = 115 := by omega
    subst hi'
    have hc : f_X4_lines ≤ nI 115 := by decide
    rw [f_X3_findLine_L5, if_pos hc]
    exact Or.inr ⟨fun j h1 h2 => by omega, rfl⟩
  | succ m ih =>
    intro i k hi hk
    obtain ⟨q, rfl⟩ : ∃ q, k = q + 1 := ⟨k - 1, by omega⟩
    have hc : ¬ f_X4_lines ≤ nI i := nI_ge (a := i) (b := 115) (by omega) (by decide)
    rw [f_X3_findLine_L5, if_neg hc, ← nI_succ]
    have key : ¬ MC c n row mk (nI x) opcode i → (∃ j, i ≤ j ∧ j < 115 ∧ MC c n row mk (nI x) opcode j ∧ f_X3_findLine_L5 (nI n) mk (nI x) opcode (nI c) row q (nI (i + 1)) = nI j) ∨ ((∀ j, i ≤ j → j < 115 → ¬ MC c n row mk (nI x) opcode j) ∧ f_X3_findLine_L5 (nI n) mk (nI x) opcode (nI c) row q (nI (i + 1)) = -1) := by
      intro hM
      rcases ih (i + 1) q (by omega) (by omega) with ⟨j, h1, h2, h3, h4⟩ | ⟨h1, h2⟩
      · exact Or.inl ⟨j, by omega, h2, h3, h4⟩
      · refine Or.inr ⟨fun j g1 g2 => ?_, h2⟩
        by_cases hj : j = i
        · subst hj
          exact hM
        · exact h1 j (by omega) g2
    by_cases h1 : f_X4_hasOpcode (nI i) opcode = 0
    · rw [if_pos h1]
      exact key (fun h => h.1 h1)
    · rw [if_neg h1]
      by_cases h2 : f_X3_isTold (nI n) mk (nI x) (nI c) row (nI i) = 0
      · rw [if_pos h2]
        exact key (fun h => h.2 h2)
      · rw [if_neg h2]
        exact Or.inl ⟨i, by omega, by omega, ⟨h1, h2⟩, rfl⟩
theorem loop_none {c : Nat} {mk x6 pfd pfx x16 : Int32} {fed : Nat → Int32} (hz : ∀ j, j < 115 → ∀ found, (f_X7_fits (nI c) pfx pfd found fed (nI j) (x6 + x16) mk).1 = 0) : ∀ (m i k : Nat) (num fn : Int64) (a s : Int32) (F fd : Nat → Int32), i + m = 115 → m < k →
    ∃ fn' a' s' fd', f_X7_decode_L39 (nI c) fed mk x6 pfd pfx x16 k (nI i) 0 num fn a s F fd = (0, 1, num, fn', 0, a', pfx, pfd, s', F, fd') := by
  intro m
  induction m with
  | zero =>
    intro i k num fn a s F fd hi hk
    obtain ⟨q, rfl⟩ : ∃ q, k = q + 1 := ⟨k - 1, by omega⟩
    have hi' : i = 115 := by omega
    subst hi'
    have hc : (115 : Int32) ≤ nI 115 := by decide
    rw [f_X7_decode_L39, if_pos hc]
    unfold f_X7_decode_J35 f_X7_decode_J38
    rw [if_pos (by decide)]
    exact ⟨_, _, _, _, rfl⟩
  | succ m ih =>
    intro i k num fn a s F fd hi hk
    obtain ⟨q, rfl⟩ : ∃ q, k = q + 1 := ⟨k - 1, by omega⟩
    have hc : ¬ (115 : Int32) ≤ nI i := nI_ge (a := i) (b := 115) (by omega) (by decide)
    rw [f_X7_decode_L39, if_neg hc, if_pos rfl, ← nI_succ]
    have h0 := hz i (by omega) fd
    obtain ⟨y28, y29, y30, y31, y32, e⟩ : ∃ y28 y29 y30 y31 y32, f_X7_fits (nI c) pfx pfd fd fed (nI i) (x6 + x16) mk = (y28, y29, y30, y31, y32) := ⟨_, _, _, _, _, rfl⟩
    rw [e] at h0 ⊢
    have h0 : y28 = 0 := h0
    dsimp only
    rw [if_pos h0]
    exact ih (i + 1) q _ _ _ _ _ _ (by omega) (by omega)
set_option maxHeartbeats 1000000 in
theorem loop_hit {c j0 n' : Nat} {mk x6 pfd pfx x16 op size cond b ix sc d : Int32} {V : Int64} {fed kf rf : Nat → Int32} (hj0 : j0 < 115) (hn' : 0 < n') (hn2 : n' < 2 ^ 31) (hz : ∀ j, j < 115 → ¬ j = j0 → ∀ found, (f_X7_fits (nI c) pfx pfd found fed (nI j) (x6 + x16) mk).1 = 0)
    (hh : ∀ found, (f_X7_fits (nI c) pfx pfd found fed (nI j0) (x6 + x16) mk).1 = 1 ∧ (f_X7_fits (nI c) pfx pfd found fed (nI j0) (x6 + x16) mk).2.2.1 = nI n' ∧ (f_X7_fits (nI c) pfx pfd found fed (nI j0) (x6 + x16) mk).2.1 = V ∧ RelF (f_X7_fits (nI c) pfx pfd found fed (nI j0) (x6 + x16) mk).2.2.2.2 op size cond kf rf b ix sc d) : ∀ (m i k : Nat) (num fn : Int64) (a s : Int32) (F fd : Nat → Int32), i + m = 115 → m < k → i ≤ j0 →
    ∃ fn' a' s' F' fd', f_X7_decode_L39 (nI c) fed mk x6 pfd pfx x16 k (nI i) 0 num fn a s F fd = (nI n', 0, V, fn', 0, a', pfx, pfd, s', F', fd') ∧ RelF F' op size cond kf rf b ix sc d := by
  intro m
  induction m with
  | zero =>
    intro i k num fn a s F fd hi hk hij
    omega
  | succ m ih =>
    intro i k num fn a s F fd hi hk hij
    obtain ⟨q, rfl⟩ : ∃ q, k = q + 1 := ⟨k - 1, by omega⟩
    have hc : ¬ (115 : Int32) ≤ nI i := nI_ge (a := i) (b := 115) (by omega) (by decide)
    rw [f_X7_decode_L39, if_neg hc, if_pos rfl, ← nI_succ]
    obtain ⟨y28, y29, y30, y31, y32, e⟩ : ∃ y28 y29 y30 y31 y32, f_X7_fits (nI c) pfx pfd fd fed (nI i) (x6 + x16) mk = (y28, y29, y30, y31, y32) := ⟨_, _, _, _, _, rfl⟩
    by_cases hij0 : i = j0
    · subst hij0
      have h0 := hh fd
      rw [e] at h0 ⊢
      obtain ⟨h1, h2, h3, h4⟩ := h0
      have h1 : y28 = 1 := h1
      have h2 : y30 = nI n' := h2
      have h3 : y29 = V := h3
      have h4 : RelF y32 op size cond kf rf b ix sc d := h4
      dsimp only
      rw [if_neg (show ¬ y28 = 0 by rw [h1]; decide)]
      obtain ⟨q', rfl⟩ : ∃ q', q = q' + 1 := ⟨q - 1, by omega⟩
      rw [f_X7_decode_L39, h2, h3]
      have hne : ¬ nI n' = 0 := nI_ne0 hn' hn2
      have hle : ¬ nI n' ≤ 0 := nI_nle hn' hn2
      rw [if_neg hne]
      unfold f_X7_decode_J35 f_X7_decode_J38
      rw [if_neg hle, ite_self]
      refine ⟨_, _, _, _, _, rfl, ?_⟩
      obtain ⟨g0, g1, g2, g3, g4, g5, g6, g7, g8, g9, g10, g11, g12⟩ := h4
      simp only [RelF, cl0, cl1, cl2, cl3, cl4, cl5, cl6, cl7, cl8, cl9, cl10, cl11, cl12]
      simp [upd, g0, g1, g2, g3, g4, g5, g6, g7, g8, g9, g10, g11, g12]
    · have h0 := hz i (by omega) hij0 fd
      rw [e] at h0 ⊢
      have h0 : y28 = 0 := h0
      dsimp only
      rw [if_pos h0]
      exact ih (i + 1) q _ _ _ _ _ _ (by omega) (by omega) (by omega)
theorem pfx_byte {r : Nat} (hr : r < 256) : ((nI r &&& -16 = 64) ↔ (nI r >>> ((4 : Int32) &&& 31) = 4)) ∧ nI r &&& 15 = nI (r % 16) := by
  have := tb_256 (p := fun r => decide (((nI r &&& -16 = 64) ↔ (nI r >>> ((4 : Int32) &&& 31) = 4)) ∧ nI r &&& 15 = nI (r % 16))) (by decide +kernel) hr
  exact of_decide_eq_true this
theorem head2 {c m : Nat} {row fed : Nat → Int32} (hR : Row c row fed) (hm : m ≤ 1) (hmc : m ≤ c) : ∃ pf x : Nat, x < 16 ∧ pf ≤ 1 ∧ (nI pf = 0 → x = 0) ∧ m + pf ≤ c ∧ f_X3_readHead_J6 0 (nI c) row (nI m) (nI m) = f_X3_readHead_J18 (nI c) row (nI m) (nI pf) (nI x) (nI (m + pf)) 0 ∧
    (∀ (num fn : Int64) (F fd : Nat → Int32), f_X7_decode_J7 num fn (nI c) F fd fed (nI m) (nI m) = f_X7_decode_L39 (nI c) fed (nI m) (nI m) (nI pf) (nI x) (nI pf) 116 0 0 num fn 0 0 F fd) := by
  have hc := hR.1
  have fuel : (((115 : Int32)).toInt - ((0 : Int32)).toInt).toNat + 1 = 116 := by decide
  have hcl : (nI m).toNatClampNeg = m := nI_clamp (by omega)
  have hno : (f_X2_at (nI c) row (nI m) &&& -16 = 64 → False) → (m < c → ¬ fed m >>> ((4 : Int32) &&& 31) = 4) → ∃ pf x : Nat, x < 16 ∧ pf ≤ 1 ∧ (nI pf = 0 → x = 0) ∧ m + pf ≤ c ∧ f_X3_readHead_J6 0 (nI c) row (nI m) (nI m) = f_X3_readHead_J18 (nI c) row (nI m) (nI pf) (nI x) (nI (m + pf)) 0 ∧
      (∀ (num fn : Int64) (F fd : Nat → Int32), f_X7_decode_J7 num fn (nI c) F fd fed (nI m) (nI m) = f_X7_decode_L39 (nI c) fed (nI m) (nI m) (nI pf) (nI x) (nI pf) 116 0 0 num fn 0 0 F fd) := by
    intro h1 h2
    refine ⟨0, 0, by decide, by decide, fun _ => rfl, by omega, ?_, ?_⟩
    · unfold f_X3_readHead_J6 f_X3_readHead_J9
      rw [if_neg (fun h => h1 h), if_pos rfl]
      rfl
    · intro num fn F fd
      unfold f_X7_decode_J7 f_X7_decode_J11 f_X7_decode_J14 f_X7_decode_J17
      rw [fuel, hcl]
      by_cases h3 : nI c ≤ nI m
      · rw [if_pos h3, if_pos rfl, if_pos rfl]
        rfl
      · have hlt : m < c := by
          apply Decidable.byContradiction
          intro h
          exact h3 (nI_le (by omega) (by omega))
        rw [if_neg h3, if_neg (h2 hlt), if_pos rfl, if_pos rfl]
        rfl
  by_cases h : m < c
  · obtain ⟨r, e, g1, g2⟩ := qv_nI (hR.2.2 m h) (by decide)
    have ef : fed m = nI r := by rw [← hR.2.1 m h]; exact e
    obtain ⟨b1, b2⟩ := pfx_byte (r := r) (by omega)
    by_cases h4 : nI r &&& -16 = 64
    · refine ⟨1, r % 16, by omega, by decide, fun h => absurd h (by decide), by omega, ?_, ?_⟩
      · unfold f_X3_readHead_J6 f_X3_readHead_J9
        rw [at_eq hc (by omega), if_pos h, e, if_pos h4, if_neg (by decide), oct_eq hR (by omega), if_pos h, e]
        dsimp only
        rw [b2]
        rfl
      · intro num fn F fd
        unfold f_X7_decode_J7 f_X7_decode_J11 f_X7_decode_J14 f_X7_decode_J17
        have h3 : ¬ nI c ≤ nI m := nI_ge h (by omega)
        rw [fuel, hcl, if_neg h3, ef, if_pos (b1.mp h4), if_neg (by decide), if_neg (by decide), b2]
        rfl
    · refine hno ?_ ?_
      · rw [at_eq hc (by omega), if_pos h, e]
        exact h4
      · intro _
        rw [ef]
        exact fun q => h4 (b1.mpr q)
  · refine hno ?_ (fun h' => absurd h' h)
    rw [at_eq hc (by omega), if_neg h]
    decide
theorem head_eq {c : Nat} {row fed : Nat → Int32} (hR : Row c row fed) : ∃ m pf x : Nat, x < 16 ∧ m ≤ 1 ∧ pf ≤ 1 ∧ (nI pf = 0 → x = 0) ∧ m + pf ≤ c ∧ f_X3_readHead 0 0 (nI c) row = f_X3_readHead_J18 (nI c) row (nI m) (nI pf) (nI x) (nI (m + pf)) 0 ∧
    (∀ (num fn : Int64) (F fd : Nat → Int32), f_X7_decode num fn (nI c) F fd fed = f_X7_decode_L39 (nI c) fed (nI m) (nI m) (nI pf) (nI x) (nI pf) 116 0 0 num fn 0 0 F fd) := by
  have hc := hR.1
  have h0 : f_X2_at (nI c) row 0 = if 0 < c then row 0 else -1 := at_eq hc (n := 0) (by decide) row
  by_cases h : 0 < c ∧ row 0 = 243
  · obtain ⟨pf, x, a1, a2, a3, a4, a5, a6⟩ := head2 hR (m := 1) (by decide) (by omega)
    refine ⟨1, pf, x, a1, by decide, a2, a3, a4, ?_, ?_⟩
    · rw [← a5]
      unfold f_X3_readHead f_X3_readHead_J3
      rw [h0, if_pos h.1, if_pos h.2, if_neg (by decide)]
      rfl
    · intro num fn F fd
      rw [← a6]
      unfold f_X7_decode f_X7_decode_J4
      have h3 : ¬ nI c ≤ 0 := nI_nle h.1 (by omega)
      have h4 : fed ((0 : Int32)).toNatClampNeg = 243 := by
        show fed 0 = 243
        rw [← hR.2.1 0 h.1]
        exact h.2
      rw [if_neg h3, if_pos h4, if_neg (by decide)]
      rfl
  · obtain ⟨pf, x, a1, a2, a3, a4, a5, a6⟩ := head2 hR (m := 0) (by decide) (by omega)
    refine ⟨0, pf, x, a1, by decide, a2, a3, a4, ?_, ?_⟩
    · rw [← a5]
      unfold f_X3_readHead f_X3_readHead_J3
      have h1 : ¬ (if 0 < c then row 0 else -1) = 243 := by
        by_cases h2 : 0 < c
        · rw [if_pos h2]
          exact fun q => h ⟨h2, q⟩
        · rw [if_neg h2]
          decide
      rw [h0, if_neg h1, if_pos rfl]
      rfl
    · intro num fn F fd
      rw [← a6]
      unfold f_X7_decode f_X7_decode_J4
      by_cases h3 : nI c ≤ 0
      · rw [if_pos h3, if_pos rfl]
        rfl
      · have hlt : 0 < c := by
          apply Decidable.byContradiction
          intro h
          have : c = 0 := by omega
          subst this
          exact h3 (by decide)
        have h4 : ¬ fed ((0 : Int32)).toNatClampNeg = 243 := by
          show ¬ fed 0 = 243
          rw [← hR.2.1 0 hlt]
          exact fun q => h ⟨hlt, q⟩
        rw [if_neg h3, if_neg h4, if_pos rfl]
        rfl
theorem head_res {c n0 x : Nat} {row fed : Nat → Int32} (hR : Row c row fed) (hx : x < 16) (hn : n0 ≤ c) {mk pfd : Int32} (hpp : pfd = 0 → x = 0) :
    (∃ o n, HeadOK c n0 n row o ∧ o < 5000 ∧ f_X3_readHead_J18 (nI c) row mk pfd (nI x) (nI n0) 0 = (nI n, 0, mk, pfd, nI x, nI o)) ∨ ((∀ j, j < 115 → ∀ found, (f_X7_fits (nI c) (nI x) pfd found fed (nI j) (nI n0) mk).1 = 0) ∧ ∃ nx oc, f_X3_readHead_J18 (nI c) row mk pfd (nI x) (nI n0) 0 = (nx, 1, mk, pfd, nI x, oc)) := by
  have hc := hR.1
  have fall : ∀ j, j < 115 → (rLeads j = 15 → ∀ found, ¬ mk = (if rLeads j = 243 then 1 else 0) ∨ (f_X7_fits (nI c) (nI x) pfd found fed (nI j) (nI n0) mk).1 = 0) → (¬ rLeads j = 15 → ∀ found, (f_X7_fits_J13 (nI c) (nI x) pfd found fed (nI j) (nI n0) 0).1 = 0) → ∀ found, (f_X7_fits (nI c) (nI x) pfd found fed (nI j) (nI n0) mk).1 = 0 := by
    intro j hj h1 h2 found
    have hcl := nI_cl hj
    by_cases hmk : mk = (if rLeads j = 243 then 1 else 0)
    · by_cases hl : rLeads j = 15
      · rcases h1 hl found with h | h
        · exact absurd hmk h
        · exact h
      · rw [fits_n (by rw [hcl]; exact hmk) (by rw [hcl]; exact hl)]
        exact h2 hl found
    · exact fits_bad (by rw [hcl]; exact hmk)
  unfold f_X3_readHead_J18 f_X3_readHead_J31
  by_cases h : n0 < c
  · obtain ⟨r, e, g1, g2⟩ := qv_nI (hR.2.2 n0 h) (by decide)
    rw [oct_eq hR (by omega), if_pos h, e]
    dsimp only
    by_cases h15 : r = 15
    · subst h15
      rw [if_pos (by rfl), oct_eq hR (by omega)]
      by_cases h1 : n0 + 1 < c
      · obtain ⟨r', e', g1', g2'⟩ := qv_nI (hR.2.2 _ h1) (by decide)
        rw [if_pos h1, e']
        refine Or.inl ⟨3840 + r', n0 + 2, Or.inr ⟨r', by omega, h1, e, e', rfl, rfl⟩, by omega, ?_⟩
        rw [← nI_add 3840 r']
        rfl
      · rw [if_neg h1]
        refine Or.inr ⟨fun j hj => fall j hj (fun hl found => ?_) (fun hl found => ?_), _, _, rfl⟩
        · have hcl := nI_cl hj
          by_cases hmk : mk = (if rLeads j = 243 then 1 else 0)
          · right
            have hnext : f_X7_next (nI c) (nI n0) 0 fed = (15, nI (n0 + 1), 0) := by
              rw [nxt_eq hc (by omega), if_pos h, ← hR.2.1 n0 h, e]
              simp only [h, if_true]
              rfl
            rw [fits_15 (by rw [hcl]; exact hmk) (by rw [hcl]; exact hl) hnext]
            exact st13 hR hj hx (by omega) (by omega) hpp found
          · exact Or.inl hmk
        · obtain ⟨-, -, t3, -⟩ := tb_lineT hj
          have hnext : f_X7_next (nI c) (nI n0) 0 fed = (15, nI (n0 + 1), 0) := by
            rw [nxt_eq hc (by omega), if_pos h, ← hR.2.1 n0 h, e]
            simp only [h, if_true]
            rfl
          rw [J13_m hnext, nI_cl hj]
          refine J29_z ?_
          rw [nI_cl hj]
          exact t3 hl
    · have hne : ¬ nI r = 15 := fun q => h15 ((nI_eq (b := 15) (by omega) (by decide)).mp q)
      rw [if_neg hne]
      exact Or.inl ⟨r, n0 + 1, Or.inl ⟨by omega, h15, h, e, rfl⟩, by omega, rfl⟩
  · rw [oct_eq hR (by omega), if_neg h]
    dsimp only
    rw [if_neg (by decide)]
    refine Or.inr ⟨fun j hj => fall j hj (fun hl found => Or.inr ?_) (fun hl found => ?_), _, _, rfl⟩
    · have hnext : f_X7_next (nI c) (nI n0) 0 fed = (0, nI (n0 + 1), 1) := by
        rw [nxt_eq hc (by omega), if_neg h]
        simp only [h, if_true, if_false]
      exact fits_15z (by rw [nI_cl hj]; exact hl) hnext (by decide)
    · exact st13 hR hj hx (by omega) (by omega) hpp found
set_option maxHeartbeats 4000000 in
theorem dec_eq {c : Nat} {row fed : Nat → Int32} (hR : Row c row fed) (oform op0 size0 cond0 : Int32) (num0 : Int64) (kf0 rf0 : Nat → Int32) (b0 i0 s0 d0 : Int32) (num fn : Int64) (F fd : Nat → Int32) :
    (∃ y2 y3 y4 y5 y6 y7 y8 y9 y10 y11 y12 y13 y14 y15 y16 y17 y18, f_X3_readInstruction oform (nI c) row op0 size0 cond0 num0 kf0 rf0 b0 i0 s0 d0 = (0, y2, y3, y4, y5, y6, y7, y8, y9, y10, y11, y12, y13, y14, y15, y16, y17, y18) ∧ ∃ fn' a' p' q' s' fd', f_X7_decode num fn (nI c) F fd fed = (0, 1, num, fn', 0, a', p', q', s', F, fd')) ∨
    (∃ n : Nat, 0 < n ∧ n ≤ c ∧ ∃ y2 y3 y4 y5 y6 y7 y8 y9 y10 y11 y12 y13 y14 y15 y16 y17 y18, f_X3_readInstruction oform (nI c) row op0 size0 cond0 num0 kf0 rf0 b0 i0 s0 d0 = (nI n, y2, y3, y4, y5, y6, y7, y8, y9, y10, y11, y12, y13, y14, y15, y16, y17, y18) ∧ ∃ fn' a' p' q' s' F' fd', f_X7_decode num fn (nI c) F fd fed = (nI n, 0, y12, fn', 0, a', p', q', s', F', fd') ∧ RelF F' y9 y10 y11 y13 y14 y15 y16 y17 y18 ∧ WfK y13 y14) := by
  have hc := hR.1
  obtain ⟨m, pf, x, hx, hm1, hp1, hpp, hn0, eh, ed⟩ := head_eq hR
  have hfrom : nI m + nI pf = nI (m + pf) := nI_add m pf
  have fuel : ((f_X4_lines).toInt - ((0 : Int32)).toInt).toNat + 1 = 116 := by decide
  unfold f_X3_readInstruction
  rw [eh, ed]
  have none : (∀ j, j < 115 → ∀ found, (f_X7_fits (nI c) (nI x) (nI pf) found fed (nI j) (nI (m + pf)) (nI m)).1 = 0) → ∃ fn' a' p' q' s' fd', f_X7_decode_L39 (nI c) fed (nI m) (nI m) (nI pf) (nI x) (nI pf) 116 0 0 num fn 0 0 F fd = (0, 1, num, fn', 0, a', p', q', s', F, fd') := by
    intro hz
    obtain ⟨fn', a', s', fd', e⟩ := loop_none (c := c) (mk := nI m) (x6 := nI m) (pfd := nI pf) (pfx := nI x) (x16 := nI pf) (fed := fed) (by rw [hfrom]; exact hz) 115 0 116 num fn 0 0 F fd (by omega) (by omega)
    exact ⟨fn', a', nI x, nI pf, s', fd', e⟩
  rcases head_res (fed := fed) (mk := nI m) hR hx hn0 hpp with ⟨o, n, hH, ho, e⟩ | ⟨hz, nx, oc, e⟩
  · rw [e]
    dsimp only
    rw [if_pos rfl]
    unfold f_X3_findLine
    rw [fuel]
    have two := fun j hj found => line_two (pfd := nI pf) (oform := oform) (mk := nI m) hR (j := j) hj hx hH hpp found kf0 rf0
    rcases find_spec (c := c) (n := n) (x := x) (row := row) (mk := nI m) (opcode := nI o) 115 0 116 (by omega) (by omega) with ⟨j, -, hj, hM, ej⟩ | ⟨hM, ej⟩
    · have ej : f_X3_findLine_L5 (nI n) (nI m) (nI x) (nI o) (nI c) row 116 0 = nI j := ej
      rw [ej]
      unfold f_X3_readInstruction_J10 f_X3_readInstruction_J28
      have hjn : ¬ nI j = -1 := fun h => by
        have := congrArg Int32.toInt h
        rw [nI_toInt (by omega)] at this
        have e1 : (-1 : Int32).toInt = -1 := rfl
        omega
      rw [if_neg hjn]
      have others : ∀ l, l < 115 → ¬ l = j → ∀ found, (f_X7_fits (nI c) (nI x) (nI pf) found fed (nI l) (nI (m + pf)) (nI m)).1 = 0 := by
        intro l hl hlj found
        rcases two l hl found with ⟨h, -⟩ | ⟨-, h⟩
        · exact absurd (mc_one hl hj ho h hM) hlj
        · exact h
      have hL : ∀ found, ∃ f0, LR c f0 (f_X3_readLine (nI n) 0 (nI pf) (nI x) (nI o) oform (nI c) row kf0 rf0 (nI j)) (f_X7_fits (nI c) (nI x) (nI pf) found fed (nI j) (nI (m + pf)) (nI m)) := by
        intro found
        rcases two j hj found with ⟨-, h⟩ | ⟨h, -⟩
        · exact h
        · exact absurd hM h
      obtain ⟨z1, z2, z3, z4, z5, z6, z7, z8, z9, z10, z11, z12, z13, ez⟩ : ∃ z1 z2 z3 z4 z5 z6 z7 z8 z9 z10 z11 z12 z13, f_X3_readLine (nI n) 0 (nI pf) (nI x) (nI o) oform (nI c) row kf0 rf0 (nI j) = (z1, z2, z3, z4, z5, z6, z7, z8, z9, z10, z11, z12, z13) := ⟨_, _, _, _, _, _, _, _, _, _, _, _, _, rfl⟩
      rw [ez] at hL ⊢
      dsimp only
      by_cases hf : z2 = 0
      · rw [if_pos hf]
        obtain ⟨f0, hL0⟩ := hL fd
        rcases hL0 with ⟨h, -⟩ | ⟨-, -, -, -, ⟨n', hn1, hn2, hn3, -⟩, -, hwf⟩
        · exact absurd hf h
        have hn3 : z1 = nI n' := hn3
        right
        have hit := loop_hit (c := c) (n' := n') (mk := nI m) (x6 := nI m) (pfd := nI pf) (pfx := nI x) (x16 := nI pf) (fed := fed) (V := z7) (op := z4) (size := z5) (cond := z6) (kf := z8) (rf := z9) (b := z10) (ix := z11) (sc := z12) (d := z13) hj hn1 (by omega) (by rw [hfrom]; exact others) (by
          rw [hfrom]
          intro found
          obtain ⟨f0, hL0⟩ := hL found
          rcases hL0 with ⟨h, -⟩ | ⟨-, -, h1, h2, ⟨n2, -, -, h3, h4⟩, h5, -⟩
          · exact absurd hf h
          · exact ⟨h1, by rw [h4, ← hn3]; exact h3.symm, h2, h5⟩) 115 0 116 num fn 0 0 F fd (by omega) (by omega) (by omega)
        obtain ⟨fn', a', s', F', fd', e1, e2⟩ := hit
        exact ⟨n', hn1, hn2, _, _, _, _, _, _, _, _, _, _, _, _, _, _, _, _, _, by rw [hn3], fn', a', nI x, nI pf, s', F', fd', e1, e2, hwf⟩
      · rw [if_neg hf]
        left
        refine ⟨_, _, _, _, _, _, _, _, _, _, _, _, _, _, _, _, _, rfl, none ?_⟩
        intro l hl found
        by_cases hlj : l = j
        · subst hlj
          obtain ⟨f0, hL0⟩ := hL found
          rcases hL0 with ⟨-, h⟩ | ⟨h, -⟩
          · exact h
          · exact absurd h hf
        · exact others l hl hlj found
    · have ej : f_X3_findLine_L5 (nI n) (nI m) (nI x) (nI o) (nI c) row 116 0 = -1 := ej
      rw [ej]
      unfold f_X3_readInstruction_J10
      rw [if_pos rfl]
      left
      refine ⟨_, _, _, _, _, _, _, _, _, _, _, _, _, _, _, _, _, rfl, none ?_⟩
      intro l hl found
      rcases two l hl found with ⟨h, -⟩ | ⟨-, h⟩
      · exact absurd h (hM l (by omega) hl)
      · exact h
  · rw [e]
    dsimp only
    rw [if_neg (by decide)]
    unfold f_X3_readInstruction_J10
    rw [if_pos rfl]
    left
    exact ⟨_, _, _, _, _, _, _, _, _, _, _, _, _, _, _, _, _, rfl, none hz⟩
