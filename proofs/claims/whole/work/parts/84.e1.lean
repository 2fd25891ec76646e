/-! encode: class and reference alike -/
def OkP (P : Int32 × (Nat → Int32)) : Prop := ∀ i, i < P.1.toNatClampNeg → P.2 i &&& 255 = P.2 i
theorem and_255 (x : Int32) : (x &&& 255) &&& 255 = x &&& 255 := by
  rw [Int32.and_assoc]
  rfl
theorem okp_app {c : Int32} {row : Nat → Int32} (h : OkP (c, row)) (x : Int32) : OkP (f_X2_append c row x) := by
  unfold f_X2_append f_X2_append_J5
  by_cases h1 : c < 0
  · rw [if_pos h1]; exact h
  · rw [if_neg h1]
    by_cases h2 : 16 ≤ c
    · rw [if_pos h2]; exact h
    · rw [if_neg h2]
      obtain ⟨n, hn, rfl⟩ := nI_of h1
      rw [← nI_succ]
      have h16 : n < 16 := by
        apply Decidable.byContradiction
        intro hh
        exact h2 (nI_le (a := 16) (b := n) (by omega) hn)
      intro i hi
      have hi : i < n + 1 := by
        have : (nI (n + 1)).toNatClampNeg = n + 1 := nI_clamp (by omega)
        rw [← this]; exact hi
      show upd row (nI n).toNatClampNeg (x &&& 255) i &&& 255 = upd row (nI n).toNatClampNeg (x &&& 255) i
      rw [nI_clamp hn]
      unfold upd
      by_cases he : i = n
      · rw [if_pos he]; exact and_255 x
      · rw [if_neg he]
        refine h i ?_
        show i < (nI n).toNatClampNeg
        rw [nI_clamp hn]; omega
theorem okp_m {P : Int32 × (Nat → Int32)} (h : OkP P) : OkP (P.1, P.2) := h
theorem okp_lp (v : Int64) (w : Int32) : ∀ (n : Nat) (k c : Int32) (row : Nat → Int32), OkP (c, row) → OkP (f_X2_appendLowestFirst_L8 v w n k c row) := by
  intro n
  induction n with
  | zero =>
    intro k c row h
    rw [f_X2_appendLowestFirst_L8]
    exact fun i hi => absurd hi (Nat.not_lt_zero _)
  | succ n ih =>
    intro k c row h
    rw [f_X2_appendLowestFirst_L8]
    by_cases hc : w ≤ k
    · rw [if_pos hc]; exact h
    · rw [if_neg hc]
      exact ih _ _ _ (okp_app h _)
theorem okp_all {c : Int32} {row : Nat → Int32} (h : OkP (c, row)) (v : Int64) (w : Int32) : OkP (f_X2_appendLowestFirst c row v w) := okp_lp v w _ _ _ _ h
theorem okp_e {P Q : Int32 × (Nat → Int32)} (h : OkP P) (e : P = Q) : OkP Q := e ▸ h
theorem okp_15 {c : Int32} {row : Nat → Int32} (h : OkP (c, row)) (b i p x y : Int32) (kf rf : Nat → Int32) : OkP (f_X5_writePrefix_J15 kf rf b i c row p x y) := by
  unfold f_X5_writePrefix_J15 f_X5_writePrefix_J26
  generalize ((x ||| (f_X5_operandBits kf rf b i (f_X4_roleOf p (0 : Int32)) (0 : Int32))) ||| (f_X5_operandBits kf rf b i (f_X4_roleOf p (1 : Int32)) (1 : Int32))) ||| (f_X5_operandBits kf rf b i (f_X4_roleOf p (2 : Int32)) (2 : Int32)) = z
  obtain ⟨c1, row1, e⟩ : ∃ c1 row1, f_X2_append c row (64 + z) = (c1, row1) := ⟨_, _, rfl⟩
  have h1 : OkP (c1, row1) := okp_e (okp_app h (64 + z)) e
  rw [e]
  dsimp only
  by_cases h2 : y = 0
  · rw [if_pos h2]
    by_cases h3 : z = 0
    · rw [if_pos h3]; exact h
    · rw [if_neg h3]; exact h1
  · rw [if_neg h2]; exact h1
theorem okp_pfx {c : Int32} {row : Nat → Int32} (h : OkP (c, row)) (size b i p : Int32) (kf rf : Nat → Int32) : OkP (f_X5_writePrefix size kf rf b i c row p) := by
  rw [nf_X5_writePrefix, nf_X5_writePrefix_J3, nf_X5_writePrefix_J7, nf_X5_writePrefix_J11]
  exact okp_15 h _ _ _ _ _ _ _
theorem okp_o15 {c : Int32} {row : Nat → Int32} (h : OkP (c, row)) (x : Int32) : OkP (f_X5_writeOpcode_J15 x c row) := by
  unfold f_X5_writeOpcode_J15
  obtain ⟨c1, row1, e⟩ : ∃ c1 row1, f_X2_append c row x = (c1, row1) := ⟨_, _, rfl⟩
  have h1 : OkP (c1, row1) := okp_e (okp_app h x) e
  rw [e]
  exact h1
theorem okp_opc8 {c : Int32} {row : Nat → Int32} (h : OkP (c, row)) (x : Int32) : OkP (f_X5_writeOpcode_J8 c row x) := by
  unfold f_X5_writeOpcode_J8
  by_cases h2 : x ≤ 255
  · rw [if_pos h2]; exact okp_o15 h x
  · rw [if_neg h2]
    obtain ⟨c1, row1, e⟩ : ∃ c1 row1, f_X2_append c row (x >>> ((8 : Int32) &&& 31)) = (c1, row1) := ⟨_, _, rfl⟩
    have h1 : OkP (c1, row1) := okp_e (okp_app h _) e
    rw [e]
    exact okp_o15 h1 x
theorem okp_opc {c : Int32} {row : Nat → Int32} (h : OkP (c, row)) (size cond p : Int32) (rf : Nat → Int32) : OkP (f_X5_writeOpcode size cond rf c row p) := by
  unfold f_X5_writeOpcode f_X5_writeOpcode_J6
  by_cases h1 : f_X4_hasCondition p = 0
  · rw [if_pos h1]
    by_cases h2 : f_X4_hasSizeBit p = 0
    · rw [if_pos h2]
      by_cases h3 : f_X4_roleOf p 0 = 5
      · rw [if_pos h3]; exact okp_opc8 h _
      · rw [if_neg h3]; exact okp_opc8 h _
    · rw [if_neg h2]
      by_cases h3 : size = 1
      · rw [if_pos h3]; exact okp_opc8 h _
      · rw [if_neg h3]; exact okp_opc8 h _
  · rw [if_neg h1]; exact okp_opc8 h _
theorem okp_m10 {c : Int32} {row : Nat → Int32} (h : OkP (c, row)) (b d : Int32) : OkP (f_X5_writeMemory_J10 b d c row) := by
  unfold f_X5_writeMemory_J10
  obtain ⟨c1, row1, e⟩ : ∃ c1 row1, f_X2_appendLowestFirst c row (d.toInt64) (f_X1_displacementWidth b d) = (c1, row1) := ⟨_, _, rfl⟩
  have h1 : OkP (c1, row1) := okp_e (okp_all h _ _) e
  rw [e]
  exact h1
theorem okp_mem {c : Int32} {row : Nat → Int32} (h : OkP (c, row)) (b i s d p : Int32) : OkP (f_X5_writeMemory b i s d c row p) := by
  unfold f_X5_writeMemory
  obtain ⟨c1, row1, e⟩ : ∃ c1 row1, f_X2_append c row ((((64 : Int32) * (f_X1_mod b d)) + ((8 : Int32) * p)) + (f_X1_formLow b i)) = (c1, row1) := ⟨_, _, rfl⟩
  have h1 : OkP (c1, row1) := okp_e (okp_app h _) e
  rw [e]
  dsimp only
  by_cases h2 : f_X1_needsIndexByte b i = 0
  · rw [if_pos h2]; exact okp_m10 h1 _ _
  · rw [if_neg h2]
    obtain ⟨c2, row2, e2⟩ : ∃ c2 row2, f_X2_append c1 row1 (f_X1_indexByte b i s) = (c2, row2) := ⟨_, _, rfl⟩
    have h3 : OkP (c2, row2) := okp_e (okp_app h1 _) e2
    rw [e2]
    exact okp_m10 h3 _ _
theorem okp_f18 {c : Int32} {row : Nat → Int32} (h : OkP (c, row)) (b i s d x y : Int32) (kf rf : Nat → Int32) : OkP (f_X5_writeForm_J18 kf rf b i s d c row x y) := by
  unfold f_X5_writeForm_J18 f_X5_writeForm_J28
  by_cases h2 : f_X0_kindOf kf x = 2
  · rw [if_pos h2]
    obtain ⟨c1, row1, e⟩ : ∃ c1 row1, f_X5_writeMemory b i s d c row y = (c1, row1) := ⟨_, _, rfl⟩
    have h1 : OkP (c1, row1) := okp_e (okp_mem h _ _ _ _ _) e
    rw [e]
    exact h1
  · rw [if_neg h2]
    obtain ⟨c1, row1, e⟩ : ∃ c1 row1, f_X2_append c row (((192 : Int32) + ((8 : Int32) * y)) + ((f_X0_registerOf rf x) &&& (7 : Int32))) = (c1, row1) := ⟨_, _, rfl⟩
    have h1 : OkP (c1, row1) := okp_e (okp_app h _) e
    rw [e]
    exact h1
theorem okp_form {c : Int32} {row : Nat → Int32} (h : OkP (c, row)) (b i s d p : Int32) (kf rf : Nat → Int32) : OkP (f_X5_writeForm kf rf b i s d c row p) := by
  rw [nf_X5_writeForm, nf_X5_writeForm_J4, nf_X5_writeForm_J8, nf_X5_writeForm_J13]
  exact okp_f18 h _ _ _ _ _ _ _ _
theorem okp_w20 {c : Int32} {row : Nat → Int32} (h : OkP (c, row)) (size p : Int32) (num : Int64) : OkP (f_X5_write_J20 size num p c row) := by
  unfold f_X5_write_J20
  obtain ⟨c1, row1, e⟩ : ∃ c1 row1, f_X2_appendLowestFirst c row num (f_X4_numberWidth (f_X4_numberOf p size)) = (c1, row1) := ⟨_, _, rfl⟩
  have h1 : OkP (c1, row1) := okp_e (okp_all h _ _) e
  rw [e]
  exact h1
theorem okp_w7 {c : Int32} {row : Nat → Int32} (h : OkP (c, row)) (size cond : Int32) (num : Int64) (kf rf : Nat → Int32) (b i s d p : Int32) : OkP (f_X5_write_J7 size cond num kf rf b i s d p c row) := by
  unfold f_X5_write_J7
  obtain ⟨c1, row1, e⟩ : ∃ c1 row1, f_X5_writePrefix size kf rf b i c row p = (c1, row1) := ⟨_, _, rfl⟩
  have h1 : OkP (c1, row1) := okp_e (okp_pfx h _ _ _ _ _ _) e
  rw [e]
  dsimp only
  obtain ⟨c2, row2, e2⟩ : ∃ c2 row2, f_X5_writeOpcode size cond rf c1 row1 p = (c2, row2) := ⟨_, _, rfl⟩
  have h2 : OkP (c2, row2) := okp_e (okp_opc h1 _ _ _ _) e2
  rw [e2]
  dsimp only
  by_cases h3 : f_X4_hasForm p = 0
  · rw [if_pos h3]; exact okp_w20 h2 _ _ _
  · rw [if_neg h3]
    obtain ⟨c3, row3, e3⟩ : ∃ c3 row3, f_X5_writeForm kf rf b i s d c2 row2 p = (c3, row3) := ⟨_, _, rfl⟩
    have h4 : OkP (c3, row3) := okp_e (okp_form h2 _ _ _ _ _ _ _) e3
    rw [e3]
    exact okp_w20 h4 _ _ _
theorem okp_write (size cond : Int32) (num : Int64) (kf rf : Nat → Int32) (b i s d p : Int32) (orow : Nat → Int32) : OkP (f_X5_write size cond num kf rf b i s d orow p) := by
  unfold f_X5_write
  have h0 : OkP (f_X2_clear, orow) := fun i hi => absurd hi (Nat.not_lt_zero _)
  by_cases h2 : f_X4_isRepeated p = 0
  · rw [if_pos h2]; exact okp_w7 h0 _ _ _ _ _ _ _ _ _ _
  · rw [if_neg h2]
    obtain ⟨c1, row1, e⟩ : ∃ c1 row1, f_X2_append f_X2_clear orow 243 = (c1, row1) := ⟨_, _, rfl⟩
    have h1 : OkP (c1, row1) := okp_e (okp_app h0 _) e
    rw [e]
    exact okp_w7 h1 _ _ _ _ _ _ _ _ _ _
theorem copy_step {m : Nat} (hm : m ≤ 16) {src : Nat → Int32} (hs : ∀ i, i < m → src i &&& 255 = src i) : ∀ (q k f : Nat) (row : Nat → Int32), k + q = m → q < f → (∀ i, i < k → row i = src i) →
    ∃ row', f_X2_copyFrom_L8 (nI m) src f (nI k) (nI k) row = (nI m, row') ∧ ∀ i, i < m → row' i = src i := by
  intro q
  induction q with
  | zero =>
    intro k f row hk hf hR
    obtain ⟨g, rfl⟩ : ∃ g, f = g + 1 := ⟨f - 1, by omega⟩
    have hkm : k = m := by omega
    subst hkm
    have hc : nI k ≤ nI k := nI_le (by omega) (by omega)
    rw [f_X2_copyFrom_L8, if_pos hc]
    exact ⟨row, rfl, hR⟩
  | succ q ih =>
    intro k f row hk hf hR
    obtain ⟨g, rfl⟩ : ∃ g, f = g + 1 := ⟨f - 1, by omega⟩
    have hc : ¬ nI m ≤ nI k := nI_ge (by omega) (by omega)
    rw [f_X2_copyFrom_L8, if_neg hc, at_eq hm (by omega), if_pos (show k < m by omega), app_eq (by omega)]
    dsimp only
    rw [← nI_succ]
    refine ih (k + 1) g _ (by omega) (by omega) (fun i hi => ?_)
    unfold upd
    by_cases he : i = k
    · rw [if_pos he, he]; exact hs k (by omega)
    · rw [if_neg he]; exact hR i (by omega)
theorem copy_eq {m : Nat} (hm : m ≤ 16) {src : Nat → Int32} (hs : ∀ i, i < m → src i &&& 255 = src i) (row : Nat → Int32) : ∃ row', f_X2_copyFrom row (nI m) src = (nI m, row') ∧ ∀ i, i < m → row' i = src i := by
  unfold f_X2_copyFrom
  have hz : ((nI m).toInt - (0 : Int32).toInt).toNat + 1 = m + 1 := by
    rw [nI_toInt (by omega)]
    show ((m : Int) - 0).toNat + 1 = m + 1
    omega
  rw [hz]
  exact copy_step hm hs m 0 (m + 1) row (by omega) (by omega) (fun i hi => absurd hi (Nat.not_lt_zero _))
theorem rcopy_step {m : Nat} (hm : m ≤ 16) {src : Nat → Int32} : ∀ (q k f : Nat) (row : Nat → Int32), k + q = m → q < f → (∀ i, i < k → row i = src i) →
    ∃ row', f_X7_encode_L16 (nI m) src f (nI k) row = (nI m, row') ∧ ∀ i, i < m → row' i = src i := by
  intro q
  induction q with
  | zero =>
    intro k f row hk hf hR
    obtain ⟨g, rfl⟩ : ∃ g, f = g + 1 := ⟨f - 1, by omega⟩
    have hkm : k = m := by omega
    subst hkm
    have hc : nI k ≤ nI k := nI_le (by omega) (by omega)
    rw [f_X7_encode_L16, if_pos hc]
    exact ⟨row, rfl, hR⟩
  | succ q ih =>
    intro k f row hk hf hR
    obtain ⟨g, rfl⟩ : ∃ g, f = g + 1 := ⟨f - 1, by omega⟩
    have hc : ¬ nI m ≤ nI k := nI_ge (by omega) (by omega)
    rw [f_X7_encode_L16, if_neg hc, nI_clamp (by omega), ← nI_succ]
    refine ih (k + 1) g _ (by omega) (by omega) (fun i hi => ?_)
    unfold upd
    by_cases he : i = k
    · rw [if_pos he, he]
    · rw [if_neg he]; exact hR i (by omega)
theorem L26_eq (y8 : Int32) (y9 : Nat → Int32) : ∀ (n : Nat) (k : Int32) (row : Nat → Int32), f_X7_encode_L26 y8 y9 n k row = f_X7_encode_L16 y8 y9 n k row := by
  intro n
  induction n with
  | zero => intro k row; rw [f_X7_encode_L26, f_X7_encode_L16]
  | succ n ih =>
    intro k row
    rw [f_X7_encode_L26, f_X7_encode_L16, ih]
theorem rcopy_eq {m : Nat} (hm : m ≤ 16) (src row : Nat → Int32) : ∃ row', f_X7_encode_L16 (nI m) src (((nI m).toInt - ((0 : Int32)).toInt).toNat + 1) (0 : Int32) row = (nI m, row') ∧ ∀ i, i < m → row' i = src i := by
  have hz : ((nI m).toInt - (0 : Int32).toInt).toNat + 1 = m + 1 := by
    rw [nI_toInt (by omega)]
    show ((m : Int) - 0).toNat + 1 = m + 1
    omega
  rw [hz]
  exact rcopy_step hm m 0 (m + 1) row (by omega) (by omega) (fun i hi => absurd hi (Nat.not_lt_zero _))
theorem tell_two {F kf rf : Nat → Int32} {op size cond b i s d : Int32} (hF : RelF F op size cond kf rf b i s d) (hK : WfK kf rf) {j : Nat} (hj : j < 115) (num : Int64) (tried : Int32) (trial : Nat → Int32) :
    (f_X5_canTell op size cond num kf rf b i s (nI j) = 0 ∧ f_X7_tries num tried F trial (nI j) = (0, tried, trial)) ∨ (¬ f_X5_canTell op size cond num kf rf b i s (nI j) = 0 ∧ Acc F kf rf op size cond b i s d j ∧ f_X7_tries num tried F trial (nI j) = f_X7_tries_J128 num F trial (nI j) (tL3 F (nI j)) (tG3 F (nI j)) (tB3 F (nI j)) (tN3 F (nI j)) (tM3 F)) := by
  rw [tell_eq (num := num) hF hK hj, tries_nf]
  by_cases h0 : tGood F (nI j) = 0
  · rw [if_pos h0, if_pos h0]; exact Or.inl ⟨rfl, rfl⟩
  rw [if_neg h0, if_neg h0]
  by_cases h1 : f_X7_suits num F (nI j) 0 (F 3) (F 4) = 0
  · rw [if_pos h1, if_pos h1]; exact Or.inl ⟨rfl, rfl⟩
  rw [if_neg h1, if_neg h1]
  by_cases h2 : f_X7_suits num F (nI j) 1 (F 5) (F 6) = 0
  · rw [if_pos h2, if_pos h2]; exact Or.inl ⟨rfl, rfl⟩
  rw [if_neg h2, if_neg h2]
  by_cases h3 : f_X7_suits num F (nI j) 2 (F 7) (F 8) = 0
  · rw [if_pos h3, if_pos h3]; exact Or.inl ⟨rfl, rfl⟩
  rw [if_neg h3, if_neg h3]
  by_cases h4 : tM3 F = 0
  · rw [if_pos h4, if_pos h4]
    exact Or.inr ⟨by decide, Acc_of hF hK hj h0 h1 h2 h3 (Or.inl h4), rfl⟩
  rw [if_neg h4, if_neg h4]
  by_cases h5 : f_X7_isMemory F = 0
  · rw [if_pos h5, if_pos h5]; exact Or.inl ⟨rfl, rfl⟩
  rw [if_neg h5, if_neg h5]
  exact Or.inr ⟨by decide, Acc_of hF hK hj h0 h1 h2 h3 (Or.inr h5), rfl⟩
/-- the best so far -/
def EncI (n0 : Nat) (row0 by0 : Nat → Int32) (fd cnt : Int32) (row : Nat → Int32) (best : Int32) (bytes : Nat → Int32) : Prop := (fd = 0 ∧ best = 0 ∧ cnt = nI n0 ∧ row = row0 ∧ bytes = by0) ∨ (fd = 1 ∧ ∃ m : Nat, 0 < m ∧ m ≤ 16 ∧ cnt = nI m ∧ best = nI m ∧ RelR m row bytes)
set_option maxHeartbeats 4000000 in
theorem enc_step {F kf rf : Nat → Int32} {op size cond b i s d : Int32} {num : Int64} (hF : RelF F op size cond kf rf b i s d) (hK : WfK kf rf) {n0 : Nat} {row0 by0 : Nat → Int32} (hn0 : n0 ≤ 16) (hR0 : RelR n0 row0 by0) : ∀ (q k f1 f2 : Nat) (fd cnt : Int32) (row : Nat → Int32) (oc : Int32) (orow : Nat → Int32) (best tried : Int32) (bytes trial : Nat → Int32), k + q = 115 → q < f1 → q < f2 → EncI n0 row0 by0 fd cnt row best bytes → qv 0 20 tried →
    ∃ thr r n1 row1 oc1 orow1 r' tried1 by1 tr1, f_X6_encode_L21 op size cond num kf rf b i s d f1 (nI k) fd cnt row oc orow = (thr, r, nI n1, row1, oc1, orow1) ∧ f_X7_encode_L38 num (nI n0) F f2 (nI k) best tried bytes trial = (r', thr, nI n1, tried1, by1, tr1) ∧ n1 ≤ 16 ∧ RelR n1 row1 by1 ∧ qv 0 20 tried1 ∧ ((thr = 0 ∧ r' = r) ∨ thr = 1) := by
  intro q
  induction q with
  | zero =>
    intro k f1 f2 fd cnt row oc orow best tried bytes trial hk h1 h2 hI ht
    obtain ⟨g1, rfl⟩ : ∃ g, f1 = g + 1 := ⟨f1 - 1, by omega⟩
    obtain ⟨g2, rfl⟩ : ∃ g, f2 = g + 1 := ⟨f2 - 1, by omega⟩
    have hk' : k = 115 := by omega
    subst hk'
    have hc1 : f_X4_lines ≤ nI 115 := by decide
    have hc2 : (115 : Int32) ≤ nI 115 := by decide
    rw [f_X6_encode_L21, f_X7_encode_L38, if_pos hc1, if_pos hc2]
    unfold f_X7_encode_J34 f_X7_encode_J37
    rcases hI with ⟨rfl, rfl, rfl, rfl, rfl⟩ | ⟨rfl, m, hm0, hm1, rfl, rfl, hR⟩
    · rw [if_pos rfl, if_pos (by decide), if_pos (by decide)]
      exact ⟨1, 0, n0, row, oc, orow, 0, tried, bytes, trial, rfl, rfl, hn0, hR0, ht, Or.inr rfl⟩
    · have hle : ¬ nI m ≤ 0 := nI_nle hm0 (by omega)
      rw [if_neg (by decide), if_neg hle, if_neg hle]
      exact ⟨0, nI m, m, row, oc, orow, nI m, tried, bytes, trial, rfl, rfl, hm1, hR, ht, Or.inl ⟨rfl, rfl⟩⟩
  | succ q ih =>
    intro k f1 f2 fd cnt row oc orow best tried bytes trial hk h1 h2 hI ht
    obtain ⟨g1, rfl⟩ : ∃ g, f1 = g + 1 := ⟨f1 - 1, by omega⟩
    obtain ⟨g2, rfl⟩ : ∃ g, f2 = g + 1 := ⟨f2 - 1, by omega⟩
    have hc1 : ¬ f_X4_lines ≤ nI k := nI_ge (a := k) (b := 115) (by omega) (by decide)
    have hc2 : ¬ (115 : Int32) ≤ nI k := nI_ge (a := k) (b := 115) (by omega) (by decide)
    rw [f_X6_encode_L21, f_X7_encode_L38, if_neg hc1, if_neg hc2, ← nI_succ]
    have go := fun fd cnt row oc orow best tried bytes trial hI ht => ih (k + 1) g1 g2 fd cnt row oc orow best tried bytes trial (by omega) (by omega) (by omega) hI ht
    rcases tell_two hF hK (show k < 115 by omega) num tried trial with ⟨a1, a2⟩ | ⟨a1, hA, a2⟩
    · rw [if_pos a1, a2]
      dsimp only
      rw [if_pos rfl]
      exact go _ _ _ _ _ _ _ _ _ hI ht
    · obtain ⟨m, row', tr', w1, w2, hm0, hm1, hRw⟩ := write_eq hA num orow trial
      have hok := okp_write size cond num kf rf b i s d (nI k) orow
      rw [w1] at hok
      have hby : ∀ i, i < m → row' i &&& 255 = row' i := by
        intro i hi
        refine hok i ?_
        show i < (nI m).toNatClampNeg
        rw [nI_clamp (by omega)]; exact hi
      have htr : qv 0 20 (nI m) := ⟨by rw [nI_toInt (by omega)]; omega, by rw [nI_toInt (by omega)]; omega⟩
      rw [if_neg a1, w1, a2, w2]
      dsimp only
      rw [if_neg (show ¬ (1 : Int32) = 0 by decide)]
      obtain ⟨rowc, c1, c2⟩ := copy_eq hm1 hby row
      obtain ⟨byc, d1, d2⟩ := rcopy_eq hm1 tr' bytes
      have hRc : RelR m rowc byc := fun i hi => by rw [c2 i hi, d2 i hi]; exact hRw i hi
      rcases hI with ⟨rfl, rfl, rfl, rfl, rfl⟩ | ⟨rfl, m0, hm00, hm01, rfl, rfl, hR⟩
      · rw [if_pos rfl, if_pos (by decide), c1, d1]
        exact go _ _ _ _ _ _ _ _ _ (Or.inr ⟨rfl, m, hm0, hm1, rfl, rfl, hRc⟩) htr
      · have hle : ¬ nI m0 ≤ 0 := nI_nle hm00 (by omega)
        rw [if_neg (show ¬ (1 : Int32) = 0 by decide), if_neg hle]
        by_cases hlt : m < m0
        · have e1 : ¬ nI m0 ≤ nI m := nI_ge hlt (by omega)
          have e2 : nI m < nI m0 := nI_lt hlt (by omega)
          rw [if_neg e1, if_pos e2, c1, L26_eq, d1]
          exact go _ _ _ _ _ _ _ _ _ (Or.inr ⟨rfl, m, hm0, hm1, rfl, rfl, hRc⟩) htr
        · have e1 : nI m0 ≤ nI m := nI_le (by omega) (by omega)
          have e2 : ¬ nI m < nI m0 := nI_nlt (by omega) (by omega)
          rw [if_pos e1, if_neg e2]
          exact go _ _ _ _ _ _ _ _ _ (Or.inr ⟨rfl, m0, hm00, hm01, rfl, rfl, hR⟩) htr
theorem enc_eq {F kf rf : Nat → Int32} {op size cond b i s d : Int32} {num : Int64} (hF : RelF F op size cond kf rf b i s d) (hK : WfK kf rf) {n0 : Nat} {row0 by0 : Nat → Int32} (hn0 : n0 ≤ 16) (hR0 : RelR n0 row0 by0) (oc : Int32) (orow trial : Nat → Int32) {tried : Int32} (ht : qv 0 20 tried) :
    ∃ thr r n1 row1 oc1 orow1 r' tried1 by1 tr1, f_X6_encode (nI n0) row0 op size cond num kf rf b i s d oc orow = (thr, r, nI n1, row1, oc1, orow1) ∧ f_X7_encode num (nI n0) tried F by0 trial = (r', thr, nI n1, tried1, by1, tr1) ∧ n1 ≤ 16 ∧ RelR n1 row1 by1 ∧ qv 0 20 tried1 ∧ ((thr = 0 ∧ r' = r) ∨ thr = 1) := by
  unfold f_X6_encode f_X7_encode
  have fu1 : ((f_X4_lines).toInt - ((0 : Int32)).toInt).toNat + 1 = 116 := by decide
  have fu2 : (((115 : Int32)).toInt - ((0 : Int32)).toInt).toNat + 1 = 116 := by decide
  rw [fu1, fu2]
  exact enc_step hF hK hn0 hR0 115 0 116 116 0 (nI n0) row0 oc orow 0 tried by0 trial (by omega) (by omega) (by omega) (Or.inl ⟨rfl, rfl, rfl, rfl, rfl⟩) ht
