/-! class and reference read a line alike -/
theorem reg1 {x : Nat} {y pfd size : Int32} (hpp : pfd = 0 → x = 0) (hy : qv 0 7 y) : pfd = 0 → (f_X4_needsAnyPrefix 1 size (((nI x >>> ((2 : Int32) &&& 31)) &&& 1) * 8 + y) = 0 ↔ ¬ (size = 1 ∧ ¬ (((nI x >>> ((2 : Int32) &&& 31)) &&& 1) * 8 + y) ≤ 3)) := by
  intro h
  have hx := hpp h
  subst hx
  have e : ((nI 0 >>> ((2 : Int32) &&& 31)) &&& 1) * 8 + y = y := by
    have : ((nI 0 >>> ((2 : Int32) &&& 31)) &&& 1) * 8 = 0 := by decide
    rw [this, Int32.zero_add]
  rw [e, na_eq 1 size hy]
  simp
theorem reg5 {x : Nat} {y pfd size : Int32} (hpp : pfd = 0 → x = 0) (hy : qv 0 7 y) : pfd = 0 → (f_X4_needsAnyPrefix 5 size ((nI x &&& 1) * 8 + y) = 0 ↔ ¬ (size = 1 ∧ ¬ ((nI x &&& 1) * 8 + y) ≤ 3)) := by
  intro h
  have hx := hpp h
  subst hx
  have e : (nI 0 &&& 1) * 8 + y = y := by
    have : (nI 0 &&& 1) * 8 = 0 := by decide
    rw [this, Int32.zero_add]
  rw [e, na_eq 5 size hy]
  simp
theorem regF {x : Nat} {y pfd size ρ p : Int32} (hpp : pfd = 0 → x = 0) (hy : qv 0 7 y) (hρ : (ρ = 2 ∧ ¬ rOps p.toNatClampNeg = 12 ∧ ¬ rOps p.toNatClampNeg = 13) ∨ (ρ = 3 ∧ (rOps p.toNatClampNeg = 12 ∨ rOps p.toNatClampNeg = 13))) (h14 : rOps p.toNatClampNeg = 14 → size = 8) : pfd = 0 → (f_X4_needsAnyPrefix ρ size ((nI x &&& 1) * 8 + y) = 0 ↔ ¬ (f_X7_width p 2 size = 1 ∧ ¬ y ≤ 3)) := by
  intro h
  have hx := hpp h
  subst hx
  have e : (nI 0 &&& 1) * 8 + y = y := by
    have : (nI 0 &&& 1) * 8 = 0 := by decide
    rw [this, Int32.zero_add]
  rw [e, na_eq ρ size hy]
  unfold f_X7_width f_X7_width_J5 f_X7_width_J11
  rcases hρ with ⟨rfl, h1, h2⟩ | ⟨rfl, h1 | h1⟩
  · by_cases h4 : rOps p.toNatClampNeg = 14
    · simp [h4, h14 h4]
    · simp [h1, h2, h4]
  · simp [h1]
  · simp [h1]
theorem role23 {ρ : Int32} {A B : Prop} (h : (ρ = 2 ∧ A) ∨ (ρ = 3 ∧ B)) : ρ = 2 ∨ ρ = 3 := h.elim (fun h => Or.inl h.1) (fun h => Or.inr h.1)
theorem role234 {ρ : Int32} {A B : Prop} (h : (ρ = 2 ∧ A) ∨ (ρ = 3 ∧ B)) : ρ = 2 ∨ ρ = 3 ∨ ρ = 4 := h.elim (fun h => Or.inl h.1) (fun h => Or.inr (Or.inl h.1))
abbrev hk0 : (0 : Int32) = 0 ∨ (0 : Int32) = 1 ∨ (0 : Int32) = 2 := Or.inl rfl
abbrev hk1 : (1 : Int32) = 0 ∨ (1 : Int32) = 1 ∨ (1 : Int32) = 2 := Or.inr (Or.inl rfl)
abbrev hk2 : (2 : Int32) = 0 ∨ (2 : Int32) = 1 ∨ (2 : Int32) = 2 := Or.inr (Or.inr rfl)
theorem J75_ne {C pfx pfd p code size cond form a s : Int32} {found fed : Nat → Int32} (h : ¬ rPats p.toNatClampNeg = 7) : f_X7_fits_J75 C pfx pfd found fed p code size cond form a s = f_X7_fits_J78 C pfx pfd found fed p code size cond form a s := by
  unfold f_X7_fits_J75
  rw [if_neg h]
set_option maxHeartbeats 200000 in
theorem tail_0 {c : Nat} {row fed : Nat → Int32} (hR : Row c row fed) {x : Nat} (hx : x < 16) {nx f a s : Int32} (hC : Cur c nx f a s) {p size cond code opcode pfd : Int32} (hpp : pfd = 0 → x = 0) (hp : rPats p.toNatClampNeg = 0) (hr0 : f_X4_roleOf p 0 = 0) (hr1 : f_X4_roleOf p 1 = 0) (hr2 : f_X4_roleOf p 2 = 0) (hn : numOK (f_X4_cell p 6) (rNums p.toNatClampNeg) ∨ (f_X4_cell p 6 = 7 ∧ rNums p.toNatClampNeg = 0 ∧ (0 : Int64) = 1) ∨ (f_X4_cell p 6 = 0 ∧ rNums p.toNatClampNeg = 0 ∧ (0 : Int64) = 0)) (form oform : Int32) {K0 R0 : Nat → Int32} (k0 : K0 0 = 0) (k1 : K0 1 = 0) (k2 : K0 2 = 0) (r0 : R0 0 = 0) (r1 : R0 1 = 0) (r2 : R0 2 = 0) (found : Nat → Int32) : LR c f (f_X3_readLine_J35 pfd (nI x) opcode (nI c) row p (rOps p.toNatClampNeg) size cond K0 R0 nx f oform (-1) (-1) 1 0) (f_X7_fits_J75 (nI c) (nI x) pfd found fed p code size cond form a s) := by
  obtain ⟨h1, h2, h4, hB, hX, hX4⟩ := pfx_facts hx
  rw [J75_ne (by rw [hp]; decide), ref_0 hp]
  unfold f_X3_readLine_J35
  simp only [hr0, hr1, hr2, ro0]
  rw [numOf_eq]
  obtain ⟨nn, fn, vn, vn', an, sn, n1, n2, n3, n4⟩ := num_tail hR (hC) (size := size) (p := p) rfl hn
  rw [n1, n2]
  refine fin_rel n3 n4 (fun hf => ⟨hf, ?_, ⟨Or.inl ⟨by simp [upd, Bf, k0, k1, k2, r0, r1, r2, cl0, cl1, cl2, cl3, cl4, cl5, cl6, cl7, cl8, cl9, cl10, cl11, cl12], by simp [upd, Bf, k0, k1, k2, r0, r1, r2, cl0, cl1, cl2, cl3, cl4, cl5, cl6, cl7, cl8, cl9, cl10, cl11, cl12]⟩, Or.inl ⟨by simp [upd, Bf, k0, k1, k2, r0, r1, r2, cl0, cl1, cl2, cl3, cl4, cl5, cl6, cl7, cl8, cl9, cl10, cl11, cl12], by simp [upd, Bf, k0, k1, k2, r0, r1, r2, cl0, cl1, cl2, cl3, cl4, cl5, cl6, cl7, cl8, cl9, cl10, cl11, cl12]⟩, Or.inl ⟨by simp [upd, Bf, k0, k1, k2, r0, r1, r2, cl0, cl1, cl2, cl3, cl4, cl5, cl6, cl7, cl8, cl9, cl10, cl11, cl12], by simp [upd, Bf, k0, k1, k2, r0, r1, r2, cl0, cl1, cl2, cl3, cl4, cl5, cl6, cl7, cl8, cl9, cl10, cl11, cl12]⟩⟩⟩)
  simp [RelF, upd, Bf, k0, k1, k2, r0, r1, r2, cl0, cl1, cl2, cl3, cl4, cl5, cl6, cl7, cl8, cl9, cl10, cl11, cl12]
set_option maxHeartbeats 200000 in
theorem tail_1 {c : Nat} {row fed : Nat → Int32} (hR : Row c row fed) {x : Nat} (hx : x < 16) {nx f a s : Int32} (hC : Cur c nx f a s) {p size cond code opcode pfd : Int32} (hpp : pfd = 0 → x = 0) (hp : rPats p.toNatClampNeg = 1) {ρ : Int32} (hr0 : f_X4_roleOf p 0 = ρ) (hρ : (ρ = 2 ∧ ¬ rOps p.toNatClampNeg = 12 ∧ ¬ rOps p.toNatClampNeg = 13) ∨ (ρ = 3 ∧ (rOps p.toNatClampNeg = 12 ∨ rOps p.toNatClampNeg = 13))) (h14 : rOps p.toNatClampNeg = 14 → size = 8) (hr1 : f_X4_roleOf p 1 = 1) (hr2 : f_X4_roleOf p 2 = 0) (hn : numOK (f_X4_cell p 6) (rNums p.toNatClampNeg) ∨ (f_X4_cell p 6 = 7 ∧ rNums p.toNatClampNeg = 0 ∧ (0 : Int64) = 1) ∨ (f_X4_cell p 6 = 0 ∧ rNums p.toNatClampNeg = 0 ∧ (0 : Int64) = 0)) {r : Nat} (hr : r < 256) {K0 R0 : Nat → Int32} (k0 : K0 0 = 0) (k1 : K0 1 = 0) (k2 : K0 2 = 0) (r0 : R0 0 = 0) (r1 : R0 1 = 0) (r2 : R0 2 = 0) (found : Nat → Int32) : LR c f (if f_X3_formMod (nI r) = (3 : Int32) then (f_X3_readLine_J35 pfd (nI x) opcode (nI c) row p (rOps p.toNatClampNeg) size cond K0 R0 nx f (nI r) (-1) (-1) 1 0) else (match (f_X3_readMemory nx f (nI x) (nI r) (nI c) row) with | (y21, y22, y23, y24, y25, y26) => f_X3_readLine_J35 pfd (nI x) opcode (nI c) row p (rOps p.toNatClampNeg) size cond K0 R0 y21 y22 (nI r) y23 y24 y25 y26)) (f_X7_fits_J75 (nI c) (nI x) pfd found fed p code size cond (nI r) a s) := by
  obtain ⟨h1, h2, h4, hB, hX, hX4⟩ := pfx_facts hx
  have T1 := reg_two (reg1 (size := size) hpp (and7 (nI r >>> ((3 : Int32) &&& 31))))
  have q1 := (bl_ne hX4 (and7 (nI r >>> ((3 : Int32) &&& 31)))).2.2
  have TF := reg_two (regF hpp (and7 (nI r)) hρ h14)
  have qF := (bl_ne hB (and7 (nI r))).2.2
  obtain ⟨hfm, -, h191⟩ := form_facts hr
  by_cases g3 : f_X3_formMod (nI r) = 3
  · rw [if_pos g3]
    unfold f_X3_readLine_J35
    rw [J75_ne (by rw [hp]; decide), ref_1 hp]
    have g3' := g3
    rw [hfm] at g3'
    simp only [hr0, hr1, hr2, tf3 _ _ _ _ _ _ _ _ _ g3', ro0, ro1 hk1, roF3 (role23 hρ) hk0 _ _ _ _ _ g3]
    rw [numOf_eq, h4, h1]
    obtain ⟨nn, fn, vn, vn', an, sn, n1, n2, n3, n4⟩ := num_tail hR ((reg_cur T1 (reg_cur TF hC).1).1) (size := size) (p := p) rfl hn
    rw [n1, n2]
    refine fin_rel n3 n4 (fun hf => ⟨((reg_cur TF hC).2 ((reg_cur T1 (reg_cur TF hC).1).2 hf)), ?_, ⟨Or.inr (Or.inl ⟨by simp [upd, Bf, k0, k1, k2, r0, r1, r2, cl0, cl1, cl2, cl3, cl4, cl5, cl6, cl7, cl8, cl9, cl10, cl11, cl12], by simpa [upd, Bf, k0, k1, k2, r0, r1, r2, cl0, cl1, cl2, cl3, cl4, cl5, cl6, cl7, cl8, cl9, cl10, cl11, cl12] using (qF)⟩), Or.inr (Or.inl ⟨by simp [upd, Bf, k0, k1, k2, r0, r1, r2, cl0, cl1, cl2, cl3, cl4, cl5, cl6, cl7, cl8, cl9, cl10, cl11, cl12], by simpa [upd, Bf, k0, k1, k2, r0, r1, r2, cl0, cl1, cl2, cl3, cl4, cl5, cl6, cl7, cl8, cl9, cl10, cl11, cl12] using (q1)⟩), Or.inl ⟨by simp [upd, Bf, k0, k1, k2, r0, r1, r2, cl0, cl1, cl2, cl3, cl4, cl5, cl6, cl7, cl8, cl9, cl10, cl11, cl12], by simp [upd, Bf, k0, k1, k2, r0, r1, r2, cl0, cl1, cl2, cl3, cl4, cl5, cl6, cl7, cl8, cl9, cl10, cl11, cl12]⟩⟩⟩)
    simp [RelF, upd, Bf, k0, k1, k2, r0, r1, r2, cl0, cl1, cl2, cl3, cl4, cl5, cl6, cl7, cl8, cl9, cl10, cl11, cl12]
  · rw [if_neg g3]
    have g3' := g3
    rw [hfm] at g3'
    rw [J75_ne (by rw [hp]; decide), ref_1 hp]
    obtain ⟨nx1, f1, b, ix, sc, d, a1, s1, b', ix', sc', d', e1, e2, e3, e4⟩ := mem_rel hR hr hx g3' hC pfd (f_X7_width p 2 size) (Bf found (rOps p.toNatClampNeg) size cond) 0
    rw [e1, e2]
    unfold f_X3_readLine_J35
    simp only [hr0, hr1, hr2, ro0, ro1 hk1, roFm (role234 hρ) hk0 _ _ _ _ _ g3]
    rw [numOf_eq, h4]
    obtain ⟨nn, fn, vn, vn', an, sn, n1, n2, n3, n4⟩ := num_tail hR ((reg_cur T1 e3).1) (size := size) (p := p) rfl hn
    rw [n1, n2]
    refine fin_rel n3 n4 (fun hf => ?_)
    obtain ⟨hf0, rfl, rfl, rfl, rfl⟩ := e4 ((reg_cur T1 e3).2 hf)
    refine ⟨hf0, ?_, ⟨Or.inr (Or.inr (Or.inl ⟨by simp [upd, Bf, k0, k1, k2, r0, r1, r2, cl0, cl1, cl2, cl3, cl4, cl5, cl6, cl7, cl8, cl9, cl10, cl11, cl12], by simp [upd, Bf, k0, k1, k2, r0, r1, r2, cl0, cl1, cl2, cl3, cl4, cl5, cl6, cl7, cl8, cl9, cl10, cl11, cl12]⟩)), Or.inr (Or.inl ⟨by simp [upd, Bf, k0, k1, k2, r0, r1, r2, cl0, cl1, cl2, cl3, cl4, cl5, cl6, cl7, cl8, cl9, cl10, cl11, cl12], by simpa [upd, Bf, k0, k1, k2, r0, r1, r2, cl0, cl1, cl2, cl3, cl4, cl5, cl6, cl7, cl8, cl9, cl10, cl11, cl12] using (q1)⟩), Or.inl ⟨by simp [upd, Bf, k0, k1, k2, r0, r1, r2, cl0, cl1, cl2, cl3, cl4, cl5, cl6, cl7, cl8, cl9, cl10, cl11, cl12], by simp [upd, Bf, k0, k1, k2, r0, r1, r2, cl0, cl1, cl2, cl3, cl4, cl5, cl6, cl7, cl8, cl9, cl10, cl11, cl12]⟩⟩⟩
    simp [RelF, memU, upd, Bf, k0, k1, k2, r0, r1, r2, cl0, cl1, cl2, cl3, cl4, cl5, cl6, cl7, cl8, cl9, cl10, cl11, cl12]
set_option maxHeartbeats 200000 in
theorem tail_2 {c : Nat} {row fed : Nat → Int32} (hR : Row c row fed) {x : Nat} (hx : x < 16) {nx f a s : Int32} (hC : Cur c nx f a s) {p size cond code opcode pfd : Int32} (hpp : pfd = 0 → x = 0) (hp : rPats p.toNatClampNeg = 2) (hr0 : f_X4_roleOf p 0 = 1) {ρ : Int32} (hr1 : f_X4_roleOf p 1 = ρ) (hρ : (ρ = 2 ∧ ¬ rOps p.toNatClampNeg = 12 ∧ ¬ rOps p.toNatClampNeg = 13) ∨ (ρ = 3 ∧ (rOps p.toNatClampNeg = 12 ∨ rOps p.toNatClampNeg = 13))) (h14 : rOps p.toNatClampNeg = 14 → size = 8) (hr2 : f_X4_roleOf p 2 = 0) (hn : numOK (f_X4_cell p 6) (rNums p.toNatClampNeg) ∨ (f_X4_cell p 6 = 7 ∧ rNums p.toNatClampNeg = 0 ∧ (0 : Int64) = 1) ∨ (f_X4_cell p 6 = 0 ∧ rNums p.toNatClampNeg = 0 ∧ (0 : Int64) = 0)) {r : Nat} (hr : r < 256) {K0 R0 : Nat → Int32} (k0 : K0 0 = 0) (k1 : K0 1 = 0) (k2 : K0 2 = 0) (r0 : R0 0 = 0) (r1 : R0 1 = 0) (r2 : R0 2 = 0) (found : Nat → Int32) : LR c f (if f_X3_formMod (nI r) = (3 : Int32) then (f_X3_readLine_J35 pfd (nI x) opcode (nI c) row p (rOps p.toNatClampNeg) size cond K0 R0 nx f (nI r) (-1) (-1) 1 0) else (match (f_X3_readMemory nx f (nI x) (nI r) (nI c) row) with | (y21, y22, y23, y24, y25, y26) => f_X3_readLine_J35 pfd (nI x) opcode (nI c) row p (rOps p.toNatClampNeg) size cond K0 R0 y21 y22 (nI r) y23 y24 y25 y26)) (f_X7_fits_J75 (nI c) (nI x) pfd found fed p code size cond (nI r) a s) := by
  obtain ⟨h1, h2, h4, hB, hX, hX4⟩ := pfx_facts hx
  have T1 := reg_two (reg1 (size := size) hpp (and7 (nI r >>> ((3 : Int32) &&& 31))))
  have q1 := (bl_ne hX4 (and7 (nI r >>> ((3 : Int32) &&& 31)))).2.2
  have TF := reg_two (regF hpp (and7 (nI r)) hρ h14)
  have qF := (bl_ne hB (and7 (nI r))).2.2
  obtain ⟨hfm, -, h191⟩ := form_facts hr
  by_cases g3 : f_X3_formMod (nI r) = 3
  · rw [if_pos g3]
    unfold f_X3_readLine_J35
    rw [J75_ne (by rw [hp]; decide), ref_2 hp]
    have g3' := g3
    rw [hfm] at g3'
    simp only [hr0, hr1, hr2, tf3 _ _ _ _ _ _ _ _ _ g3', ro0, ro1 hk0, roF3 (role23 hρ) hk1 _ _ _ _ _ g3]
    rw [numOf_eq, h4, h1]
    obtain ⟨nn, fn, vn, vn', an, sn, n1, n2, n3, n4⟩ := num_tail hR ((reg_cur TF (reg_cur T1 hC).1).1) (size := size) (p := p) rfl hn
    rw [n1, n2]
    refine fin_rel n3 n4 (fun hf => ⟨((reg_cur T1 hC).2 ((reg_cur TF (reg_cur T1 hC).1).2 hf)), ?_, ⟨Or.inr (Or.inl ⟨by simp [upd, Bf, k0, k1, k2, r0, r1, r2, cl0, cl1, cl2, cl3, cl4, cl5, cl6, cl7, cl8, cl9, cl10, cl11, cl12], by simpa [upd, Bf, k0, k1, k2, r0, r1, r2, cl0, cl1, cl2, cl3, cl4, cl5, cl6, cl7, cl8, cl9, cl10, cl11, cl12] using (q1)⟩), Or.inr (Or.inl ⟨by simp [upd, Bf, k0, k1, k2, r0, r1, r2, cl0, cl1, cl2, cl3, cl4, cl5, cl6, cl7, cl8, cl9, cl10, cl11, cl12], by simpa [upd, Bf, k0, k1, k2, r0, r1, r2, cl0, cl1, cl2, cl3, cl4, cl5, cl6, cl7, cl8, cl9, cl10, cl11, cl12] using (qF)⟩), Or.inl ⟨by simp [upd, Bf, k0, k1, k2, r0, r1, r2, cl0, cl1, cl2, cl3, cl4, cl5, cl6, cl7, cl8, cl9, cl10, cl11, cl12], by simp [upd, Bf, k0, k1, k2, r0, r1, r2, cl0, cl1, cl2, cl3, cl4, cl5, cl6, cl7, cl8, cl9, cl10, cl11, cl12]⟩⟩⟩)
    simp [RelF, upd, Bf, k0, k1, k2, r0, r1, r2, cl0, cl1, cl2, cl3, cl4, cl5, cl6, cl7, cl8, cl9, cl10, cl11, cl12]
  · rw [if_neg g3]
    have g3' := g3
    rw [hfm] at g3'
    rw [J75_ne (by rw [hp]; decide), ref_2 hp]
    have M := mem_rel2 hR hr hx g3' hC T1 (f_X7_width p 2 size) (upd (upd (Bf found (rOps p.toNatClampNeg) size cond) ((3 : Int32)).toNatClampNeg 1) ((4 : Int32)).toNatClampNeg ((((nI x >>> ((2 : Int32) &&& 31)) &&& 1) * 8) + ((nI r >>> ((3 : Int32) &&& 31)) &&& 7))) 1
    obtain ⟨nx1, f1, b, ix, sc, d, a1, s1, b', ix', sc', d', e1, e2, e3, e4⟩ := M
    rw [e1, e2]
    unfold f_X3_readLine_J35
    simp only [hr0, hr1, hr2, ro0, ro1 hk0, roFm (role234 hρ) hk1 _ _ _ _ _ g3]
    rw [numOf_eq, h4]
    obtain ⟨nn, fn, vn, vn', an, sn, n1, n2, n3, n4⟩ := num_tail hR (e3) (size := size) (p := p) rfl hn
    rw [n1, n2]
    refine fin_rel n3 n4 (fun hf => ?_)
    obtain ⟨hf0, rfl, rfl, rfl, rfl⟩ := e4 hf
    refine ⟨hf0, ?_, ⟨Or.inr (Or.inl ⟨by simp [upd, Bf, k0, k1, k2, r0, r1, r2, cl0, cl1, cl2, cl3, cl4, cl5, cl6, cl7, cl8, cl9, cl10, cl11, cl12], by simpa [upd, Bf, k0, k1, k2, r0, r1, r2, cl0, cl1, cl2, cl3, cl4, cl5, cl6, cl7, cl8, cl9, cl10, cl11, cl12] using (q1)⟩), Or.inr (Or.inr (Or.inl ⟨by simp [upd, Bf, k0, k1, k2, r0, r1, r2, cl0, cl1, cl2, cl3, cl4, cl5, cl6, cl7, cl8, cl9, cl10, cl11, cl12], by simp [upd, Bf, k0, k1, k2, r0, r1, r2, cl0, cl1, cl2, cl3, cl4, cl5, cl6, cl7, cl8, cl9, cl10, cl11, cl12]⟩)), Or.inl ⟨by simp [upd, Bf, k0, k1, k2, r0, r1, r2, cl0, cl1, cl2, cl3, cl4, cl5, cl6, cl7, cl8, cl9, cl10, cl11, cl12], by simp [upd, Bf, k0, k1, k2, r0, r1, r2, cl0, cl1, cl2, cl3, cl4, cl5, cl6, cl7, cl8, cl9, cl10, cl11, cl12]⟩⟩⟩
    simp [RelF, memU, upd, Bf, k0, k1, k2, r0, r1, r2, cl0, cl1, cl2, cl3, cl4, cl5, cl6, cl7, cl8, cl9, cl10, cl11, cl12]
set_option maxHeartbeats 200000 in
theorem tail_3 {c : Nat} {row fed : Nat → Int32} (hR : Row c row fed) {x : Nat} (hx : x < 16) {nx f a s : Int32} (hC : Cur c nx f a s) {p size cond code opcode pfd : Int32} (hpp : pfd = 0 → x = 0) (hp : rPats p.toNatClampNeg = 3) (hr0 : f_X4_roleOf p 0 = 6) (hr1 : f_X4_roleOf p 1 = 8) (hr2 : f_X4_roleOf p 2 = 0) (hn : numOK (f_X4_cell p 6) (rNums p.toNatClampNeg) ∨ (f_X4_cell p 6 = 7 ∧ rNums p.toNatClampNeg = 0 ∧ (0 : Int64) = 1) ∨ (f_X4_cell p 6 = 0 ∧ rNums p.toNatClampNeg = 0 ∧ (0 : Int64) = 0)) (form oform : Int32) {K0 R0 : Nat → Int32} (k0 : K0 0 = 0) (k1 : K0 1 = 0) (k2 : K0 2 = 0) (r0 : R0 0 = 0) (r1 : R0 1 = 0) (r2 : R0 2 = 0) (found : Nat → Int32) : LR c f (f_X3_readLine_J35 pfd (nI x) opcode (nI c) row p (rOps p.toNatClampNeg) size cond K0 R0 nx f oform (-1) (-1) 1 0) (f_X7_fits_J75 (nI c) (nI x) pfd found fed p code size cond form a s) := by
  obtain ⟨h1, h2, h4, hB, hX, hX4⟩ := pfx_facts hx
  rw [J75_ne (by rw [hp]; decide), ref_3 hp]
  unfold f_X3_readLine_J35
  simp only [hr0, hr1, hr2, ro0, ro6 hk0, ro8 hk1]
  rw [numOf_eq]
  obtain ⟨nn, fn, vn, vn', an, sn, n1, n2, n3, n4⟩ := num_tail hR (hC) (size := size) (p := p) rfl hn
  rw [n1, n2]
  refine fin_rel n3 n4 (fun hf => ⟨hf, ?_, ⟨Or.inr (Or.inl ⟨by simp [upd, Bf, k0, k1, k2, r0, r1, r2, cl0, cl1, cl2, cl3, cl4, cl5, cl6, cl7, cl8, cl9, cl10, cl11, cl12], by simpa [upd, Bf, k0, k1, k2, r0, r1, r2, cl0, cl1, cl2, cl3, cl4, cl5, cl6, cl7, cl8, cl9, cl10, cl11, cl12] using ((by decide : qv 0 15 0))⟩), Or.inr (Or.inr (Or.inr ⟨by simp [upd, Bf, k0, k1, k2, r0, r1, r2, cl0, cl1, cl2, cl3, cl4, cl5, cl6, cl7, cl8, cl9, cl10, cl11, cl12], by simp [upd, Bf, k0, k1, k2, r0, r1, r2, cl0, cl1, cl2, cl3, cl4, cl5, cl6, cl7, cl8, cl9, cl10, cl11, cl12]⟩)), Or.inl ⟨by simp [upd, Bf, k0, k1, k2, r0, r1, r2, cl0, cl1, cl2, cl3, cl4, cl5, cl6, cl7, cl8, cl9, cl10, cl11, cl12], by simp [upd, Bf, k0, k1, k2, r0, r1, r2, cl0, cl1, cl2, cl3, cl4, cl5, cl6, cl7, cl8, cl9, cl10, cl11, cl12]⟩⟩⟩)
  simp [RelF, upd, Bf, k0, k1, k2, r0, r1, r2, cl0, cl1, cl2, cl3, cl4, cl5, cl6, cl7, cl8, cl9, cl10, cl11, cl12]
set_option maxHeartbeats 200000 in
theorem tail_4 {c : Nat} {row fed : Nat → Int32} (hR : Row c row fed) {x : Nat} (hx : x < 16) {nx f a s : Int32} (hC : Cur c nx f a s) {p size cond code opcode pfd : Int32} (hpp : pfd = 0 → x = 0) (hp : rPats p.toNatClampNeg = 4) {ρ : Int32} (hr0 : f_X4_roleOf p 0 = ρ) (hρ : (ρ = 2 ∧ ¬ rOps p.toNatClampNeg = 12 ∧ ¬ rOps p.toNatClampNeg = 13) ∨ (ρ = 3 ∧ (rOps p.toNatClampNeg = 12 ∨ rOps p.toNatClampNeg = 13))) (h14 : rOps p.toNatClampNeg = 14 → size = 8) (hr1 : f_X4_roleOf p 1 = 8) (hr2 : f_X4_roleOf p 2 = 0) (hn : numOK (f_X4_cell p 6) (rNums p.toNatClampNeg) ∨ (f_X4_cell p 6 = 7 ∧ rNums p.toNatClampNeg = 0 ∧ (0 : Int64) = 1) ∨ (f_X4_cell p 6 = 0 ∧ rNums p.toNatClampNeg = 0 ∧ (0 : Int64) = 0)) {r : Nat} (hr : r < 256) {K0 R0 : Nat → Int32} (k0 : K0 0 = 0) (k1 : K0 1 = 0) (k2 : K0 2 = 0) (r0 : R0 0 = 0) (r1 : R0 1 = 0) (r2 : R0 2 = 0) (found : Nat → Int32) : LR c f (if f_X3_formMod (nI r) = (3 : Int32) then (f_X3_readLine_J35 pfd (nI x) opcode (nI c) row p (rOps p.toNatClampNeg) size cond K0 R0 nx f (nI r) (-1) (-1) 1 0) else (match (f_X3_readMemory nx f (nI x) (nI r) (nI c) row) with | (y21, y22, y23, y24, y25, y26) => f_X3_readLine_J35 pfd (nI x) opcode (nI c) row p (rOps p.toNatClampNeg) size cond K0 R0 y21 y22 (nI r) y23 y24 y25 y26)) (f_X7_fits_J75 (nI c) (nI x) pfd found fed p code size cond (nI r) a s) := by
  obtain ⟨h1, h2, h4, hB, hX, hX4⟩ := pfx_facts hx
  have TF := reg_two (regF hpp (and7 (nI r)) hρ h14)
  have qF := (bl_ne hB (and7 (nI r))).2.2
  obtain ⟨hfm, -, h191⟩ := form_facts hr
  by_cases g3 : f_X3_formMod (nI r) = 3
  · rw [if_pos g3]
    unfold f_X3_readLine_J35
    rw [J75_ne (by rw [hp]; decide), ref_4 hp]
    have g3' := g3
    rw [hfm] at g3'
    simp only [hr0, hr1, hr2, tf3 _ _ _ _ _ _ _ _ _ g3', ro0, ro8 hk1, roF3 (role23 hρ) hk0 _ _ _ _ _ g3]
    rw [numOf_eq, h1]
    obtain ⟨nn, fn, vn, vn', an, sn, n1, n2, n3, n4⟩ := num_tail hR ((reg_cur TF hC).1) (size := size) (p := p) rfl hn
    rw [n1, n2]
    refine fin_rel n3 n4 (fun hf => ⟨((reg_cur TF hC).2 hf), ?_, ⟨Or.inr (Or.inl ⟨by simp [upd, Bf, k0, k1, k2, r0, r1, r2, cl0, cl1, cl2, cl3, cl4, cl5, cl6, cl7, cl8, cl9, cl10, cl11, cl12], by simpa [upd, Bf, k0, k1, k2, r0, r1, r2, cl0, cl1, cl2, cl3, cl4, cl5, cl6, cl7, cl8, cl9, cl10, cl11, cl12] using (qF)⟩), Or.inr (Or.inr (Or.inr ⟨by simp [upd, Bf, k0, k1, k2, r0, r1, r2, cl0, cl1, cl2, cl3, cl4, cl5, cl6, cl7, cl8, cl9, cl10, cl11, cl12], by simp [upd, Bf, k0, k1, k2, r0, r1, r2, cl0, cl1, cl2, cl3, cl4, cl5, cl6, cl7, cl8, cl9, cl10, cl11, cl12]⟩)), Or.inl ⟨by simp [upd, Bf, k0, k1, k2, r0, r1, r2, cl0, cl1, cl2, cl3, cl4, cl5, cl6, cl7, cl8, cl9, cl10, cl11, cl12], by simp [upd, Bf, k0, k1, k2, r0, r1, r2, cl0, cl1, cl2, cl3, cl4, cl5, cl6, cl7, cl8, cl9, cl10, cl11, cl12]⟩⟩⟩)
    simp [RelF, upd, Bf, k0, k1, k2, r0, r1, r2, cl0, cl1, cl2, cl3, cl4, cl5, cl6, cl7, cl8, cl9, cl10, cl11, cl12]
  · rw [if_neg g3]
    have g3' := g3
    rw [hfm] at g3'
    rw [J75_ne (by rw [hp]; decide), ref_4 hp]
    obtain ⟨nx1, f1, b, ix, sc, d, a1, s1, b', ix', sc', d', e1, e2, e3, e4⟩ := mem_rel hR hr hx g3' hC pfd (f_X7_width p 2 size) (Bf found (rOps p.toNatClampNeg) size cond) 0
    rw [e1, e2]
    unfold f_X3_readLine_J35
    simp only [hr0, hr1, hr2, ro0, ro8 hk1, roFm (role234 hρ) hk0 _ _ _ _ _ g3]
    rw [numOf_eq]
    obtain ⟨nn, fn, vn, vn', an, sn, n1, n2, n3, n4⟩ := num_tail hR (e3) (size := size) (p := p) rfl hn
    rw [n1, n2]
    refine fin_rel n3 n4 (fun hf => ?_)
    obtain ⟨hf0, rfl, rfl, rfl, rfl⟩ := e4 hf
    refine ⟨hf0, ?_, ⟨Or.inr (Or.inr (Or.inl ⟨by simp [upd, Bf, k0, k1, k2, r0, r1, r2, cl0, cl1, cl2, cl3, cl4, cl5, cl6, cl7, cl8, cl9, cl10, cl11, cl12], by simp [upd, Bf, k0, k1, k2, r0, r1, r2, cl0, cl1, cl2, cl3, cl4, cl5, cl6, cl7, cl8, cl9, cl10, cl11, cl12]⟩)), Or.inr (Or.inr (Or.inr ⟨by simp [upd, Bf, k0, k1, k2, r0, r1, r2, cl0, cl1, cl2, cl3, cl4, cl5, cl6, cl7, cl8, cl9, cl10, cl11, cl12], by simp [upd, Bf, k0, k1, k2, r0, r1, r2, cl0, cl1, cl2, cl3, cl4, cl5, cl6, cl7, cl8, cl9, cl10, cl11, cl12]⟩)), Or.inl ⟨by simp [upd, Bf, k0, k1, k2, r0, r1, r2, cl0, cl1, cl2, cl3, cl4, cl5, cl6, cl7, cl8, cl9, cl10, cl11, cl12], by simp [upd, Bf, k0, k1, k2, r0, r1, r2, cl0, cl1, cl2, cl3, cl4, cl5, cl6, cl7, cl8, cl9, cl10, cl11, cl12]⟩⟩⟩
    simp [RelF, memU, upd, Bf, k0, k1, k2, r0, r1, r2, cl0, cl1, cl2, cl3, cl4, cl5, cl6, cl7, cl8, cl9, cl10, cl11, cl12]
set_option maxHeartbeats 200000 in
theorem tail_5 {c : Nat} {row fed : Nat → Int32} (hR : Row c row fed) {x : Nat} (hx : x < 16) {nx f a s : Int32} (hC : Cur c nx f a s) {p size cond code opcode pfd : Int32} (hpp : pfd = 0 → x = 0) (hp : rPats p.toNatClampNeg = 5) (hr0 : f_X4_roleOf p 0 = 5) (hr1 : f_X4_roleOf p 1 = 0) (hr2 : f_X4_roleOf p 2 = 0) (hoc : opcode &&& 7 = code - rCodes p.toNatClampNeg) (hq : qv 0 7 (code - rCodes p.toNatClampNeg)) (hn : numOK (f_X4_cell p 6) (rNums p.toNatClampNeg) ∨ (f_X4_cell p 6 = 7 ∧ rNums p.toNatClampNeg = 0 ∧ (0 : Int64) = 1) ∨ (f_X4_cell p 6 = 0 ∧ rNums p.toNatClampNeg = 0 ∧ (0 : Int64) = 0)) (form oform : Int32) {K0 R0 : Nat → Int32} (k0 : K0 0 = 0) (k1 : K0 1 = 0) (k2 : K0 2 = 0) (r0 : R0 0 = 0) (r1 : R0 1 = 0) (r2 : R0 2 = 0) (found : Nat → Int32) : LR c f (f_X3_readLine_J35 pfd (nI x) opcode (nI c) row p (rOps p.toNatClampNeg) size cond K0 R0 nx f oform (-1) (-1) 1 0) (f_X7_fits_J75 (nI c) (nI x) pfd found fed p code size cond form a s) := by
  obtain ⟨h1, h2, h4, hB, hX, hX4⟩ := pfx_facts hx
  have T5 := reg_two (reg5 (size := size) hpp hq)
  have q5 := (bl_ne hB hq).2.2
  rw [J75_ne (by rw [hp]; decide), ref_5 hp]
  unfold f_X3_readLine_J35
  simp only [hr0, hr1, hr2, ro0, ro5 hk0]
  rw [numOf_eq, h1, hoc]
  obtain ⟨nn, fn, vn, vn', an, sn, n1, n2, n3, n4⟩ := num_tail hR ((reg_cur T5 hC).1) (size := size) (p := p) rfl hn
  rw [n1, n2]
  refine fin_rel n3 n4 (fun hf => ⟨(reg_cur T5 hC).2 hf, ?_, ⟨Or.inr (Or.inl ⟨by simp [upd, Bf, k0, k1, k2, r0, r1, r2, cl0, cl1, cl2, cl3, cl4, cl5, cl6, cl7, cl8, cl9, cl10, cl11, cl12], by simpa [upd, Bf, k0, k1, k2, r0, r1, r2, cl0, cl1, cl2, cl3, cl4, cl5, cl6, cl7, cl8, cl9, cl10, cl11, cl12] using (q5)⟩), Or.inl ⟨by simp [upd, Bf, k0, k1, k2, r0, r1, r2, cl0, cl1, cl2, cl3, cl4, cl5, cl6, cl7, cl8, cl9, cl10, cl11, cl12], by simp [upd, Bf, k0, k1, k2, r0, r1, r2, cl0, cl1, cl2, cl3, cl4, cl5, cl6, cl7, cl8, cl9, cl10, cl11, cl12]⟩, Or.inl ⟨by simp [upd, Bf, k0, k1, k2, r0, r1, r2, cl0, cl1, cl2, cl3, cl4, cl5, cl6, cl7, cl8, cl9, cl10, cl11, cl12], by simp [upd, Bf, k0, k1, k2, r0, r1, r2, cl0, cl1, cl2, cl3, cl4, cl5, cl6, cl7, cl8, cl9, cl10, cl11, cl12]⟩⟩⟩)
  simp [RelF, upd, Bf, k0, k1, k2, r0, r1, r2, cl0, cl1, cl2, cl3, cl4, cl5, cl6, cl7, cl8, cl9, cl10, cl11, cl12]
set_option maxHeartbeats 200000 in
theorem tail_6 {c : Nat} {row fed : Nat → Int32} (hR : Row c row fed) {x : Nat} (hx : x < 16) {nx f a s : Int32} (hC : Cur c nx f a s) {p size cond code opcode pfd : Int32} (hpp : pfd = 0 → x = 0) (hp : rPats p.toNatClampNeg = 6) (hr0 : f_X4_roleOf p 0 = 5) (hr1 : f_X4_roleOf p 1 = 8) (hr2 : f_X4_roleOf p 2 = 0) (hoc : opcode &&& 7 = code - rCodes p.toNatClampNeg) (hq : qv 0 7 (code - rCodes p.toNatClampNeg)) (hn : numOK (f_X4_cell p 6) (rNums p.toNatClampNeg) ∨ (f_X4_cell p 6 = 7 ∧ rNums p.toNatClampNeg = 0 ∧ (0 : Int64) = 1) ∨ (f_X4_cell p 6 = 0 ∧ rNums p.toNatClampNeg = 0 ∧ (0 : Int64) = 0)) (form oform : Int32) {K0 R0 : Nat → Int32} (k0 : K0 0 = 0) (k1 : K0 1 = 0) (k2 : K0 2 = 0) (r0 : R0 0 = 0) (r1 : R0 1 = 0) (r2 : R0 2 = 0) (found : Nat → Int32) : LR c f (f_X3_readLine_J35 pfd (nI x) opcode (nI c) row p (rOps p.toNatClampNeg) size cond K0 R0 nx f oform (-1) (-1) 1 0) (f_X7_fits_J75 (nI c) (nI x) pfd found fed p code size cond form a s) := by
  obtain ⟨h1, h2, h4, hB, hX, hX4⟩ := pfx_facts hx
  have T5 := reg_two (reg5 (size := size) hpp hq)
  have q5 := (bl_ne hB hq).2.2
  rw [J75_ne (by rw [hp]; decide), ref_6 hp]
  unfold f_X3_readLine_J35
  simp only [hr0, hr1, hr2, ro0, ro5 hk0, ro8 hk1]
  rw [numOf_eq, h1, hoc]
  obtain ⟨nn, fn, vn, vn', an, sn, n1, n2, n3, n4⟩ := num_tail hR ((reg_cur T5 hC).1) (size := size) (p := p) rfl hn
  rw [n1, n2]
  refine fin_rel n3 n4 (fun hf => ⟨(reg_cur T5 hC).2 hf, ?_, ⟨Or.inr (Or.inl ⟨by simp [upd, Bf, k0, k1, k2, r0, r1, r2, cl0, cl1, cl2, cl3, cl4, cl5, cl6, cl7, cl8, cl9, cl10, cl11, cl12], by simpa [upd, Bf, k0, k1, k2, r0, r1, r2, cl0, cl1, cl2, cl3, cl4, cl5, cl6, cl7, cl8, cl9, cl10, cl11, cl12] using (q5)⟩), Or.inr (Or.inr (Or.inr ⟨by simp [upd, Bf, k0, k1, k2, r0, r1, r2, cl0, cl1, cl2, cl3, cl4, cl5, cl6, cl7, cl8, cl9, cl10, cl11, cl12], by simp [upd, Bf, k0, k1, k2, r0, r1, r2, cl0, cl1, cl2, cl3, cl4, cl5, cl6, cl7, cl8, cl9, cl10, cl11, cl12]⟩)), Or.inl ⟨by simp [upd, Bf, k0, k1, k2, r0, r1, r2, cl0, cl1, cl2, cl3, cl4, cl5, cl6, cl7, cl8, cl9, cl10, cl11, cl12], by simp [upd, Bf, k0, k1, k2, r0, r1, r2, cl0, cl1, cl2, cl3, cl4, cl5, cl6, cl7, cl8, cl9, cl10, cl11, cl12]⟩⟩⟩)
  simp [RelF, upd, Bf, k0, k1, k2, r0, r1, r2, cl0, cl1, cl2, cl3, cl4, cl5, cl6, cl7, cl8, cl9, cl10, cl11, cl12]
set_option maxHeartbeats 200000 in
theorem tail_7 {c : Nat} {row fed : Nat → Int32} (hR : Row c row fed) {x : Nat} (hx : x < 16) {nx f a s : Int32} (hC : Cur c nx f a s) {p size cond code opcode pfd : Int32} (hpp : pfd = 0 → x = 0) (hp : rPats p.toNatClampNeg = 7) (hr0 : f_X4_roleOf p 0 = 1) (hr1 : f_X4_roleOf p 1 = 4) (hr2 : f_X4_roleOf p 2 = 0) (hn : numOK (f_X4_cell p 6) (rNums p.toNatClampNeg) ∨ (f_X4_cell p 6 = 7 ∧ rNums p.toNatClampNeg = 0 ∧ (0 : Int64) = 1) ∨ (f_X4_cell p 6 = 0 ∧ rNums p.toNatClampNeg = 0 ∧ (0 : Int64) = 0)) {r : Nat} (hr : r < 256) {K0 R0 : Nat → Int32} (k0 : K0 0 = 0) (k1 : K0 1 = 0) (k2 : K0 2 = 0) (r0 : R0 0 = 0) (r1 : R0 1 = 0) (r2 : R0 2 = 0) (found : Nat → Int32) : LR c f (if f_X3_formMod (nI r) = (3 : Int32) then (f_X3_readLine_J35 pfd (nI x) opcode (nI c) row p (rOps p.toNatClampNeg) size cond K0 R0 nx f (nI r) (-1) (-1) 1 0) else (match (f_X3_readMemory nx f (nI x) (nI r) (nI c) row) with | (y21, y22, y23, y24, y25, y26) => f_X3_readLine_J35 pfd (nI x) opcode (nI c) row p (rOps p.toNatClampNeg) size cond K0 R0 y21 y22 (nI r) y23 y24 y25 y26)) (f_X7_fits_J75 (nI c) (nI x) pfd found fed p code size cond (nI r) a s) := by
  obtain ⟨h1, h2, h4, hB, hX, hX4⟩ := pfx_facts hx
  have T1 := reg_two (reg1 (size := size) hpp (and7 (nI r >>> ((3 : Int32) &&& 31))))
  have q1 := (bl_ne hX4 (and7 (nI r >>> ((3 : Int32) &&& 31)))).2.2
  obtain ⟨hfm, -, h191⟩ := form_facts hr
  by_cases g3 : f_X3_formMod (nI r) = 3
  · rw [if_pos g3]
    unfold f_X3_readLine_J35
    have hno : ¬ nI r ≤ 191 := by
      rcases h191 with h | h
      · exact absurd (hfm ▸ g3) h.2
      · exact h.1
    unfold f_X7_fits_J75
    rw [if_pos hp, if_neg hno]
    simp only [hr0, hr1, hr2, ro0, ro1 hk0, roM3 _ _ _ _ _ g3]
    rw [numOf_eq]
    obtain ⟨nx1, f1, v1, v1', a1, s1, e1, e2, e3, e4⟩ := num_tail hR (nx := nx) (f := 1) (a := a) (s := 1) (Or.inl ⟨rfl, rfl⟩) (size := size) rfl hn
    rw [e1]
    refine Or.inl ⟨fun h => ?_, rfl⟩
    exact absurd (e4 h).1 (by decide)
  · rw [if_neg g3]
    have g3' := g3
    rw [hfm] at g3'
    have hle : nI r ≤ 191 := by
      rcases h191 with h | h
      · exact h.1
      · exact absurd h.2 g3'
    have hJ : f_X7_fits_J75 (nI c) (nI x) pfd found fed p code size cond (nI r) a s = f_X7_fits_J78 (nI c) (nI x) pfd found fed p code size cond (nI r) a s := by
      unfold f_X7_fits_J75
      rw [if_pos hp, if_pos hle]
    rw [hJ, ref_7 hp]
    have M := mem_rel2 hR hr hx g3' hC T1 (f_X7_width p 6 size) (upd (upd (Bf found (rOps p.toNatClampNeg) size cond) ((3 : Int32)).toNatClampNeg 1) ((4 : Int32)).toNatClampNeg ((((nI x >>> ((2 : Int32) &&& 31)) &&& 1) * 8) + ((nI r >>> ((3 : Int32) &&& 31)) &&& 7))) 1
    obtain ⟨nx1, f1, b, ix, sc, d, a1, s1, b', ix', sc', d', e1, e2, e3, e4⟩ := M
    rw [e1, e2]
    unfold f_X3_readLine_J35
    simp only [hr0, hr1, hr2, ro0, ro1 hk0, roFm (Or.inr (Or.inr rfl)) hk1 _ _ _ _ _ g3]
    rw [numOf_eq, h4]
    obtain ⟨nn, fn, vn, vn', an, sn, n1, n2, n3, n4⟩ := num_tail hR (e3) (size := size) (p := p) rfl hn
    rw [n1, n2]
    refine fin_rel n3 n4 (fun hf => ?_)
    obtain ⟨hf0, rfl, rfl, rfl, rfl⟩ := e4 hf
    refine ⟨hf0, ?_, ⟨Or.inr (Or.inl ⟨by simp [upd, Bf, k0, k1, k2, r0, r1, r2, cl0, cl1, cl2, cl3, cl4, cl5, cl6, cl7, cl8, cl9, cl10, cl11, cl12], by simpa [upd, Bf, k0, k1, k2, r0, r1, r2, cl0, cl1, cl2, cl3, cl4, cl5, cl6, cl7, cl8, cl9, cl10, cl11, cl12] using (q1)⟩), Or.inr (Or.inr (Or.inl ⟨by simp [upd, Bf, k0, k1, k2, r0, r1, r2, cl0, cl1, cl2, cl3, cl4, cl5, cl6, cl7, cl8, cl9, cl10, cl11, cl12], by simp [upd, Bf, k0, k1, k2, r0, r1, r2, cl0, cl1, cl2, cl3, cl4, cl5, cl6, cl7, cl8, cl9, cl10, cl11, cl12]⟩)), Or.inl ⟨by simp [upd, Bf, k0, k1, k2, r0, r1, r2, cl0, cl1, cl2, cl3, cl4, cl5, cl6, cl7, cl8, cl9, cl10, cl11, cl12], by simp [upd, Bf, k0, k1, k2, r0, r1, r2, cl0, cl1, cl2, cl3, cl4, cl5, cl6, cl7, cl8, cl9, cl10, cl11, cl12]⟩⟩⟩
    simp [RelF, memU, upd, Bf, k0, k1, k2, r0, r1, r2, cl0, cl1, cl2, cl3, cl4, cl5, cl6, cl7, cl8, cl9, cl10, cl11, cl12]
set_option maxHeartbeats 200000 in
theorem tail_8 {c : Nat} {row fed : Nat → Int32} (hR : Row c row fed) {x : Nat} (hx : x < 16) {nx f a s : Int32} (hC : Cur c nx f a s) {p size cond code opcode pfd : Int32} (hpp : pfd = 0 → x = 0) (hp : rPats p.toNatClampNeg = 8) {ρ : Int32} (hr0 : f_X4_roleOf p 0 = ρ) (hρ : (ρ = 2 ∧ ¬ rOps p.toNatClampNeg = 12 ∧ ¬ rOps p.toNatClampNeg = 13) ∨ (ρ = 3 ∧ (rOps p.toNatClampNeg = 12 ∨ rOps p.toNatClampNeg = 13))) (h14 : rOps p.toNatClampNeg = 14 → size = 8) (hr1 : f_X4_roleOf p 1 = 0) (hr2 : f_X4_roleOf p 2 = 0) (hn : numOK (f_X4_cell p 6) (rNums p.toNatClampNeg) ∨ (f_X4_cell p 6 = 7 ∧ rNums p.toNatClampNeg = 0 ∧ (0 : Int64) = 1) ∨ (f_X4_cell p 6 = 0 ∧ rNums p.toNatClampNeg = 0 ∧ (0 : Int64) = 0)) {r : Nat} (hr : r < 256) {K0 R0 : Nat → Int32} (k0 : K0 0 = 0) (k1 : K0 1 = 0) (k2 : K0 2 = 0) (r0 : R0 0 = 0) (r1 : R0 1 = 0) (r2 : R0 2 = 0) (found : Nat → Int32) : LR c f (if f_X3_formMod (nI r) = (3 : Int32) then (f_X3_readLine_J35 pfd (nI x) opcode (nI c) row p (rOps p.toNatClampNeg) size cond K0 R0 nx f (nI r) (-1) (-1) 1 0) else (match (f_X3_readMemory nx f (nI x) (nI r) (nI c) row) with | (y21, y22, y23, y24, y25, y26) => f_X3_readLine_J35 pfd (nI x) opcode (nI c) row p (rOps p.toNatClampNeg) size cond K0 R0 y21 y22 (nI r) y23 y24 y25 y26)) (f_X7_fits_J75 (nI c) (nI x) pfd found fed p code size cond (nI r) a s) := by
  obtain ⟨h1, h2, h4, hB, hX, hX4⟩ := pfx_facts hx
  have TF := reg_two (regF hpp (and7 (nI r)) hρ h14)
  have qF := (bl_ne hB (and7 (nI r))).2.2
  obtain ⟨hfm, -, h191⟩ := form_facts hr
  by_cases g3 : f_X3_formMod (nI r) = 3
  · rw [if_pos g3]
    unfold f_X3_readLine_J35
    rw [J75_ne (by rw [hp]; decide), ref_8 hp]
    have g3' := g3
    rw [hfm] at g3'
    simp only [hr0, hr1, hr2, tf3 _ _ _ _ _ _ _ _ _ g3', ro0, roF3 (role23 hρ) hk0 _ _ _ _ _ g3]
    rw [numOf_eq, h1]
    obtain ⟨nn, fn, vn, vn', an, sn, n1, n2, n3, n4⟩ := num_tail hR ((reg_cur TF hC).1) (size := size) (p := p) rfl hn
    rw [n1, n2]
    refine fin_rel n3 n4 (fun hf => ⟨((reg_cur TF hC).2 hf), ?_, ⟨Or.inr (Or.inl ⟨by simp [upd, Bf, k0, k1, k2, r0, r1, r2, cl0, cl1, cl2, cl3, cl4, cl5, cl6, cl7, cl8, cl9, cl10, cl11, cl12], by simpa [upd, Bf, k0, k1, k2, r0, r1, r2, cl0, cl1, cl2, cl3, cl4, cl5, cl6, cl7, cl8, cl9, cl10, cl11, cl12] using (qF)⟩), Or.inl ⟨by simp [upd, Bf, k0, k1, k2, r0, r1, r2, cl0, cl1, cl2, cl3, cl4, cl5, cl6, cl7, cl8, cl9, cl10, cl11, cl12], by simp [upd, Bf, k0, k1, k2, r0, r1, r2, cl0, cl1, cl2, cl3, cl4, cl5, cl6, cl7, cl8, cl9, cl10, cl11, cl12]⟩, Or.inl ⟨by simp [upd, Bf, k0, k1, k2, r0, r1, r2, cl0, cl1, cl2, cl3, cl4, cl5, cl6, cl7, cl8, cl9, cl10, cl11, cl12], by simp [upd, Bf, k0, k1, k2, r0, r1, r2, cl0, cl1, cl2, cl3, cl4, cl5, cl6, cl7, cl8, cl9, cl10, cl11, cl12]⟩⟩⟩)
    simp [RelF, upd, Bf, k0, k1, k2, r0, r1, r2, cl0, cl1, cl2, cl3, cl4, cl5, cl6, cl7, cl8, cl9, cl10, cl11, cl12]
  · rw [if_neg g3]
    have g3' := g3
    rw [hfm] at g3'
    rw [J75_ne (by rw [hp]; decide), ref_8 hp]
    obtain ⟨nx1, f1, b, ix, sc, d, a1, s1, b', ix', sc', d', e1, e2, e3, e4⟩ := mem_rel hR hr hx g3' hC pfd (f_X7_width p 2 size) (Bf found (rOps p.toNatClampNeg) size cond) 0
    rw [e1, e2]
    unfold f_X3_readLine_J35
    simp only [hr0, hr1, hr2, ro0, roFm (role234 hρ) hk0 _ _ _ _ _ g3]
    rw [numOf_eq]
    obtain ⟨nn, fn, vn, vn', an, sn, n1, n2, n3, n4⟩ := num_tail hR (e3) (size := size) (p := p) rfl hn
    rw [n1, n2]
    refine fin_rel n3 n4 (fun hf => ?_)
    obtain ⟨hf0, rfl, rfl, rfl, rfl⟩ := e4 hf
    refine ⟨hf0, ?_, ⟨Or.inr (Or.inr (Or.inl ⟨by simp [upd, Bf, k0, k1, k2, r0, r1, r2, cl0, cl1, cl2, cl3, cl4, cl5, cl6, cl7, cl8, cl9, cl10, cl11, cl12], by simp [upd, Bf, k0, k1, k2, r0, r1, r2, cl0, cl1, cl2, cl3, cl4, cl5, cl6, cl7, cl8, cl9, cl10, cl11, cl12]⟩)), Or.inl ⟨by simp [upd, Bf, k0, k1, k2, r0, r1, r2, cl0, cl1, cl2, cl3, cl4, cl5, cl6, cl7, cl8, cl9, cl10, cl11, cl12], by simp [upd, Bf, k0, k1, k2, r0, r1, r2, cl0, cl1, cl2, cl3, cl4, cl5, cl6, cl7, cl8, cl9, cl10, cl11, cl12]⟩, Or.inl ⟨by simp [upd, Bf, k0, k1, k2, r0, r1, r2, cl0, cl1, cl2, cl3, cl4, cl5, cl6, cl7, cl8, cl9, cl10, cl11, cl12], by simp [upd, Bf, k0, k1, k2, r0, r1, r2, cl0, cl1, cl2, cl3, cl4, cl5, cl6, cl7, cl8, cl9, cl10, cl11, cl12]⟩⟩⟩
    simp [RelF, memU, upd, Bf, k0, k1, k2, r0, r1, r2, cl0, cl1, cl2, cl3, cl4, cl5, cl6, cl7, cl8, cl9, cl10, cl11, cl12]
set_option maxHeartbeats 200000 in
theorem tail_9 {c : Nat} {row fed : Nat → Int32} (hR : Row c row fed) {x : Nat} (hx : x < 16) {nx f a s : Int32} (hC : Cur c nx f a s) {p size cond code opcode pfd : Int32} (hpp : pfd = 0 → x = 0) (hp : rPats p.toNatClampNeg = 9) (hr0 : f_X4_roleOf p 0 = 1) {ρ : Int32} (hr1 : f_X4_roleOf p 1 = ρ) (hρ : (ρ = 2 ∧ ¬ rOps p.toNatClampNeg = 12 ∧ ¬ rOps p.toNatClampNeg = 13) ∨ (ρ = 3 ∧ (rOps p.toNatClampNeg = 12 ∨ rOps p.toNatClampNeg = 13))) (h14 : rOps p.toNatClampNeg = 14 → size = 8) (hr2 : f_X4_roleOf p 2 = 8) (hn : numOK (f_X4_cell p 6) (rNums p.toNatClampNeg) ∨ (f_X4_cell p 6 = 7 ∧ rNums p.toNatClampNeg = 0 ∧ (0 : Int64) = 1) ∨ (f_X4_cell p 6 = 0 ∧ rNums p.toNatClampNeg = 0 ∧ (0 : Int64) = 0)) {r : Nat} (hr : r < 256) {K0 R0 : Nat → Int32} (k0 : K0 0 = 0) (k1 : K0 1 = 0) (k2 : K0 2 = 0) (r0 : R0 0 = 0) (r1 : R0 1 = 0) (r2 : R0 2 = 0) (found : Nat → Int32) : LR c f (if f_X3_formMod (nI r) = (3 : Int32) then (f_X3_readLine_J35 pfd (nI x) opcode (nI c) row p (rOps p.toNatClampNeg) size cond K0 R0 nx f (nI r) (-1) (-1) 1 0) else (match (f_X3_readMemory nx f (nI x) (nI r) (nI c) row) with | (y21, y22, y23, y24, y25, y26) => f_X3_readLine_J35 pfd (nI x) opcode (nI c) row p (rOps p.toNatClampNeg) size cond K0 R0 y21 y22 (nI r) y23 y24 y25 y26)) (f_X7_fits_J75 (nI c) (nI x) pfd found fed p code size cond (nI r) a s) := by
  obtain ⟨h1, h2, h4, hB, hX, hX4⟩ := pfx_facts hx
  have T1 := reg_two (reg1 (size := size) hpp (and7 (nI r >>> ((3 : Int32) &&& 31))))
  have q1 := (bl_ne hX4 (and7 (nI r >>> ((3 : Int32) &&& 31)))).2.2
  have TF := reg_two (regF hpp (and7 (nI r)) hρ h14)
  have qF := (bl_ne hB (and7 (nI r))).2.2
  obtain ⟨hfm, -, h191⟩ := form_facts hr
  by_cases g3 : f_X3_formMod (nI r) = 3
  · rw [if_pos g3]
    unfold f_X3_readLine_J35
    rw [J75_ne (by rw [hp]; decide), ref_9 hp]
    have g3' := g3
    rw [hfm] at g3'
    simp only [hr0, hr1, hr2, tf3 _ _ _ _ _ _ _ _ _ g3', ro1 hk0, ro8 hk2, roF3 (role23 hρ) hk1 _ _ _ _ _ g3]
    rw [numOf_eq, h4, h1]
    obtain ⟨nn, fn, vn, vn', an, sn, n1, n2, n3, n4⟩ := num_tail hR ((reg_cur TF (reg_cur T1 hC).1).1) (size := size) (p := p) rfl hn
    rw [n1, n2]
    refine fin_rel n3 n4 (fun hf => ⟨((reg_cur T1 hC).2 ((reg_cur TF (reg_cur T1 hC).1).2 hf)), ?_, ⟨Or.inr (Or.inl ⟨by simp [upd, Bf, k0, k1, k2, r0, r1, r2, cl0, cl1, cl2, cl3, cl4, cl5, cl6, cl7, cl8, cl9, cl10, cl11, cl12], by simpa [upd, Bf, k0, k1, k2, r0, r1, r2, cl0, cl1, cl2, cl3, cl4, cl5, cl6, cl7, cl8, cl9, cl10, cl11, cl12] using (q1)⟩), Or.inr (Or.inl ⟨by simp [upd, Bf, k0, k1, k2, r0, r1, r2, cl0, cl1, cl2, cl3, cl4, cl5, cl6, cl7, cl8, cl9, cl10, cl11, cl12], by simpa [upd, Bf, k0, k1, k2, r0, r1, r2, cl0, cl1, cl2, cl3, cl4, cl5, cl6, cl7, cl8, cl9, cl10, cl11, cl12] using (qF)⟩), Or.inr (Or.inr (Or.inr ⟨by simp [upd, Bf, k0, k1, k2, r0, r1, r2, cl0, cl1, cl2, cl3, cl4, cl5, cl6, cl7, cl8, cl9, cl10, cl11, cl12], by simp [upd, Bf, k0, k1, k2, r0, r1, r2, cl0, cl1, cl2, cl3, cl4, cl5, cl6, cl7, cl8, cl9, cl10, cl11, cl12]⟩))⟩⟩)
    simp [RelF, upd, Bf, k0, k1, k2, r0, r1, r2, cl0, cl1, cl2, cl3, cl4, cl5, cl6, cl7, cl8, cl9, cl10, cl11, cl12]
  · rw [if_neg g3]
    have g3' := g3
    rw [hfm] at g3'
    rw [J75_ne (by rw [hp]; decide), ref_9 hp]
    have M := mem_rel2 hR hr hx g3' hC T1 (f_X7_width p 2 size) (upd (upd (Bf found (rOps p.toNatClampNeg) size cond) ((3 : Int32)).toNatClampNeg 1) ((4 : Int32)).toNatClampNeg ((((nI x >>> ((2 : Int32) &&& 31)) &&& 1) * 8) + ((nI r >>> ((3 : Int32) &&& 31)) &&& 7))) 1
    obtain ⟨nx1, f1, b, ix, sc, d, a1, s1, b', ix', sc', d', e1, e2, e3, e4⟩ := M
    rw [e1, e2]
    unfold f_X3_readLine_J35
    simp only [hr0, hr1, hr2, ro1 hk0, ro8 hk2, roFm (role234 hρ) hk1 _ _ _ _ _ g3]
    rw [numOf_eq, h4]
    obtain ⟨nn, fn, vn, vn', an, sn, n1, n2, n3, n4⟩ := num_tail hR (e3) (size := size) (p := p) rfl hn
    rw [n1, n2]
    refine fin_rel n3 n4 (fun hf => ?_)
    obtain ⟨hf0, rfl, rfl, rfl, rfl⟩ := e4 hf
    refine ⟨hf0, ?_, ⟨Or.inr (Or.inl ⟨by simp [upd, Bf, k0, k1, k2, r0, r1, r2, cl0, cl1, cl2, cl3, cl4, cl5, cl6, cl7, cl8, cl9, cl10, cl11, cl12], by simpa [upd, Bf, k0, k1, k2, r0, r1, r2, cl0, cl1, cl2, cl3, cl4, cl5, cl6, cl7, cl8, cl9, cl10, cl11, cl12] using (q1)⟩), Or.inr (Or.inr (Or.inl ⟨by simp [upd, Bf, k0, k1, k2, r0, r1, r2, cl0, cl1, cl2, cl3, cl4, cl5, cl6, cl7, cl8, cl9, cl10, cl11, cl12], by simp [upd, Bf, k0, k1, k2, r0, r1, r2, cl0, cl1, cl2, cl3, cl4, cl5, cl6, cl7, cl8, cl9, cl10, cl11, cl12]⟩)), Or.inr (Or.inr (Or.inr ⟨by simp [upd, Bf, k0, k1, k2, r0, r1, r2, cl0, cl1, cl2, cl3, cl4, cl5, cl6, cl7, cl8, cl9, cl10, cl11, cl12], by simp [upd, Bf, k0, k1, k2, r0, r1, r2, cl0, cl1, cl2, cl3, cl4, cl5, cl6, cl7, cl8, cl9, cl10, cl11, cl12]⟩))⟩⟩
    simp [RelF, memU, upd, Bf, k0, k1, k2, r0, r1, r2, cl0, cl1, cl2, cl3, cl4, cl5, cl6, cl7, cl8, cl9, cl10, cl11, cl12]
set_option maxHeartbeats 200000 in
theorem tail_10 {c : Nat} {row fed : Nat → Int32} (hR : Row c row fed) {x : Nat} (hx : x < 16) {nx f a s : Int32} (hC : Cur c nx f a s) {p size cond code opcode pfd : Int32} (hpp : pfd = 0 → x = 0) (hp : rPats p.toNatClampNeg = 10) (hr0 : f_X4_roleOf p 0 = 8) (hr1 : f_X4_roleOf p 1 = 0) (hr2 : f_X4_roleOf p 2 = 0) (hn : numOK (f_X4_cell p 6) (rNums p.toNatClampNeg) ∨ (f_X4_cell p 6 = 7 ∧ rNums p.toNatClampNeg = 0 ∧ (0 : Int64) = 1) ∨ (f_X4_cell p 6 = 0 ∧ rNums p.toNatClampNeg = 0 ∧ (0 : Int64) = 0)) (form oform : Int32) {K0 R0 : Nat → Int32} (k0 : K0 0 = 0) (k1 : K0 1 = 0) (k2 : K0 2 = 0) (r0 : R0 0 = 0) (r1 : R0 1 = 0) (r2 : R0 2 = 0) (found : Nat → Int32) : LR c f (f_X3_readLine_J35 pfd (nI x) opcode (nI c) row p (rOps p.toNatClampNeg) size cond K0 R0 nx f oform (-1) (-1) 1 0) (f_X7_fits_J75 (nI c) (nI x) pfd found fed p code size cond form a s) := by
  obtain ⟨h1, h2, h4, hB, hX, hX4⟩ := pfx_facts hx
  rw [J75_ne (by rw [hp]; decide), ref_10 hp]
  unfold f_X3_readLine_J35
  simp only [hr0, hr1, hr2, ro0, ro8 hk0]
  rw [numOf_eq]
  obtain ⟨nn, fn, vn, vn', an, sn, n1, n2, n3, n4⟩ := num_tail hR (hC) (size := size) (p := p) rfl hn
  rw [n1, n2]
  refine fin_rel n3 n4 (fun hf => ⟨hf, ?_, ⟨Or.inr (Or.inr (Or.inr ⟨by simp [upd, Bf, k0, k1, k2, r0, r1, r2, cl0, cl1, cl2, cl3, cl4, cl5, cl6, cl7, cl8, cl9, cl10, cl11, cl12], by simp [upd, Bf, k0, k1, k2, r0, r1, r2, cl0, cl1, cl2, cl3, cl4, cl5, cl6, cl7, cl8, cl9, cl10, cl11, cl12]⟩)), Or.inl ⟨by simp [upd, Bf, k0, k1, k2, r0, r1, r2, cl0, cl1, cl2, cl3, cl4, cl5, cl6, cl7, cl8, cl9, cl10, cl11, cl12], by simp [upd, Bf, k0, k1, k2, r0, r1, r2, cl0, cl1, cl2, cl3, cl4, cl5, cl6, cl7, cl8, cl9, cl10, cl11, cl12]⟩, Or.inl ⟨by simp [upd, Bf, k0, k1, k2, r0, r1, r2, cl0, cl1, cl2, cl3, cl4, cl5, cl6, cl7, cl8, cl9, cl10, cl11, cl12], by simp [upd, Bf, k0, k1, k2, r0, r1, r2, cl0, cl1, cl2, cl3, cl4, cl5, cl6, cl7, cl8, cl9, cl10, cl11, cl12]⟩⟩⟩)
  simp [RelF, upd, Bf, k0, k1, k2, r0, r1, r2, cl0, cl1, cl2, cl3, cl4, cl5, cl6, cl7, cl8, cl9, cl10, cl11, cl12]
set_option maxHeartbeats 200000 in
theorem tail_11 {c : Nat} {row fed : Nat → Int32} (hR : Row c row fed) {x : Nat} (hx : x < 16) {nx f a s : Int32} (hC : Cur c nx f a s) {p size cond code opcode pfd : Int32} (hpp : pfd = 0 → x = 0) (hp : rPats p.toNatClampNeg = 11) {ρ : Int32} (hr0 : f_X4_roleOf p 0 = ρ) (hρ : (ρ = 2 ∧ ¬ rOps p.toNatClampNeg = 12 ∧ ¬ rOps p.toNatClampNeg = 13) ∨ (ρ = 3 ∧ (rOps p.toNatClampNeg = 12 ∨ rOps p.toNatClampNeg = 13))) (h14 : rOps p.toNatClampNeg = 14 → size = 8) (hr1 : f_X4_roleOf p 1 = 8) (hr2 : f_X4_roleOf p 2 = 0) (hn : numOK (f_X4_cell p 6) (rNums p.toNatClampNeg) ∨ (f_X4_cell p 6 = 7 ∧ rNums p.toNatClampNeg = 0 ∧ (1 : Int64) = 1) ∨ (f_X4_cell p 6 = 0 ∧ rNums p.toNatClampNeg = 0 ∧ (1 : Int64) = 0)) {r : Nat} (hr : r < 256) {K0 R0 : Nat → Int32} (k0 : K0 0 = 0) (k1 : K0 1 = 0) (k2 : K0 2 = 0) (r0 : R0 0 = 0) (r1 : R0 1 = 0) (r2 : R0 2 = 0) (found : Nat → Int32) : LR c f (if f_X3_formMod (nI r) = (3 : Int32) then (f_X3_readLine_J35 pfd (nI x) opcode (nI c) row p (rOps p.toNatClampNeg) size cond K0 R0 nx f (nI r) (-1) (-1) 1 0) else (match (f_X3_readMemory nx f (nI x) (nI r) (nI c) row) with | (y21, y22, y23, y24, y25, y26) => f_X3_readLine_J35 pfd (nI x) opcode (nI c) row p (rOps p.toNatClampNeg) size cond K0 R0 y21 y22 (nI r) y23 y24 y25 y26)) (f_X7_fits_J75 (nI c) (nI x) pfd found fed p code size cond (nI r) a s) := by
  obtain ⟨h1, h2, h4, hB, hX, hX4⟩ := pfx_facts hx
  have TF := reg_two (regF hpp (and7 (nI r)) hρ h14)
  have qF := (bl_ne hB (and7 (nI r))).2.2
  obtain ⟨hfm, -, h191⟩ := form_facts hr
  by_cases g3 : f_X3_formMod (nI r) = 3
  · rw [if_pos g3]
    unfold f_X3_readLine_J35
    rw [J75_ne (by rw [hp]; decide), ref_11 hp]
    have g3' := g3
    rw [hfm] at g3'
    simp only [hr0, hr1, hr2, tf3 _ _ _ _ _ _ _ _ _ g3', ro0, ro8 hk1, roF3 (role23 hρ) hk0 _ _ _ _ _ g3]
    rw [numOf_eq, h1]
    obtain ⟨nn, fn, vn, vn', an, sn, n1, n2, n3, n4⟩ := num_tail hR ((reg_cur TF hC).1) (size := size) (p := p) rfl hn
    rw [n1, n2]
    refine fin_rel n3 n4 (fun hf => ⟨((reg_cur TF hC).2 hf), ?_, ⟨Or.inr (Or.inl ⟨by simp [upd, Bf, k0, k1, k2, r0, r1, r2, cl0, cl1, cl2, cl3, cl4, cl5, cl6, cl7, cl8, cl9, cl10, cl11, cl12], by simpa [upd, Bf, k0, k1, k2, r0, r1, r2, cl0, cl1, cl2, cl3, cl4, cl5, cl6, cl7, cl8, cl9, cl10, cl11, cl12] using (qF)⟩), Or.inr (Or.inr (Or.inr ⟨by simp [upd, Bf, k0, k1, k2, r0, r1, r2, cl0, cl1, cl2, cl3, cl4, cl5, cl6, cl7, cl8, cl9, cl10, cl11, cl12], by simp [upd, Bf, k0, k1, k2, r0, r1, r2, cl0, cl1, cl2, cl3, cl4, cl5, cl6, cl7, cl8, cl9, cl10, cl11, cl12]⟩)), Or.inl ⟨by simp [upd, Bf, k0, k1, k2, r0, r1, r2, cl0, cl1, cl2, cl3, cl4, cl5, cl6, cl7, cl8, cl9, cl10, cl11, cl12], by simp [upd, Bf, k0, k1, k2, r0, r1, r2, cl0, cl1, cl2, cl3, cl4, cl5, cl6, cl7, cl8, cl9, cl10, cl11, cl12]⟩⟩⟩)
    simp [RelF, upd, Bf, k0, k1, k2, r0, r1, r2, cl0, cl1, cl2, cl3, cl4, cl5, cl6, cl7, cl8, cl9, cl10, cl11, cl12]
  · rw [if_neg g3]
    have g3' := g3
    rw [hfm] at g3'
    rw [J75_ne (by rw [hp]; decide), ref_11 hp]
    obtain ⟨nx1, f1, b, ix, sc, d, a1, s1, b', ix', sc', d', e1, e2, e3, e4⟩ := mem_rel hR hr hx g3' hC pfd (f_X7_width p 2 size) (Bf found (rOps p.toNatClampNeg) size cond) 0
    rw [e1, e2]
    unfold f_X3_readLine_J35
    simp only [hr0, hr1, hr2, ro0, ro8 hk1, roFm (role234 hρ) hk0 _ _ _ _ _ g3]
    rw [numOf_eq]
    obtain ⟨nn, fn, vn, vn', an, sn, n1, n2, n3, n4⟩ := num_tail hR (e3) (size := size) (p := p) rfl hn
    rw [n1, n2]
    refine fin_rel n3 n4 (fun hf => ?_)
    obtain ⟨hf0, rfl, rfl, rfl, rfl⟩ := e4 hf
    refine ⟨hf0, ?_, ⟨Or.inr (Or.inr (Or.inl ⟨by simp [upd, Bf, k0, k1, k2, r0, r1, r2, cl0, cl1, cl2, cl3, cl4, cl5, cl6, cl7, cl8, cl9, cl10, cl11, cl12], by simp [upd, Bf, k0, k1, k2, r0, r1, r2, cl0, cl1, cl2, cl3, cl4, cl5, cl6, cl7, cl8, cl9, cl10, cl11, cl12]⟩)), Or.inr (Or.inr (Or.inr ⟨by simp [upd, Bf, k0, k1, k2, r0, r1, r2, cl0, cl1, cl2, cl3, cl4, cl5, cl6, cl7, cl8, cl9, cl10, cl11, cl12], by simp [upd, Bf, k0, k1, k2, r0, r1, r2, cl0, cl1, cl2, cl3, cl4, cl5, cl6, cl7, cl8, cl9, cl10, cl11, cl12]⟩)), Or.inl ⟨by simp [upd, Bf, k0, k1, k2, r0, r1, r2, cl0, cl1, cl2, cl3, cl4, cl5, cl6, cl7, cl8, cl9, cl10, cl11, cl12], by simp [upd, Bf, k0, k1, k2, r0, r1, r2, cl0, cl1, cl2, cl3, cl4, cl5, cl6, cl7, cl8, cl9, cl10, cl11, cl12]⟩⟩⟩
    simp [RelF, memU, upd, Bf, k0, k1, k2, r0, r1, r2, cl0, cl1, cl2, cl3, cl4, cl5, cl6, cl7, cl8, cl9, cl10, cl11, cl12]
set_option maxHeartbeats 200000 in
theorem tail_12 {c : Nat} {row fed : Nat → Int32} (hR : Row c row fed) {x : Nat} (hx : x < 16) {nx f a s : Int32} (hC : Cur c nx f a s) {p size cond code opcode pfd : Int32} (hpp : pfd = 0 → x = 0) (hp : rPats p.toNatClampNeg = 12) {ρ : Int32} (hr0 : f_X4_roleOf p 0 = ρ) (hρ : (ρ = 2 ∧ ¬ rOps p.toNatClampNeg = 12 ∧ ¬ rOps p.toNatClampNeg = 13) ∨ (ρ = 3 ∧ (rOps p.toNatClampNeg = 12 ∨ rOps p.toNatClampNeg = 13))) (h14 : rOps p.toNatClampNeg = 14 → size = 8) (hr1 : f_X4_roleOf p 1 = 7) (hr2 : f_X4_roleOf p 2 = 0) (hn : numOK (f_X4_cell p 6) (rNums p.toNatClampNeg) ∨ (f_X4_cell p 6 = 7 ∧ rNums p.toNatClampNeg = 0 ∧ (0 : Int64) = 1) ∨ (f_X4_cell p 6 = 0 ∧ rNums p.toNatClampNeg = 0 ∧ (0 : Int64) = 0)) {r : Nat} (hr : r < 256) {K0 R0 : Nat → Int32} (k0 : K0 0 = 0) (k1 : K0 1 = 0) (k2 : K0 2 = 0) (r0 : R0 0 = 0) (r1 : R0 1 = 0) (r2 : R0 2 = 0) (found : Nat → Int32) : LR c f (if f_X3_formMod (nI r) = (3 : Int32) then (f_X3_readLine_J35 pfd (nI x) opcode (nI c) row p (rOps p.toNatClampNeg) size cond K0 R0 nx f (nI r) (-1) (-1) 1 0) else (match (f_X3_readMemory nx f (nI x) (nI r) (nI c) row) with | (y21, y22, y23, y24, y25, y26) => f_X3_readLine_J35 pfd (nI x) opcode (nI c) row p (rOps p.toNatClampNeg) size cond K0 R0 y21 y22 (nI r) y23 y24 y25 y26)) (f_X7_fits_J75 (nI c) (nI x) pfd found fed p code size cond (nI r) a s) := by
  obtain ⟨h1, h2, h4, hB, hX, hX4⟩ := pfx_facts hx
  have TF := reg_two (regF hpp (and7 (nI r)) hρ h14)
  have qF := (bl_ne hB (and7 (nI r))).2.2
  obtain ⟨hfm, -, h191⟩ := form_facts hr
  by_cases g3 : f_X3_formMod (nI r) = 3
  · rw [if_pos g3]
    unfold f_X3_readLine_J35
    rw [J75_ne (by rw [hp]; decide), ref_12 hp]
    have g3' := g3
    rw [hfm] at g3'
    simp only [hr0, hr1, hr2, tf3 _ _ _ _ _ _ _ _ _ g3', ro0, ro7 hk1, roF3 (role23 hρ) hk0 _ _ _ _ _ g3]
    rw [numOf_eq, h1]
    obtain ⟨nn, fn, vn, vn', an, sn, n1, n2, n3, n4⟩ := num_tail hR ((reg_cur TF hC).1) (size := size) (p := p) rfl hn
    rw [n1, n2]
    refine fin_rel n3 n4 (fun hf => ⟨((reg_cur TF hC).2 hf), ?_, ⟨Or.inr (Or.inl ⟨by simp [upd, Bf, k0, k1, k2, r0, r1, r2, cl0, cl1, cl2, cl3, cl4, cl5, cl6, cl7, cl8, cl9, cl10, cl11, cl12], by simpa [upd, Bf, k0, k1, k2, r0, r1, r2, cl0, cl1, cl2, cl3, cl4, cl5, cl6, cl7, cl8, cl9, cl10, cl11, cl12] using (qF)⟩), Or.inr (Or.inl ⟨by simp [upd, Bf, k0, k1, k2, r0, r1, r2, cl0, cl1, cl2, cl3, cl4, cl5, cl6, cl7, cl8, cl9, cl10, cl11, cl12], by simpa [upd, Bf, k0, k1, k2, r0, r1, r2, cl0, cl1, cl2, cl3, cl4, cl5, cl6, cl7, cl8, cl9, cl10, cl11, cl12] using ((by decide : qv 0 15 1))⟩), Or.inl ⟨by simp [upd, Bf, k0, k1, k2, r0, r1, r2, cl0, cl1, cl2, cl3, cl4, cl5, cl6, cl7, cl8, cl9, cl10, cl11, cl12], by simp [upd, Bf, k0, k1, k2, r0, r1, r2, cl0, cl1, cl2, cl3, cl4, cl5, cl6, cl7, cl8, cl9, cl10, cl11, cl12]⟩⟩⟩)
    simp [RelF, upd, Bf, k0, k1, k2, r0, r1, r2, cl0, cl1, cl2, cl3, cl4, cl5, cl6, cl7, cl8, cl9, cl10, cl11, cl12]
  · rw [if_neg g3]
    have g3' := g3
    rw [hfm] at g3'
    rw [J75_ne (by rw [hp]; decide), ref_12 hp]
    obtain ⟨nx1, f1, b, ix, sc, d, a1, s1, b', ix', sc', d', e1, e2, e3, e4⟩ := mem_rel hR hr hx g3' hC pfd (f_X7_width p 2 size) (Bf found (rOps p.toNatClampNeg) size cond) 0
    rw [e1, e2]
    unfold f_X3_readLine_J35
    simp only [hr0, hr1, hr2, ro0, ro7 hk1, roFm (role234 hρ) hk0 _ _ _ _ _ g3]
    rw [numOf_eq]
    obtain ⟨nn, fn, vn, vn', an, sn, n1, n2, n3, n4⟩ := num_tail hR (e3) (size := size) (p := p) rfl hn
    rw [n1, n2]
    refine fin_rel n3 n4 (fun hf => ?_)
    obtain ⟨hf0, rfl, rfl, rfl, rfl⟩ := e4 hf
    refine ⟨hf0, ?_, ⟨Or.inr (Or.inr (Or.inl ⟨by simp [upd, Bf, k0, k1, k2, r0, r1, r2, cl0, cl1, cl2, cl3, cl4, cl5, cl6, cl7, cl8, cl9, cl10, cl11, cl12], by simp [upd, Bf, k0, k1, k2, r0, r1, r2, cl0, cl1, cl2, cl3, cl4, cl5, cl6, cl7, cl8, cl9, cl10, cl11, cl12]⟩)), Or.inr (Or.inl ⟨by simp [upd, Bf, k0, k1, k2, r0, r1, r2, cl0, cl1, cl2, cl3, cl4, cl5, cl6, cl7, cl8, cl9, cl10, cl11, cl12], by simpa [upd, Bf, k0, k1, k2, r0, r1, r2, cl0, cl1, cl2, cl3, cl4, cl5, cl6, cl7, cl8, cl9, cl10, cl11, cl12] using ((by decide : qv 0 15 1))⟩), Or.inl ⟨by simp [upd, Bf, k0, k1, k2, r0, r1, r2, cl0, cl1, cl2, cl3, cl4, cl5, cl6, cl7, cl8, cl9, cl10, cl11, cl12], by simp [upd, Bf, k0, k1, k2, r0, r1, r2, cl0, cl1, cl2, cl3, cl4, cl5, cl6, cl7, cl8, cl9, cl10, cl11, cl12]⟩⟩⟩
    simp [RelF, memU, upd, Bf, k0, k1, k2, r0, r1, r2, cl0, cl1, cl2, cl3, cl4, cl5, cl6, cl7, cl8, cl9, cl10, cl11, cl12]
