/-! operands read -/
def regC (f pfd role size R : Int32) : Int32 := if pfd = 0 then (if f_X4_needsAnyPrefix role size R = 0 then f else 1) else f
def regR (s pfd w R : Int32) : Int32 := if w = 1 then (if pfd = 0 then (if R ≤ 3 then s else 1) else s) else s
theorem setOp {k : Int32} (hk : k = 0 ∨ k = 1 ∨ k = 2) (kf rf : Nat → Int32) (a b : Int32) : f_X0_setOperand kf rf k a b = (upd kf k.toNatClampNeg a, upd rf k.toNatClampNeg b) := by
  rcases hk with rfl | rfl | rfl <;> simp [f_X0_setOperand, f_X0_setOperand_J5]
theorem rr_eq {k : Int32} (hk : k = 0 ∨ k = 1 ∨ k = 2) (f pfd size role R : Int32) (kf rf : Nat → Int32) : f_X3_readRegister f pfd size kf rf role k R = (regC f pfd role size R, upd kf k.toNatClampNeg 1, upd rf k.toNatClampNeg R) := by
  unfold f_X3_readRegister f_X3_readRegister_J4 regC
  rw [setOp hk]
  by_cases h1 : pfd = 0
  · by_cases h2 : f_X4_needsAnyPrefix role size R = 0
    · simp only [h1, h2, if_true]
    · simp only [h1, h2, if_true, if_false]
  · simp only [h1, if_false]
theorem ro0 (f pfd pfx oc form size k : Int32) (kf rf : Nat → Int32) : f_X3_readOperand f pfd pfx oc form size kf rf 0 k = (f, kf, rf) := by
  simp [f_X3_readOperand, f_X3_readOperand_J41]
theorem ro1 {k : Int32} (hk : k = 0 ∨ k = 1 ∨ k = 2) (f pfd pfx oc form size : Int32) (kf rf : Nat → Int32) : f_X3_readOperand f pfd pfx oc form size kf rf 1 k = (regC f pfd 1 size (f_X3_high pfx 4 + ((form >>> ((3 : Int32) &&& 31)) &&& 7)), upd kf k.toNatClampNeg 1, upd rf k.toNatClampNeg (f_X3_high pfx 4 + ((form >>> ((3 : Int32) &&& 31)) &&& 7))) := by
  unfold f_X3_readOperand f_X3_readOperand_J41
  rw [if_pos rfl, rr_eq hk]
theorem ro5 {k : Int32} (hk : k = 0 ∨ k = 1 ∨ k = 2) (f pfd pfx oc form size : Int32) (kf rf : Nat → Int32) : f_X3_readOperand f pfd pfx oc form size kf rf 5 k = (regC f pfd 5 size (f_X3_high pfx 1 + (oc &&& 7)), upd kf k.toNatClampNeg 1, upd rf k.toNatClampNeg (f_X3_high pfx 1 + (oc &&& 7))) := by
  unfold f_X3_readOperand f_X3_readOperand_J41
  rw [if_neg (by decide), if_neg (by decide), if_neg (by decide), if_neg (by decide), if_pos rfl, rr_eq hk]
theorem ro6 {k : Int32} (hk : k = 0 ∨ k = 1 ∨ k = 2) (f pfd pfx oc form size : Int32) (kf rf : Nat → Int32) : f_X3_readOperand f pfd pfx oc form size kf rf 6 k = (f, upd kf k.toNatClampNeg 1, upd rf k.toNatClampNeg 0) := by
  unfold f_X3_readOperand f_X3_readOperand_J41
  rw [if_neg (by decide), if_neg (by decide), if_neg (by decide), if_neg (by decide), if_neg (by decide), if_pos rfl, setOp hk]
theorem ro7 {k : Int32} (hk : k = 0 ∨ k = 1 ∨ k = 2) (f pfd pfx oc form size : Int32) (kf rf : Nat → Int32) : f_X3_readOperand f pfd pfx oc form size kf rf 7 k = (f, upd kf k.toNatClampNeg 1, upd rf k.toNatClampNeg 1) := by
  unfold f_X3_readOperand f_X3_readOperand_J41
  rw [if_neg (by decide), if_neg (by decide), if_neg (by decide), if_neg (by decide), if_neg (by decide), if_neg (by decide), if_pos rfl, setOp hk]
theorem ro8 {k : Int32} (hk : k = 0 ∨ k = 1 ∨ k = 2) (f pfd pfx oc form size : Int32) (kf rf : Nat → Int32) : f_X3_readOperand f pfd pfx oc form size kf rf 8 k = (f, upd kf k.toNatClampNeg 3, upd rf k.toNatClampNeg 0) := by
  unfold f_X3_readOperand f_X3_readOperand_J41
  rw [if_neg (by decide), if_neg (by decide), if_neg (by decide), if_neg (by decide), if_neg (by decide), if_neg (by decide), if_neg (by decide), if_pos rfl, setOp hk]
theorem roF3 {k role : Int32} (hr : role = 2 ∨ role = 3) (hk : k = 0 ∨ k = 1 ∨ k = 2) (f pfd pfx oc size : Int32) {form : Int32} (h3 : f_X3_formMod form = 3) (kf rf : Nat → Int32) : f_X3_readOperand f pfd pfx oc form size kf rf role k = (regC f pfd role size (f_X3_high pfx 1 + (form &&& 7)), upd kf k.toNatClampNeg 1, upd rf k.toNatClampNeg (f_X3_high pfx 1 + (form &&& 7))) := by
  unfold f_X3_readOperand f_X3_readOperand_J41 f_X3_readFormOperand f_X3_readFormOperand_J13
  rcases hr with rfl | rfl
  · rw [if_neg (by decide), if_pos rfl, if_pos h3, if_neg (by decide), rr_eq hk]
  · rw [if_neg (by decide), if_neg (by decide), if_pos rfl, if_pos h3, if_neg (by decide), rr_eq hk]
theorem roFm {k role : Int32} (hr : role = 2 ∨ role = 3 ∨ role = 4) (hk : k = 0 ∨ k = 1 ∨ k = 2) (f pfd pfx oc size : Int32) {form : Int32} (h3 : ¬ f_X3_formMod form = 3) (kf rf : Nat → Int32) : f_X3_readOperand f pfd pfx oc form size kf rf role k = (f, upd kf k.toNatClampNeg 2, upd rf k.toNatClampNeg 0) := by
  unfold f_X3_readOperand f_X3_readOperand_J41 f_X3_readFormOperand f_X3_readFormOperand_J13
  rcases hr with rfl | rfl | rfl
  · rw [if_neg (by decide), if_pos rfl, if_neg h3, setOp hk]
  · rw [if_neg (by decide), if_neg (by decide), if_pos rfl, if_neg h3, setOp hk]
  · rw [if_neg (by decide), if_neg (by decide), if_neg (by decide), if_pos rfl, if_neg h3, setOp hk]
theorem roM3 {k : Int32} (f pfd pfx oc size : Int32) {form : Int32} (h3 : f_X3_formMod form = 3) (kf rf : Nat → Int32) : f_X3_readOperand f pfd pfx oc form size kf rf 4 k = (1, kf, rf) := by
  unfold f_X3_readOperand f_X3_readOperand_J41 f_X3_readFormOperand f_X3_readFormOperand_J13
  rw [if_neg (by decide), if_neg (by decide), if_neg (by decide), if_pos rfl, if_pos h3, if_pos rfl]
theorem tf3 (C a pfx pfd s : Int32) (found fed : Nat → Int32) {form : Int32} (i w : Int32) (h3 : form >>> ((6 : Int32) &&& 31) = 3) : f_X7_takeForm C a pfx pfd s found fed form i w = (a, regR s pfd w (form &&& 7), upd (upd found (((3 : Int32) + ((2 : Int32) * i))).toNatClampNeg 1) (((4 : Int32) + ((2 : Int32) * i))).toNatClampNeg (((pfx &&& 1) * 8) + (form &&& 7))) := by
  unfold f_X7_takeForm f_X7_takeForm_J43 regR
  rw [if_pos h3]
  by_cases h1 : w = 1
  · by_cases h2 : pfd = 0
    · by_cases h4 : form &&& 7 ≤ 3
      · simp only [h1, h2, h4, if_true]
      · simp only [h1, h2, h4, if_true, if_false]
    · simp only [h1, h2, if_true, if_false]
  · simp only [h1, if_false]
theorem reg_two {pfd role size R w R' : Int32} (h : pfd = 0 → (f_X4_needsAnyPrefix role size R = 0 ↔ ¬ (w = 1 ∧ ¬ R' ≤ 3))) : (∀ f s, regC f pfd role size R = 1 ∧ regR s pfd w R' = 1) ∨ (∀ f s, regC f pfd role size R = f ∧ regR s pfd w R' = s) := by
  unfold regC regR
  by_cases h1 : pfd = 0
  · have h := h h1
    by_cases h2 : f_X4_needsAnyPrefix role size R = 0
    · right
      intro f s
      have h3 := h.mp h2
      by_cases h4 : w = 1
      · by_cases h5 : R' ≤ 3
        · simp [h1, h2, h4, h5]
        · exact absurd ⟨h4, h5⟩ h3
      · simp [h1, h2, h4]
    · left
      intro f s
      by_cases h4 : w = 1
      · by_cases h5 : R' ≤ 3
        · exact absurd (h.mpr (fun q => q.2 h5)) h2
        · simp [h1, h2, h4, h5]
      · exact absurd (h.mpr (fun q => h4 q.1)) h2
  · right
    intro f s
    simp [h1]
theorem reg_cur {c : Nat} {nx f a s pfd role size R w R' : Int32} (hT : (∀ f s, regC f pfd role size R = 1 ∧ regR s pfd w R' = 1) ∨ (∀ f s, regC f pfd role size R = f ∧ regR s pfd w R' = s)) (h : Cur c nx f a s) : Cur c nx (regC f pfd role size R) a (regR s pfd w R') ∧ (regC f pfd role size R = 0 → f = 0) := by
  rcases hT with hT | hT
  · rw [(hT f s).1, (hT f s).2]
    exact ⟨Or.inl ⟨rfl, rfl⟩, fun h => absurd h (by decide)⟩
  · rw [(hT f s).1, (hT f s).2]
    exact ⟨h, id⟩
theorem na_eq (role size : Int32) {R : Int32} (h : qv 0 7 R) : f_X4_needsAnyPrefix role size R = 0 ↔ ¬ ((size = 1 ∨ role = 3) ∧ ¬ R ≤ 3) := by
  obtain ⟨q, rfl, h1, h2⟩ := qv_nI h (by decide)
  unfold f_X4_needsAnyPrefix
  rcases (show q = 0 ∨ q = 1 ∨ q = 2 ∨ q = 3 ∨ q = 4 ∨ q = 5 ∨ q = 6 ∨ q = 7 by omega) with rfl | rfl | rfl | rfl | rfl | rfl | rfl | rfl <;> by_cases hs : size = 1 <;> by_cases hr : role = 3 <;> simp [hs, hr] <;> decide
/-- memory read, with a register's test ahead of it in the reference, behind it in the class -/
theorem mem_rel2 {c : Nat} {row fed : Nat → Int32} (hR : Row c row fed) {r x : Nat} (hr : r < 256) (hx : x < 16) (h3 : ¬ (nI r) >>> ((6 : Int32) &&& 31) = 3) {nx f a s : Int32} (h : Cur c nx f a s) {pfd role size R w' R' : Int32} (hT : (∀ f s, regC f pfd role size R = 1 ∧ regR s pfd w' R' = 1) ∨ (∀ f s, regC f pfd role size R = f ∧ regR s pfd w' R' = s)) (w : Int32) (found : Nat → Int32) (i : Int32) :
    ∃ nx' f' b ix sc d a' s' b' ix' sc' d', f_X3_readMemory nx f (nI x) (nI r) (nI c) row = (nx', f', b, ix, sc, d) ∧ f_X7_takeForm (nI c) a (nI x) pfd (regR s pfd w' R') found fed (nI r) i w = (a', s', memU found i b' ix' sc' d') ∧ Cur c nx' (regC f' pfd role size R) a' s' ∧ (regC f' pfd role size R = 0 → f = 0 ∧ b' = b ∧ ix' = ix ∧ sc' = sc ∧ d' = d) := by
  obtain ⟨nx', f', b, ix, sc, d, a', s', b', ix', sc', d', e1, e2, e3, e4⟩ := mem_rel hR hr hx h3 h pfd w found i
  rcases hT with hT | hT
  · obtain ⟨nx2, f2, b2, ix2, sc2, d2, a2', s2', b2', ix2', sc2', d2', g1, g2, g3, g4⟩ := mem_rel hR hr hx h3 (nx := nx) (f := 1) (a := a) (s := 1) (Or.inl ⟨rfl, rfl⟩) pfd w found i
    rw [(hT f s).2]
    have hs : s2' = 1 := by
      rcases g3 with ⟨-, g⟩ | ⟨g, -⟩
      · exact g
      · exact absurd (g4 g).1 (by decide)
    refine ⟨nx', f', b, ix, sc, d, a2', s2', b2', ix2', sc2', d2', e1, g2, ?_, ?_⟩
    · rw [(hT f' s).1]
      exact Or.inl ⟨rfl, hs⟩
    · rw [(hT f' s).1]
      exact fun h => absurd h (by decide)
  · rw [(hT f s).2]
    refine ⟨nx', f', b, ix, sc, d, a', s', b', ix', sc', d', e1, e2, ?_, ?_⟩
    · rw [(hT f' s).1]
      exact e3
    · rw [(hT f' s).1]
      exact e4
def LR (c : Nat) (f0 : Int32) (C : Int32 × Int32 × Int32 × Int32 × Int32 × Int32 × Int64 × (Nat → Int32) × (Nat → Int32) × Int32 × Int32 × Int32 × Int32) (R : Int32 × Int64 × Int32 × Int32 × (Nat → Int32)) : Prop :=
  (¬ C.2.1 = 0 ∧ R.1 = 0) ∨ (C.2.1 = 0 ∧ f0 = 0 ∧ R.1 = 1 ∧ R.2.1 = C.2.2.2.2.2.2.1 ∧ (∃ n : Nat, 0 < n ∧ n ≤ c ∧ C.1 = nI n ∧ R.2.2.1 = nI n) ∧ RelF R.2.2.2.2 (C.2.2.2.1) (C.2.2.2.2.1) (C.2.2.2.2.2.1) (C.2.2.2.2.2.2.2.1) (C.2.2.2.2.2.2.2.2.1) (C.2.2.2.2.2.2.2.2.2.1) (C.2.2.2.2.2.2.2.2.2.2.1) (C.2.2.2.2.2.2.2.2.2.2.2.1) (C.2.2.2.2.2.2.2.2.2.2.2.2) ∧ WfK (C.2.2.2.2.2.2.2.1) (C.2.2.2.2.2.2.2.2.1))
theorem fin_rel {c : Nat} {f0 f nx' f' a' s' : Int32} {v v' : Int64} {found : Nat → Int32} {form op size cond b i sc d : Int32} {kf rf : Nat → Int32} (e3 : Cur c nx' f' a' s') (e4 : f' = 0 → f = 0 ∧ v' = v) (hF : f = 0 → f0 = 0 ∧ RelF found op size cond kf rf b i sc d ∧ WfK kf rf) :
    LR c f0 (nx', f', form, op, size, cond, v, kf, rf, b, i, sc, d) (if s' = 0 then 1 else 0, v', a', s', found) := by
  rcases e3 with ⟨rfl, rfl⟩ | ⟨rfl, rfl, n, hp0, h1, rfl, rfl⟩
  · exact Or.inl ⟨show ¬ (1 : Int32) = 0 by decide, show (if (1 : Int32) = 0 then (1 : Int32) else 0) = 0 by decide⟩
  · obtain ⟨g1, g2⟩ := e4 rfl
    exact Or.inr ⟨rfl, (hF g1).1, rfl, g2, ⟨n, hp0, h1, rfl, rfl⟩, (hF g1).2.1, (hF g1).2.2⟩
