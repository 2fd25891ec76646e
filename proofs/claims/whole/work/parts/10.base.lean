/-! a method told whole: the cells before it, its answer, the same cells behind it -/
abbrev qr (f n : Nat) : Room := { frames := f, cells := 0, slots := 0, locals := n }
/-- what stands outside every world and is never written -/
def qx_ok (X : (Nat → Prop) → State → Heap → Prop) : Prop :=
  ((∀ (A : Nat → Prop) (u U : State) (H : Heap), u.WarmedH U.vm → X A u H → X A U H) ∧ (∀ (A : Nat → Prop) (u U : State) (H : Heap), u.vm = U.vm → X A u H → X A U H)) ∧
  (∀ (A : Nat → Prop) (U : State) (H H1 : Heap), X A U H → (∀ a : Nat, a < H.size → ¬ A a → H1[a]? = H[a]?) → X A U H1) ∧
  (∀ (A B : Nat → Prop) (U : State) (H : Heap), X A U H → (∀ q, B q → A q) → X B U H)
def qw_Q (r : Option Value) (D : va_G) (cl : List vw_C) (wB : va_W) (A : Nat → Prop) : Array Value → State → Outcome → State → Prop :=
  fun _ st oc t => oc = .returned r ∧ va_P D cl wB t.heap ∧ va_D A wB ∧ va_F A st t
def qw_P (X : (Nat → Prop) → State → Heap → Prop) (D : va_G) (cl : List vw_C) (tys : List (ClassId × FieldType)) (wA : va_W) (av : List Value) (sz : Nat) : Array Value → State → Prop :=
  va_Pc av (fun U => U.heap.size = sz ∧ va_P D cl wA U.heap ∧ va_K D cl tys U ∧ va_D (fun _ => True) wA ∧ X (va_A wA sz) U U.heap)
def qM (l : Launch) (y : MethodName) (ws : List Cond) (rm : Room) (X : (Nat → Prop) → State → Heap → Prop) (D : va_G) (cl : List vw_C) (tys : List (ClassId × FieldType)) (wA : va_W) (av : List Value) (r : Option Value) (wB : va_W) : Prop :=
  ∀ sz : Nat, Met l y ws rm (qw_P X D cl tys wA av sz) (qw_Q r D cl wB (va_A wA sz)) 0 0 (va_A wA sz)
def qw_upd : va_W → List Nat → va_W → va_W
  | ws, i :: is, e :: es => qw_upd (ws.set i e) is es
  | ws, _, _ => ws
theorem qw_blind {X : (Nat → Prop) → State → Heap → Prop} (hX : qx_ok X) {D : va_G} {cl : List vw_C} {tys : List (ClassId × FieldType)} {wA : va_W} {av : List Value} {sz : Nat} : FrameBlind (qw_P X D cl tys wA av sz) := by
  intro a U g mk q
  obtain ⟨q0, q1, qP, qK, qD, qX⟩ := q
  exact ⟨q0, q1, qP, va_K.moved (u := U) (U := U.calling g mk a) (Vm.Alike.refl U.vm) qK, qD, hX.1.2 _ U (U.calling g mk a) _ rfl qX⟩
section QWC
variable {p : Program} {l : Launch} {e : Env} {R : Room} {s : State} {m : MethodId} {args : Array Value} {below : List Frame} {meth : Method} {c : Code} {H : Heap} {locs : List Loc} {cells slots : Nat} {Q : State → Prop}
variable {cc : ByteArray} {pc : Nat} {ls : Array Slot} {rest st0 st1 : List Value} {a : Array Value} {A0 : Nat → Prop} {H0 : Heap}
variable {D : va_G} {cl : List vw_C} {tys : List (ClassId × FieldType)} {ws wc w1 ws' : va_W} {X : (Nat → Prop) → State → Heap → Prop}
theorem qw_topi {x v : Int32} (h : x = v) (k : W p l e R s m args below meth c H locs cells slots Q (F0 m pc ls (.int v :: rest))) : W p l e R s m args below meth c H locs cells slots Q (F0 m pc ls (.int x :: rest)) := h ▸ k
theorem qw_at {is : List Nat} {w : va_W} (hs : is.map (fun i => ws[i]?) = w.map some) {k : Nat} {q : Nat × va_E} (hq : w[k]? = some q) : ∃ i, is[k]? = some i ∧ ws[i]? = some q := by
  have h1 : (is.map (fun i => ws[i]?))[k]? = some (some q) := by rw [hs, List.getElem?_map, hq]; rfl
  rw [List.getElem?_map] at h1
  cases hi : is[k]? with
  | none => rw [hi] at h1; cases h1
  | some i => rw [hi] at h1; exact ⟨i, rfl, Option.some.inj h1⟩
/-- the callee's start, out of the caller's world -/
theorem qw_pre (hX : qx_ok X) (hK : va_K D cl tys s) (hP : va_P D cl ws H) (hD : va_D A0 ws) (hS : va_S A0 s.heap H locs) (hA : ∀ q, s.heap.size ≤ q → A0 q) (hXs : X A0 s s.heap) (isC : List Nat) (hC : isC.map (fun i => ws[i]?) = wc.map some) (hn : va_nd isC = true) {av : List Value} :
    PreS s H (qw_P X D cl tys wc av H.size) av := by
  refine ⟨qw_blind hX, fun U hU hW => ⟨rfl, by rw [hU], ?_, va_K.moved hW.alike hK, (hD.sub isC hn hC).weaken (fun _ _ _ _ => trivial), ?_⟩⟩
  · rw [hU]
    intro k q hq
    obtain ⟨i, -, hi⟩ := qw_at hC hq
    exact hP i q hi
  · rw [hU]
    refine hX.1.1 _ s U _ hW (hX.2.2 A0 _ s H (hX.2.1 A0 s s.heap H hXs (fun q h1 h2 => hS.2.1 q h1 h2)) (va_free hD hS hA isC hC))
theorem qw_upd_get : ∀ (is : List Nat) (es ws : va_W) (k : Nat) (q : Nat × va_E), (qw_upd ws is es)[k]? = some q → (∃ j : Nat, is[j]? = some k ∧ es[j]? = some q) ∨ ((k ∉ is ∨ es.length < is.length) ∧ ws[k]? = some q) := by
  intro is
  induction is with
  | nil => intro es ws k q h; exact Or.inr ⟨Or.inl List.not_mem_nil, by simpa [qw_upd] using h⟩
  | cons i is ih =>
    intro es ws k q h
    cases es with
    | nil => exact Or.inr ⟨Or.inr (by simp), by simpa [qw_upd] using h⟩
    | cons x es =>
      rw [qw_upd] at h
      rcases ih es (ws.set i x) k q h with ⟨j, h1, h2⟩ | ⟨h1, h2⟩
      · exact Or.inl ⟨j + 1, by simpa using h1, by simpa using h2⟩
      · by_cases hk : i = k
        · subst hk
          by_cases hl : i < ws.length
          · rw [List.getElem?_set_self hl] at h2
            exact Or.inl ⟨0, rfl, by simpa using h2⟩
          · have h3 : (ws.set i x)[i]? = none := by rw [List.getElem?_eq_none_iff]; simp; omega
            rw [h3] at h2; cases h2
        · rw [List.getElem?_set_ne hk] at h2
          refine Or.inr ⟨?_, h2⟩
          rcases h1 with h1 | h1
          · exact Or.inl (fun hm => by rcases List.mem_cons.mp hm with z | z; exact hk z.symm; exact h1 z)
          · exact Or.inr (by simpa using h1)
/-- behind a call: the callee's cells as it left them, in their places -/
theorem qw_after {r : Option Value} (hr : va_Run p l e R s m args below meth c H locs cells slots 0 0 (F0 m pc ls st0) rest (qw_Q r D cl w1 (va_A wc H.size) a) (va_A wc H.size)) (hP : va_P D cl ws H) (hD : va_D A0 ws) (hS : va_S A0 H0 H locs) (hA : ∀ q, H0.size ≤ q → A0 q) (isC : List Nat) (hC : isC.map (fun i => ws[i]?) = wc.map some) (hadr : w1.map (fun q => q.1) = wc.map (fun q => q.1)) (hu : qw_upd ws isC w1 = ws') (hst : r.toList ++ rest = st1)
    (kk : ∀ (H1 : Heap) (locs1 : List Loc), va_P D cl ws' H1 → va_D A0 ws' → va_S A0 H0 H1 locs1 → W p l e R s m args below meth c H1 locs1 cells slots Q (F0 m (pc + 3) ls st1)) : W p l e R s m args below meth c H locs cells slots Q (F0 m pc ls st0) := by
  intro T hT X
  obtain ⟨v, st₀, t, T', L, h0, X', hL, e1, e2, ⟨hv, hP1, hD1, hz, hk⟩, st⟩ := hr T hT X
  cases hv
  rw [h0] at hz hk
  have hF := va_free hD hS hA isC hC
  have hlen : w1.length = isC.length := by
    have h1 := congrArg List.length hC
    have h2 := congrArg List.length hadr
    simp at h1 h2
    omega
  have hsame : ∀ (k : Nat) (q : Nat × va_E), ws'[k]? = some q → ∃ q0, ws[k]? = some q0 ∧ q0.1 = q.1 := by
    intro k q hq
    rw [← hu] at hq
    rcases qw_upd_get isC w1 ws k q hq with ⟨j, h1, h2⟩ | ⟨-, h2⟩
    · have h3 : (wc.map (fun q => q.1))[j]? = some q.1 := by rw [← hadr, List.getElem?_map, h2]; rfl
      rw [List.getElem?_map] at h3
      cases hw : wc[j]? with
      | none => rw [hw] at h3; cases h3
      | some q0 =>
        rw [hw] at h3
        obtain ⟨i, g1, g2⟩ := qw_at hC hw
        cases h1.symm.trans g1
        exact ⟨q0, g2, Option.some.inj h3⟩
    · exact ⟨q, h2, rfl⟩
  have hP' : va_P D cl ws' T'.heap := by
    intro k q hq
    have hq0 := hq
    rw [← hu] at hq
    rcases qw_upd_get isC w1 ws k q hq with ⟨j, h1, h2⟩ | ⟨h1, h2⟩
    · rw [e1]; exact hP1 j q h2
    · refine (hP k q h2).kept ?_
      rw [e1]
      refine hk q.1 (hP k q h2).lt (fun h => ?_)
      rcases h with ⟨k2, ee, h⟩ | h
      · obtain ⟨i, g1, g2⟩ := qw_at hC h
        have hij := hD.1 k i q (q.1, ee) h2 g2 rfl
        subst hij
        rcases h1 with h1 | h1
        · exact h1 (List.mem_of_getElem? g1)
        · omega
      · have := (hP k q h2).lt
        omega
  have hD' : va_D A0 ws' := by
    refine ⟨fun i j x y hi hj hxy => ?_, fun k q hq => ?_⟩
    · obtain ⟨x0, a1, a2⟩ := hsame i x hi
      obtain ⟨y0, b1, b2⟩ := hsame j y hj
      exact hD.1 i j x0 y0 a1 b1 (by rw [a2, b2, hxy])
    · obtain ⟨x0, a1, a2⟩ := hsame k q hq
      rw [← a2]; exact hD.2 k x0 a1
  subst hst
  obtain ⟨t2, a1, b1⟩ := kk T'.heap (locs ++ L) hP' hD'
    ⟨Nat.le_trans hS.1 (by rw [e1]; exact hz), fun q h1 h2 => by rw [e1, hk q (Nat.lt_of_lt_of_le h1 hS.1) (fun z => h2 (hF q z))]; exact hS.2.1 q h1 h2, fun q hq => by
      rcases List.mem_append.mp hq with h | h
      · exact hS.2.2 q h
      · exact hF _ (hL q h)⟩ T' rfl X'
  exact ⟨t2, st t2 a1, b1⟩
theorem qw_iret {v : Int32} {wB : va_W} {A : Nat → Prop} (hexec : p.tables.exec = Jvm.exec) (hb : c.code = cc) (hr : meth.sig.returnType = some .int) (hlocks : meth.locks = false) (hP : va_P D cl wB H) (hD : va_D A wB) (hS : va_S A s.heap H locs) (hdg : decode cc pc = .ok (.ireturn, 1)) :
    W p l e R s m args below meth c H locs cells slots (MQ below (qw_Q (some (.int v)) D cl wB A) args s cells slots A) (F0 m pc ls [.int v]) :=
  W.iret hexec hb hr (fun t ht _ => ⟨rfl, by rw [ht]; exact hP, hD, hS.F ht⟩) hS.2.2 hdg hlocks
theorem qw_zret {v : Int32} {wB : va_W} {A : Nat → Prop} (hexec : p.tables.exec = Jvm.exec) (hb : c.code = cc) (hr : meth.sig.returnType = some .boolean) (hlocks : meth.locks = false) (hn : v = 0 ∨ v = 1) (hP : va_P D cl wB H) (hD : va_D A wB) (hS : va_S A s.heap H locs) (hdg : decode cc pc = .ok (.ireturn, 1)) :
    W p l e R s m args below meth c H locs cells slots (MQ below (qw_Q (some (.int v)) D cl wB A) args s cells slots A) (F0 m pc ls [.int v]) :=
  W.zret hexec hb hr (by rcases hn with rfl | rfl <;> rfl) (fun t ht _ => ⟨rfl, by rw [ht]; exact hP, hD, hS.F ht⟩) hS.2.2 hdg hlocks
theorem qw_lret {v : Int64} {wB : va_W} {A : Nat → Prop} (hexec : p.tables.exec = Jvm.exec) (hb : c.code = cc) (hr : meth.sig.returnType = some .long) (hlocks : meth.locks = false) (hP : va_P D cl wB H) (hD : va_D A wB) (hS : va_S A s.heap H locs) (hdg : decode cc pc = .ok (.lreturn, 1)) :
    W p l e R s m args below meth c H locs cells slots (MQ below (qw_Q (some (.long v)) D cl wB A) args s cells slots A) (F0 m pc ls [.long v]) :=
  W.lret hexec hb hr (fun t ht _ => ⟨rfl, by rw [ht]; exact hP, hD, hS.F ht⟩) hS.2.2 hdg hlocks
theorem qw_vret {wB : va_W} {A : Nat → Prop} (hexec : p.tables.exec = Jvm.exec) (hb : c.code = cc) (hr : meth.sig.returnType = none) (hlocks : meth.locks = false) (hP : va_P D cl wB H) (hD : va_D A wB) (hS : va_S A s.heap H locs) (hdg : decode cc pc = .ok (.return_, 1)) :
    W p l e R s m args below meth c H locs cells slots (MQ below (qw_Q none D cl wB A) args s cells slots A) (F0 m pc ls []) :=
  W.vret hexec hb hr (fun t ht _ => ⟨rfl, by rw [ht]; exact hP, hD, hS.F ht⟩) hS.2.2 hdg hlocks
variable {y : MethodName} {bytes : ByteArray} {maxL nL n index : Nat} {ret : Option FieldType} {wsM : List Cond} {rm : Room} {Ts : List Cond} {own C : String} {b : Addr} {As : List Value} {r : Option Value}
theorem qw_callV (S : CallFix p m c cc nL s args Ts own) (hM : qM l y wsM rm X D cl tys wc (.ref b :: As) r w1) (cw : CallW R s args own C index y bytes maxL ret wsM rm 0 0 n) (hX : qx_ok X) (hK : va_K D cl tys s) (hP : va_P D cl ws H) (hD : va_D A0 ws) (hS : va_S A0 s.heap H locs) (hA : ∀ q, s.heap.size ≤ q → A0 q) (hXs : X A0 s s.heap) (isC : List Nat) (hC : isC.map (fun i => ws[i]?) = wc.map some) (hnd : va_nd isC = true) {ci : Nat} {fs : List Value} {qc : vw_C} (he : wc[0]? = some (b, .inr (ci, fs))) (hcl : cl[ci]? = some qc) (hqc : qc.1 = C) (hadr : w1.map (fun q => q.1) = wc.map (fun q => q.1)) (hu : qw_upd ws isC w1 = ws') (hlen : As.length = n) (hsz : ls.size = nL) (hst0 : st0 = As.reverse ++ .ref b :: rest) (hW : (rest.map fun v => v.category).sum ≤ 8) (hst : r.toList ++ rest = st1) (hroom : cells ≤ R.cells ∧ slots ≤ R.slots) (hdg : decode cc pc = .ok (.invokevirtual index, 3))
    (kk : ∀ (H1 : Heap) (locs1 : List Loc), va_P D cl ws' H1 → va_D A0 ws' → va_S A0 s.heap H1 locs1 → W p l e R s m args below meth c H1 locs1 cells slots Q (F0 m (pc + 3) ls st1)) : W p l e R s m args below meth c H locs cells slots Q (F0 m pc ls st0) := by
  have hpre := qw_pre (av := .ref b :: As) hX hK hP hD hS hA hXs isC hC hnd
  have hPc : va_P D cl wc H := fun k q hq => by obtain ⟨i, -, hi⟩ := qw_at hC hq; exact hP i q hi
  have hrecv := va_recv hK hPc hcl he
  rw [hqc] at hrecv
  exact qw_after (a := (Value.ref b :: As).toArray) (va_runV (As := As) (rest := rest) S (hM H.size) cw ⟨hpre.1, hrecv, hpre.2⟩ rfl hlen hsz hst0 (lv_room hW) hdg hroom) hP hD hS hA isC hC hadr hu hst kk
theorem qw_callS (S : CallFix p m c cc nL s args Ts own) (hM : qM l y wsM rm X D cl tys wc As r w1) (cw : CallB R s args own index y bytes maxL ret wsM rm 0 0 n ∧ (Cond.static y).before args s = true) (hX : qx_ok X) (hK : va_K D cl tys s) (hP : va_P D cl ws H) (hD : va_D A0 ws) (hS : va_S A0 s.heap H locs) (hA : ∀ q, s.heap.size ≤ q → A0 q) (hXs : X A0 s s.heap) (isC : List Nat) (hC : isC.map (fun i => ws[i]?) = wc.map some) (hnd : va_nd isC = true) (hadr : w1.map (fun q => q.1) = wc.map (fun q => q.1)) (hu : qw_upd ws isC w1 = ws') (hlen : As.length = n) (hsz : ls.size = nL) (hst0 : st0 = As.reverse ++ rest) (hW : (rest.map fun v => v.category).sum ≤ 8) (hst : r.toList ++ rest = st1) (hroom : cells ≤ R.cells ∧ slots ≤ R.slots) (hdg : decode cc pc = .ok (.invokestatic index, 3))
    (kk : ∀ (H1 : Heap) (locs1 : List Loc), va_P D cl ws' H1 → va_D A0 ws' → va_S A0 s.heap H1 locs1 → W p l e R s m args below meth c H1 locs1 cells slots Q (F0 m (pc + 3) ls st1)) : W p l e R s m args below meth c H locs cells slots Q (F0 m pc ls st0) := by
  have hpre := qw_pre (av := As) hX hK hP hD hS hA hXs isC hC hnd
  exact qw_after (a := As.toArray) (va_runS (As := As) (rest := rest) S (hM H.size) cw hpre rfl hlen hsz hst0 (lv_room hW) hdg hroom) hP hD hS hA isC hC hadr hu hst kk
end QWC
theorem qM_of {l : Launch} {y : MethodName} {ws ws' : List Cond} {rm : Room} {X : (Nat → Prop) → State → Heap → Prop} {D : va_G} {cl : List vw_C} {tys : List (ClassId × FieldType)} {wA : va_W} {av : List Value} {r : Option Value} {wB : va_W} {cc : ByteArray} {maxL : Nat} {ret : Option FieldType}
    (hy : plainName y.cls = true) (hw : ws = Cond.code y cc maxL ret :: ws') (hnl : (lg_sl av).length ≤ maxL)
    (body : ∀ (p : Program) (e : Env) (s : State) (m : MethodId) (args : Array Value) (below : List Frame) (meth : Method) (c : Code) (A : Nat → Prop) (ls : Array Slot) (Z : State → Prop), p.tables.exec = Jvm.exec → c.code = cc → c.maxLocals = maxL → meth.sig.returnType = ret → (∀ w ∈ ws, w.before args s = true) → s.vm.findClass y.cls = some m.cls → meth.locks = false → va_K D cl tys s → (∀ q, s.heap.size ≤ q → A q) → X A s s.heap → va_P D cl wA s.heap → va_D A wA → va_S A s.heap s.heap [] → lv_has ls maxL (lv_args 0 av) → Z = MQ below (qw_Q r D cl wB A) args s 0 0 A →
      W p l e rm s m args below meth c s.heap [] 0 0 Z (F0 m 0 ls [])) : qM l y ws rm X D cl tys wA av r wB := by
  intro sz
  refine Met.ofW (cc := cc) (maxL := maxL) (ret := ret) hy hw ?_
  intro p e s m args below meth c s₁ B hml hv
  obtain ⟨rfl, hsz, hP, hK, hD0, hX⟩ := hv
  subst hsz
  have hl := lv_entry av (n := maxL) hnl
  rw [lg_entry_eq]
  exact body p e s m _ below meth c (va_A wA s.heap.size) _ _ B.exec B.bytes hml B.returns (atoms_spec (ws := ws) B.pre) (findClass_of_methodNamed B.named) B.notSynchronized hK (fun q h => Or.inr h) hX hP hD0.self va_S.rf hl rfl
/-! indexes -/
theorem qw_in0 {x : Int32} {n : Nat} (h1 : ¬ x < 0) (h2 : x.toNatClampNeg < n) : vp_in x n := fun h => h.elim h1 (fun h => absurd h (Nat.not_le.mpr h2))
theorem qw_inAA {x m : Int32} {n : Nat} (h1 : ¬ x < 0) (h2 : ¬ m ≤ x) (hm : m.toInt = n) : vp_in x n := by
  rw [vp_in_iff]
  have a1 : ¬ x.toInt < 0 := fun h => h1 (Int32.lt_iff_toInt_lt.mpr (by simpa using h))
  have a2 : ¬ m.toInt ≤ x.toInt := fun h => h2 (Int32.le_iff_toInt_le.mpr h)
  omega
theorem qw_inAB {x m : Int32} {n : Nat} (h1 : ¬ x < 0) (h2 : x < m) (hm : m.toInt = n) : vp_in x n := qw_inAA h1 (fun h => absurd (Int32.lt_iff_toInt_lt.mp h2) (Int.not_lt.mpr (Int32.le_iff_toInt_le.mp h))) hm
theorem qw_inBA {x m : Int32} {n : Nat} (h1 : 0 ≤ x) (h2 : ¬ m ≤ x) (hm : m.toInt = n) : vp_in x n := qw_inAA (fun h => absurd (Int32.lt_iff_toInt_lt.mp h) (Int.not_lt.mpr (Int32.le_iff_toInt_le.mp h1))) h2 hm
theorem qw_inBB {x m : Int32} {n : Nat} (h1 : 0 ≤ x) (h2 : x < m) (hm : m.toInt = n) : vp_in x n := qw_inAB (fun h => absurd (Int32.lt_iff_toInt_lt.mp h) (Int.not_lt.mpr (Int32.le_iff_toInt_le.mp h1))) h2 hm
/-! measures of loops -/
theorem qw_up {x w : Int32} {n : Nat} (hm : (w.toInt - x.toInt).toNat < n + 1) (c : ¬ w ≤ x) : (w.toInt - (x + 1).toInt).toNat < n := by
  have a2 : ¬ w.toInt ≤ x.toInt := fun h => c (Int32.le_iff_toInt_le.mpr h)
  have h1 := w.toInt_lt
  have h2 := x.le_toInt
  have h3 : (x + 1).toInt = x.toInt + 1 := by
    rw [Int32.toInt_add]
    show (x.toInt + 1).bmod (2 ^ 32) = _
    exact Int.bmod_eq_of_le (by omega) (by omega)
  omega
theorem qw_down {x : Int32} {n : Nat} (hm : (x.toInt + 1).toNat < n + 1) (c : ¬ x < 0) : ((x + (-1 : Int32)).toInt + 1).toNat < n := by
  have a1 : ¬ x.toInt < 0 := fun h => c (Int32.lt_iff_toInt_lt.mpr (by simpa using h))
  have h1 := x.toInt_lt
  have h3 : (x + (-1 : Int32)).toInt = x.toInt - 1 := by
    rw [Int32.toInt_add]
    show (x.toInt + (-1)).bmod (2 ^ 32) = _
    rw [Int.bmod_eq_of_le (by omega) (by omega)]
    omega
  omega
theorem qw_b01n {x : Int32} (h : x = 0 ∨ x = 1) : narrow .boolean (.int x) = .int x := by rcases h with rfl | rfl <;> rfl
theorem qw_b01f {x : Int32} (h : x = 0 ∨ x = 1) : fits .boolean (.int x) = true := by rcases h with rfl | rfl <;> rfl
/-! bounds of numbers -/
abbrev qv (lo hi : Int) (x : Int32) : Prop := lo ≤ x.toInt ∧ x.toInt ≤ hi
theorem qv_w {lo hi lo' hi' : Int} {x : Int32} (h : qv lo hi x) (a : lo' ≤ lo) (b : hi ≤ hi') : qv lo' hi' x := ⟨Int.le_trans a h.1, Int.le_trans h.2 b⟩
theorem qv_in {lo hi : Int} {x : Int32} {n : Nat} (h : qv lo hi x) (a : 0 ≤ lo) (b : hi < (n : Int)) : vp_in x n := by
  rw [vp_in_iff]
  obtain ⟨h1, h2⟩ := h
  omega
theorem qv_h1 {x a : Int32} {h : Int} (c : x < a) (e : a.toInt ≤ h + 1) : x.toInt ≤ h := by have := Int32.lt_iff_toInt_lt.mp c; omega
theorem qv_h2 {x a : Int32} {h : Int} (c : x ≤ a) (e : a.toInt ≤ h) : x.toInt ≤ h := by have := Int32.le_iff_toInt_le.mp c; omega
theorem qv_h3 {x a : Int32} {h : Int} (c : ¬ a < x) (e : a.toInt ≤ h) : x.toInt ≤ h := by
  have : ¬ a.toInt < x.toInt := fun q => c (Int32.lt_iff_toInt_lt.mpr q)
  omega
theorem qv_h4 {x a : Int32} {h : Int} (c : ¬ a ≤ x) (e : a.toInt ≤ h + 1) : x.toInt ≤ h := by
  have : ¬ a.toInt ≤ x.toInt := fun q => c (Int32.le_iff_toInt_le.mpr q)
  omega
theorem qv_l1 {x a : Int32} {l : Int} (c : ¬ x < a) (e : l ≤ a.toInt) : l ≤ x.toInt := by
  have : ¬ x.toInt < a.toInt := fun q => c (Int32.lt_iff_toInt_lt.mpr q)
  omega
theorem qv_l2 {x a : Int32} {l : Int} (c : ¬ x ≤ a) (e : l ≤ a.toInt + 1) : l ≤ x.toInt := by
  have : ¬ x.toInt ≤ a.toInt := fun q => c (Int32.le_iff_toInt_le.mpr q)
  omega
theorem qv_l3 {x a : Int32} {l : Int} (c : a < x) (e : l ≤ a.toInt + 1) : l ≤ x.toInt := by have := Int32.lt_iff_toInt_lt.mp c; omega
theorem qv_l4 {x a : Int32} {l : Int} (c : a ≤ x) (e : l ≤ a.toInt) : l ≤ x.toInt := by have := Int32.le_iff_toInt_le.mp c; omega
theorem qv_bm {z : Int} (h1 : -2147483648 ≤ z) (h2 : z < 2147483648) : z.bmod (2 ^ 32) = z := by
  apply Int.bmod_eq_of_le <;> omega
theorem qv_add {a b c d lo hi : Int} {x y : Int32} (h1 : qv a b x) (h2 : qv c d y) (e1 : lo ≤ a + c) (e2 : b + d ≤ hi) (e3 : -2147483648 ≤ a + c) (e4 : b + d < 2147483648) : qv lo hi (x + y) := by
  obtain ⟨p1, p2⟩ := h1
  obtain ⟨p3, p4⟩ := h2
  have h : (x + y).toInt = x.toInt + y.toInt := by rw [Int32.toInt_add]; exact qv_bm (by omega) (by omega)
  constructor <;> omega
theorem qv_sub {a b c d lo hi : Int} {x y : Int32} (h1 : qv a b x) (h2 : qv c d y) (e1 : lo ≤ a - d) (e2 : b - c ≤ hi) (e3 : -2147483648 ≤ a - d) (e4 : b - c < 2147483648) : qv lo hi (x - y) := by
  obtain ⟨p1, p2⟩ := h1
  obtain ⟨p3, p4⟩ := h2
  have h : (x - y).toInt = x.toInt - y.toInt := by rw [Int32.toInt_sub]; exact qv_bm (by omega) (by omega)
  constructor <;> omega
theorem qv_mul {a b lo hi k : Int} {x kk : Int32} (h : qv a b x) (ek : kk.toInt = k) (k0 : 0 ≤ k) (e1 : lo ≤ k * a ∧ k * b ≤ hi) (e3 : -2147483648 ≤ k * a) (e4 : k * b < 2147483648) : qv lo hi (kk * x) := by
  obtain ⟨p1, p2⟩ := h
  have g1 : k * a ≤ k * x.toInt := Int.mul_le_mul_of_nonneg_left p1 k0
  have g2 : k * x.toInt ≤ k * b := Int.mul_le_mul_of_nonneg_left p2 k0
  have h : (kk * x).toInt = k * x.toInt := by rw [Int32.toInt_mul, ek]; exact qv_bm (by omega) (by omega)
  constructor <;> omega
theorem qv_ub {lo hi h : Int} {x : Int32} (q : qv lo hi x) (e : hi ≤ h) : x.toInt ≤ h := Int.le_trans q.2 e
theorem qv_lb {lo hi l : Int} {x : Int32} (q : qv lo hi x) (e : l ≤ lo) : l ≤ x.toInt := Int.le_trans e q.1
theorem qv_shr {a b lo hi : Int} {x kk : Int32} {k : Nat} (h : qv a b x) (hs : ((kk &&& 31).toBitVec.smod 32).toNat = k) (a0 : 0 ≤ a) (e1 : lo ≤ a / 2 ^ k) (e2 : b / 2 ^ k ≤ hi) : qv lo hi (x >>> (kk &&& 31)) := by
  obtain ⟨p1, p2⟩ := h
  have hp : (0 : Int) < 2 ^ k := Int.pow_pos (by decide)
  have g : (x >>> (kk &&& 31)).toInt = x.toInt / 2 ^ k := by
    rw [pk_shr x (kk &&& 31) k hs, Int.shiftRight_eq_div_pow]
    rfl
  have g1 : a / 2 ^ k ≤ x.toInt / 2 ^ k := Int.ediv_le_ediv hp p1
  have g2 : x.toInt / 2 ^ k ≤ b / 2 ^ k := Int.ediv_le_ediv hp p2
  constructor <;> omega
theorem qv_rel {a b c d lo hi : Int} {x t y : Int32} (h : x.toInt = t.toInt + y.toInt) (ht : qv a b t) (hy : qv c d y) (e1 : lo ≤ a + c) (e2 : b + d ≤ hi) : qv lo hi x := by
  obtain ⟨p1, p2⟩ := ht
  obtain ⟨p3, p4⟩ := hy
  constructor <;> omega
