/-! methods that return or throw IllegalArgumentException, told whole -/
def xIAE : String := "java/lang/IllegalArgumentException"
def xNM : List String := ["java/lang/RuntimeException", "java/lang/Exception"]
abbrev qrx (f n : Nat) : Room := { frames := f, cells := 1, slots := 6, locals := n }
def qX2 (t sa1 sa2 : Nat) (A : Nat → Prop) (U : State) (H : Heap) : Prop := qX t A U H ∧ vx_Zq Bundle.tN "UNASSIGNED_STACK" Bundle.steD A U H ∧ vx_Zq Bundle.tN "SUPPRESSED_SENTINEL" Bundle.listD A U H ∧ vk_R RX6 96 "no bytes tell these fields" sa1 U ∧ vk_R RX6 117 "the bytes begin with no instruction" sa2 U ∧
  va_Nw (.castable "java/lang/IllegalArgumentException" "java/lang/IllegalArgumentException") U ∧ va_Nw (.declares ⟨"java/lang/RuntimeException", "<init>", "(Ljava/lang/String;)V"⟩) U ∧ va_Nw (.declares ⟨"java/lang/Exception", "<init>", "(Ljava/lang/String;)V"⟩) U ∧ va_Nw (.declares ⟨"java/lang/Throwable", "<init>", "(Ljava/lang/String;)V"⟩) U
theorem qX2_ok (t sa1 sa2 : Nat) : qx_ok (qX2 t sa1 sa2) := by
  obtain ⟨⟨k1, k2⟩, k3, k4⟩ := qX_ok t
  refine ⟨⟨fun A u U H hW h => ?_, fun A u U H he h => ?_⟩, fun A U H H1 h hq => ?_, fun A B U H h hAB => ?_⟩
  · obtain ⟨h0, h1, h2, h3, h4, h5, h6, h7, h8⟩ := h
    exact ⟨k1 A u U H hW h0, vx_Zq.moved hW.alike h1, vx_Zq.moved hW.alike h2, vk_R.warm hW h3, vk_R.warm hW h4, va_Nw.warmC hW h5, va_Nw.warmD hW h6, va_Nw.warmD hW h7, va_Nw.warmD hW h8⟩
  · obtain ⟨h0, h1, h2, h3, h4, h5, h6, h7, h8⟩ := h
    exact ⟨k2 A u U H he h0, vx_Zq.moved (by rw [he]; exact Vm.Alike.refl U.vm) h1, vx_Zq.moved (by rw [he]; exact Vm.Alike.refl U.vm) h2, vk_R.same he.symm h3, vk_R.same he.symm h4, va_Nw.same rfl he h5, va_Nw.same rfl he h6, va_Nw.same rfl he h7, va_Nw.same rfl he h8⟩
  · obtain ⟨h0, h1, h2, h3⟩ := h
    exact ⟨k3 A U H H1 h0 hq, h1.kept hq, h2.kept hq, h3⟩
  · obtain ⟨h0, h1, h2, h3⟩ := h
    exact ⟨k4 A B U H h0 hAB, h1.narrow hAB, h2.narrow hAB, h3⟩
def qx_Q (thr r : Int32) (D : va_G) (cl : List vw_C) (wB : va_W) (A : Nat → Prop) : Array Value → State → Outcome → State → Prop := fun a st oc t => thr = 0 ∧ qw_Q (some (.int r)) D cl wB A a st oc t
def qx_X (thr : Int32) (D : va_G) (cl : List vw_C) (wB : va_W) (A : Nat → Prop) : String → State → State → Prop := fun E st t => thr = 1 ∧ E = "java/lang/IllegalArgumentException" ∧ va_P D cl wB t.heap ∧ va_D A wB ∧ va_F A st t
def qMX (l : Launch) (y : MethodName) (ws : List Cond) (rm : Room) (X : (Nat → Prop) → State → Heap → Prop) (D : va_G) (cl : List vw_C) (tys : List (ClassId × FieldType)) (wA : va_W) (av : List Value) (thr r : Int32) (wB : va_W) : Prop :=
  ∀ sz : Nat, vx_Met l y ws rm (qw_P X D cl tys wA av sz) (qx_Q thr r D cl wB (va_A wA sz)) (qx_X thr D cl wB (va_A wA sz)) 1 6 (va_A wA sz)
theorem qMX_of {l : Launch} {y : MethodName} {ws ws' : List Cond} {rm : Room} {X : (Nat → Prop) → State → Heap → Prop} {D : va_G} {cl : List vw_C} {tys : List (ClassId × FieldType)} {wA : va_W} {av : List Value} {thr r : Int32} {wB : va_W} {cc : ByteArray} {maxL : Nat} {ret : Option FieldType}
    (hy : plainName y.cls = true) (hw : ws = Cond.code y cc maxL ret :: ws') (hnl : (lg_sl av).length ≤ maxL)
    (body : ∀ (p : Program) (e : Env) (s : State) (m : MethodId) (args : Array Value) (below : List Frame) (meth : Method) (c : Code) (A : Nat → Prop) (ls : Array Slot) (Z : State → Prop), p.tables.exec = Jvm.exec → c.code = cc → c.maxLocals = maxL → meth.sig.returnType = ret → (∀ w ∈ ws, w.before args s = true) → s.vm.findClass y.cls = some m.cls → meth.locks = false → (∀ x ∈ c.exceptionTable.toList, False) → va_K D cl tys s → (∀ q, s.heap.size ≤ q → A q) → X A s s.heap → va_P D cl wA s.heap → va_D A wA → va_S A s.heap s.heap [] → lv_has ls maxL (lv_args 0 av) → Z = vx_MQ below (qx_Q thr r D cl wB A) (qx_X thr D cl wB A) args s 1 6 A →
      W p l e rm s m args below meth c s.heap [] 0 0 Z (F0 m 0 ls [])) : qMX l y ws rm X D cl tys wA av thr r wB := by
  intro sz
  refine vx_ofW (cc := cc) (maxL := maxL) (ret := ret) hy hw ?_
  intro p e s m args below meth c s₁ B hml hex hv
  obtain ⟨rfl, hsz, hP, hK, hD0, hX⟩ := hv
  subst hsz
  have hl := lv_entry av (n := maxL) hnl
  rw [lg_entry_eq]
  exact body p e s m _ below meth c (va_A wA s.heap.size) _ _ B.exec B.bytes hml B.returns (atoms_spec (ws := ws) B.pre) (findClass_of_methodNamed B.named) B.notSynchronized hex hK (fun q h => Or.inr h) hX hP hD0.self va_S.rf hl rfl
section QXC
variable {p : Program} {l : Launch} {e : Env} {R : Room} {s : State} {m : MethodId} {args : Array Value} {below : List Frame} {meth : Method} {c : Code} {H : Heap} {locs : List Loc} {cells slots : Nat} {Q : State → Prop}
variable {cc : ByteArray} {pc : Nat} {ls : Array Slot} {rest st0 st1 : List Value} {a : Array Value} {A0 : Nat → Prop} {H0 : Heap}
variable {D : va_G} {cl : List vw_C} {tys : List (ClassId × FieldType)} {ws wc w1 ws' : va_W} {X : (Nat → Prop) → State → Heap → Prop}
theorem qx_iret {v : Int32} {wB : va_W} {A : Nat → Prop} {XC : String → State → State → Prop} (hexec : p.tables.exec = Jvm.exec) (hb : c.code = cc) (hr : meth.sig.returnType = some .int) (hlocks : meth.locks = false) (hP : va_P D cl wB H) (hD : va_D A wB) (hS : va_S A s.heap H locs) (hdg : decode cc pc = .ok (.ireturn, 1)) :
    W p l e R s m args below meth c H locs 0 0 (vx_MQ below (qx_Q 0 v D cl wB A) XC args s 1 6 A) (F0 m pc ls [.int v]) :=
  vx_ret (W.widen (k := 1) (n := 6) (by decide) (by decide) (W.iret hexec hb hr (fun t ht _ => ⟨rfl, rfl, by rw [ht]; exact hP, hD, hS.F ht⟩) hS.2.2 hdg hlocks))
theorem qx_xend {wB : va_W} {A : Nat → Prop} (hP : va_P D cl wB H) (hD : va_D A wB) (hS : va_S A s.heap H locs) : ∀ t : State, s.vm.Alike t.vm → H.size ≤ t.heap.size → (∀ q : Nat, q < H.size → t.heap[q]? = H[q]?) → qx_X 1 D cl wB A "java/lang/IllegalArgumentException" s t := by
  intro t _ hz hk
  exact ⟨rfl, rfl, fun k q hq => (hP k q hq).kept (hk q.1 (hP k q hq).lt), hD, Nat.le_trans hS.1 hz, fun q h1 h2 => by rw [hk q (Nat.lt_of_lt_of_le h1 hS.1)]; exact hS.2.1 q h1 h2⟩
/-- the callee's cells as it left them, in their places -/
theorem qx_world {H1 : Heap} (hP : va_P D cl ws H) (hD : va_D A0 ws) (isC : List Nat) (hC : isC.map (fun i => ws[i]?) = wc.map some) (hadr : w1.map (fun q => q.1) = wc.map (fun q => q.1)) (hu : qw_upd ws isC w1 = ws') (hP1 : va_P D cl w1 H1) (hk : ∀ q : Nat, q < H.size → ¬ va_A wc H.size q → H1[q]? = H[q]?) : va_P D cl ws' H1 ∧ va_D A0 ws' := by
  have hlen : w1.length = isC.length := by
    have h1 := congrArg List.length hC
    have h2 := congrArg List.length hadr
    simp at h1 h2
    omega
  have hsame : ∀ (k : Nat) (q : Nat × va_E), ws'[k]? = some q → ∃ q0, ws[k]? = some q0 ∧ q0.1 = q.1 := by
    intro k q hq
    rw [← hu] at hq
    rcases qw_upd_get isC w1 ws k q hq with ⟨j, h1, h2⟩ | ⟨-, h2⟩
    · have h3 : (wc.map (fun q => q.1))[j]? = some q.1 := by rw [← hadr, List.getElem?_map, h2]; rfl
      rw [List.getElem?_map] at h3
      cases hw : wc[j]? with
      | none => rw [hw] at h3; cases h3
      | some q0 =>
        rw [hw] at h3
        obtain ⟨i, g1, g2⟩ := qw_at hC hw
        cases h1.symm.trans g1
        exact ⟨q0, g2, Option.some.inj h3⟩
    · exact ⟨q, h2, rfl⟩
  refine ⟨fun k q hq => ?_, fun i j x y hi hj hxy => ?_, fun k q hq => ?_⟩
  · rw [← hu] at hq
    rcases qw_upd_get isC w1 ws k q hq with ⟨j, h1, h2⟩ | ⟨h1, h2⟩
    · exact hP1 j q h2
    · refine (hP k q h2).kept (hk q.1 (hP k q h2).lt (fun h => ?_))
      rcases h with ⟨k2, ee, h⟩ | h
      · obtain ⟨i, g1, g2⟩ := qw_at hC h
        have hij := hD.1 k i q (q.1, ee) h2 g2 rfl
        subst hij
        rcases h1 with h1 | h1
        · exact h1 (List.mem_of_getElem? g1)
        · omega
      · have := (hP k q h2).lt
        omega
  · obtain ⟨x0, a1, a2⟩ := hsame i x hi
    obtain ⟨y0, b1, b2⟩ := hsame j y hj
    exact hD.1 i j x0 y0 a1 b1 (by rw [a2, b2, hxy])
  · obtain ⟨x0, a1, a2⟩ := hsame k q hq
    rw [← a2]; exact hD.2 k x0 a1
variable {y : MethodName} {bytes : ByteArray} {maxL nL n index : Nat} {ret : Option FieldType} {wsM : List Cond} {rm : Room} {Ts : List Cond} {own C : String} {b : Addr} {As : List Value} {thr r : Int32}
/-- a call that returns or throws -/
theorem qx_callV (S : CallFix p m c cc nL s args Ts own) (hM : qMX l y wsM rm X D cl tys wc (.ref b :: As) thr r w1) (cw : CallW R s args own C index y bytes maxL ret wsM rm 1 6 n) (hX : qx_ok X) (hK : va_K D cl tys s) (hP : va_P D cl ws H) (hD : va_D A0 ws) (hS : va_S A0 s.heap H locs) (hA : ∀ q, s.heap.size ≤ q → A0 q) (hXs : X A0 s s.heap) (isC : List Nat) (hC : isC.map (fun i => ws[i]?) = wc.map some) (hnd : va_nd isC = true) {ci : Nat} {fs : List Value} {qc : vw_C} (he : wc[0]? = some (b, .inr (ci, fs))) (hcl : cl[ci]? = some qc) (hqc : qc.1 = C) (hadr : w1.map (fun q => q.1) = wc.map (fun q => q.1)) (hu : qw_upd ws isC w1 = ws') (hlen : As.length = n) (hsz : ls.size = nL) (hst0 : st0 = As.reverse ++ .ref b :: rest) (hW : (rest.map fun v => v.category).sum ≤ 8) (hroom : cells + 1 ≤ R.cells ∧ slots + 6 ≤ R.slots) (hdg : decode cc pc = .ok (.invokevirtual index, 3))
    (kx : thr = 1 → ∀ (ce : Cell) (q9 : Addr) (H1 : Heap) (locs1 : List Loc), va_P D cl ws' H1 → va_D A0 ws' → va_S A0 s.heap H1 locs1 → H1[q9]? = some ce → ce.vm = .none → s.vm.findClass "java/lang/IllegalArgumentException" = some ce.cls → vx_W p l e R s m args below meth c H1 locs1 (cells + 1) (slots + 6) Q (F0 m pc ls rest) q9)
    (kk : thr = 0 → ∀ (H1 : Heap) (locs1 : List Loc), va_P D cl ws' H1 → va_D A0 ws' → va_S A0 s.heap H1 locs1 → W p l e R s m args below meth c H1 locs1 (cells + 1) (slots + 6) Q (F0 m (pc + 3) ls (.int r :: rest))) : W p l e R s m args below meth c H locs cells slots Q (F0 m pc ls st0) := by
  have hpre := qw_pre (av := .ref b :: As) hX hK hP hD hS hA hXs isC hC hnd
  have hPc : va_P D cl wc H := fun k q hq => by obtain ⟨i, -, hi⟩ := qw_at hC hq; exact hP i q hi
  have hrecv := va_recv hK hPc hcl he
  rw [hqc] at hrecv
  have hF := va_free hD hS hA isC hC
  have hr := vx_runV (e := e) (locs := locs) (meth := meth) (below := below) (As := As) (rest := rest) (g := F0 m pc ls st0) S (hM H.size) cw ⟨hpre.1, hrecv, hpre.2⟩ rfl hlen hsz hst0 (lv_room hW) hdg hroom
  intro T hT Y
  rcases hr T hT Y with ⟨v, st₀, t, T', L, h0, X', hL, e1, e2, ⟨hthr, hv, hP1, hD1, hFr⟩, st⟩ | ⟨q, st₀, t, T', L, E, ce, h0, X', hL, e1, e2, ⟨hthr, hE, hP1, hD1, hFr⟩, hce, hcv, hcls, st⟩
  · cases hv
    obtain ⟨k1, k2, k3⟩ := vx_keep h0 e1 hS (fun q _ h => hF q h) hF hL hFr
    obtain ⟨hP', hD'⟩ := qx_world hP hD isC hC hadr hu (by rw [e1]; exact hP1) k2
    obtain ⟨t2, a1, b1⟩ := kk hthr T'.heap (locs ++ L) hP' hD' k3 T' rfl X'
    exact ⟨t2, st t2 a1, b1⟩
  · subst hE
    obtain ⟨k1, k2, k3⟩ := vx_keep h0 e1 hS (fun q _ h => hF q h) hF hL hFr
    obtain ⟨hP', hD'⟩ := qx_world hP hD isC hC hadr hu (by rw [e1]; exact hP1) k2
    obtain ⟨t2, a1, b1⟩ := kx hthr ce q T'.heap (locs ++ L) hP' hD' k3 (by rw [e1]; exact hce) hcv hcls T' rfl X'
    exact ⟨t2, st.trans a1, b1⟩
end QXC
