/-! the law's two helpers, which catch what the class throws -/
theorem met_ofWH {l : Launch} {y : MethodName} {ws ws' : List Cond} {rm : Room} {Pc : Array Value → State → Prop} {Qc : Array Value → State → Outcome → State → Prop} {mc ms : Nat} {free : Addr → Prop} {cc : ByteArray} {maxL : Nat} {ret : Option FieldType} {hh : List (Nat × Nat × Nat × Nat)}
    (hy : plainName y.cls = true) (hw : ws = Cond.codeWith y cc maxL ret hh :: ws')
    (body : ∀ p e s m args below meth c s₁, BodyLoose p l y (headSpec ws rm) cc maxL ret e s m args below meth c s₁ → c.maxLocals = maxL → c.exceptionTable.toList = tableOf hh → Pc args s →
      W p l e (headSpec ws rm).room s m args below meth c s.heap [] 0 0 (MQ below Qc args s mc ms free) (entryFrame m args maxL)) : Met l y ws rm Pc Qc mc ms free := by
  refine MetFree.of_bodyS (code := cc) (maxLocals := maxL) (ret := ret) hy ?_ ?_
  · intro args s m h hn
    obtain ⟨m9, meth, c, hn9, h1, h2, h3, h4, -, h5, h6, -⟩ := Cond.codeWith_spec (atoms_spec (ws := ws) h _ (by rw [hw]; exact List.mem_cons_self))
    cases hn.symm.trans hn9
    exact ⟨meth, c, h1, h2, h3, h4, h5, h6⟩
  · intro p e s m args below meth c s₁ B hml hP _
    have hh0 : s₁.heap = s.heap := by rw [B.state]; rfl
    have ht : c.exceptionTable.toList = tableOf hh := vx_table (x := y) B (atoms_spec (ws := ws) B.pre _ (by rw [hw]; exact List.mem_cons_self))
    obtain ⟨t, a1, o, b1, b2, b3⟩ := body p e s m args below meth c s₁ B hml ht hP s₁ hh0 (Stand.of_body B)
    exact ⟨t, o, a1, b1, b2, b3⟩
def qE (l : Launch) (y : MethodName) (ws : List Cond) (rm : Room) (X : (Nat → Prop) → State → Heap → Prop) (D : va_G) (cl : List vw_C) (tys : List (ClassId × FieldType)) (wA : va_W) (av : List Value) (r : Int32) (wB : va_W) : Prop :=
  ∀ sz : Nat, Met l y ws rm (qw_P X D cl tys wA av sz) (qw_Q (some (.int r)) D cl wB (va_A wA sz)) 1 6 (va_A wA sz)
theorem qE_of {l : Launch} {y : MethodName} {ws ws' : List Cond} {rm : Room} {X : (Nat → Prop) → State → Heap → Prop} {D : va_G} {cl : List vw_C} {tys : List (ClassId × FieldType)} {wA : va_W} {av : List Value} {r : Int32} {wB : va_W} {cc : ByteArray} {maxL : Nat} {ret : Option FieldType} {hh : List (Nat × Nat × Nat × Nat)}
    (hy : plainName y.cls = true) (hw : ws = Cond.codeWith y cc maxL ret hh :: ws') (hnl : (lg_sl av).length ≤ maxL)
    (body : ∀ (p : Program) (e : Env) (s : State) (m : MethodId) (args : Array Value) (below : List Frame) (meth : Method) (c : Code) (A : Nat → Prop) (ls : Array Slot) (Z : State → Prop), p.tables.exec = Jvm.exec → c.code = cc → c.maxLocals = maxL → meth.sig.returnType = ret → (∀ w ∈ ws, w.before args s = true) → s.vm.findClass y.cls = some m.cls → meth.locks = false → c.exceptionTable.toList = tableOf hh → va_K D cl tys s → (∀ q, s.heap.size ≤ q → A q) → X A s s.heap → va_P D cl wA s.heap → va_D A wA → va_S A s.heap s.heap [] → lv_has ls maxL (lv_args 0 av) → Z = MQ below (qw_Q (some (.int r)) D cl wB A) args s 1 6 A →
      W p l e rm s m args below meth c s.heap [] 0 0 Z (F0 m 0 ls [])) : qE l y ws rm X D cl tys wA av r wB := by
  intro sz
  refine met_ofWH (cc := cc) (maxL := maxL) (ret := ret) (hh := hh) hy hw ?_
  intro p e s m args below meth c s₁ B hml htb hv
  obtain ⟨rfl, hsz, hP, hK, hD0, hX⟩ := hv
  subst hsz
  have hl := lv_entry av (n := maxL) hnl
  rw [lg_entry_eq]
  exact body p e s m _ below meth c (va_A wA s.heap.size) _ _ B.exec B.bytes hml B.returns (atoms_spec (ws := ws) B.pre) (findClass_of_methodNamed B.named) B.notSynchronized htb hK (fun q h => Or.inr h) hX hP hD0.self va_S.rf hl rfl
section QEC
variable {p : Program} {l : Launch} {e : Env} {R : Room} {s : State} {m : MethodId} {args : Array Value} {below : List Frame} {meth : Method} {c : Code} {H : Heap} {locs : List Loc} {cells slots : Nat} {Q : State → Prop}
variable {cc : ByteArray} {pc : Nat} {ls : Array Slot} {rest st0 : List Value} {A0 : Nat → Prop}
variable {D : va_G} {cl : List vw_C} {tys : List (ClassId × FieldType)} {ws wc w1 ws' : va_W} {X : (Nat → Prop) → State → Heap → Prop}
theorem qe_iret {v : Int32} {wB : va_W} {A : Nat → Prop} {k n : Nat} (hexec : p.tables.exec = Jvm.exec) (hb : c.code = cc) (hr : meth.sig.returnType = some .int) (hlocks : meth.locks = false) (hP : va_P D cl wB H) (hD : va_D A wB) (hS : va_S A s.heap H locs) (hdg : decode cc pc = .ok (.ireturn, 1)) :
    W p l e R s m args below meth c H locs k n (MQ below (qw_Q (some (.int v)) D cl wB A) args s k n A) (F0 m pc ls [.int v]) :=
  W.iret hexec hb hr (fun t ht _ => ⟨rfl, by rw [ht]; exact hP, hD, hS.F ht⟩) hS.2.2 hdg hlocks
variable {y : MethodName} {bytes : ByteArray} {maxL nL n index : Nat} {ret : Option FieldType} {hh : List (Nat × Nat × Nat × Nat)} {wsM : List Cond} {rm : Room} {Ts : List Cond} {own : String} {As : List Value} {r : Int32}
theorem qe_callS (S : CallFix p m c cc nL s args Ts own) (hM : qE l y wsM rm X D cl tys wc As r w1) (cw : vx_CSW R s args own index y bytes maxL ret hh wsM rm 1 6 n) (hX : qx_ok X) (hK : va_K D cl tys s) (hP : va_P D cl ws H) (hD : va_D A0 ws) (hS : va_S A0 s.heap H locs) (hA : ∀ q, s.heap.size ≤ q → A0 q) (hXs : X A0 s s.heap) (isC : List Nat) (hC : isC.map (fun i => ws[i]?) = wc.map some) (hnd : va_nd isC = true) (hadr : w1.map (fun q => q.1) = wc.map (fun q => q.1)) (hu : qw_upd ws isC w1 = ws') (hlen : As.length = n) (hsz : ls.size = nL) (hst0 : st0 = As.reverse ++ rest) (hW : (rest.map fun v => v.category).sum ≤ 8) (hroom : cells + 1 ≤ R.cells ∧ slots + 6 ≤ R.slots) (hdg : decode cc pc = .ok (.invokestatic index, 3))
    (kk : ∀ (H1 : Heap) (locs1 : List Loc), va_P D cl ws' H1 → va_D A0 ws' → va_S A0 s.heap H1 locs1 → W p l e R s m args below meth c H1 locs1 (cells + 1) (slots + 6) Q (F0 m (pc + 3) ls (.int r :: rest))) : W p l e R s m args below meth c H locs cells slots Q (F0 m pc ls st0) := by
  have hpre := qw_pre (av := As) hX hK hP hD hS hA hXs isC hC hnd
  have hF := va_free hD hS hA isC hC
  have hr := vx_runSW (e := e) (locs := locs) (meth := meth) (below := below) (As := As) (rest := rest) (g := F0 m pc ls st0) S (hM H.size) cw hpre rfl hlen hsz hst0 (lv_room hW) hdg hroom
  intro T hT Y
  obtain ⟨v, st₀, t, T', L, h0, X', hL, e1, e2, ⟨hv, hP1, hD1, hFr⟩, st⟩ := hr T hT Y
  cases hv
  obtain ⟨k1, k2, k3⟩ := vx_keep h0 e1 hS (fun q _ h => hF q h) hF hL hFr
  obtain ⟨hP', hD'⟩ := qx_world hP hD isC hC hadr hu (by rw [e1]; exact hP1) k2
  obtain ⟨t2, a1, b1⟩ := kk T'.heap (locs ++ L) hP' hD' k3 T' rfl X'
  exact ⟨t2, st t2 a1, b1⟩
end QEC
