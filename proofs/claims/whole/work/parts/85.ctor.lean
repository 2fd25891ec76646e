/-! constructors: methods that make cells, told whole -/
abbrev qrn (f k n lo : Nat) : Room := { frames := f, cells := k, slots := n, locals := lo }
def qN (l : Launch) (y : MethodName) (ws : List Cond) (rm : Room) (X : (Nat → Prop) → State → Heap → Prop) (D : va_G) (cl : List vw_C) (tys : List (ClassId × FieldType)) (wA : va_W) (av : List Value) (wB : (Nat → Nat) → va_W) (mc ms : Nat) : Prop :=
  ∀ sz : Nat, Met l y ws rm (qw_P X D cl tys wA av sz) (va_Qv (fun _ : Nat → Nat => True) (fun a t => va_P D cl (wB a) t.heap ∧ va_D (va_A wA sz) (wB a)) (va_A wA sz)) mc ms (va_A wA sz)
theorem qN_of {l : Launch} {y : MethodName} {ws ws' : List Cond} {rm : Room} {X : (Nat → Prop) → State → Heap → Prop} {D : va_G} {cl : List vw_C} {tys : List (ClassId × FieldType)} {wA : va_W} {av : List Value} {wB : (Nat → Nat) → va_W} {mc ms : Nat} {cc : ByteArray} {maxL : Nat}
    (hy : plainName y.cls = true) (hw : ws = Cond.code y cc maxL none :: ws') (hy1 : y.name = "<init>") (hnl : (lg_sl av).length ≤ maxL)
    (body : ∀ (p : Program) (e : Env) (s : State) (m : MethodId) (args : Array Value) (below : List Frame) (meth : Method) (c : Code) (A : Nat → Prop) (ls : Array Slot) (Z : State → Prop), p.tables.exec = Jvm.exec → c.code = cc → c.maxLocals = maxL → meth.sig.returnType = none → (∀ w ∈ ws, w.before args s = true) → s.vm.findClass y.cls = some m.cls → meth.locks = false → meth.name = "<init>" → va_K D cl tys s → (∀ q, s.heap.size ≤ q → A q) → X A s s.heap → va_P D cl wA s.heap → va_D A wA → va_S A s.heap s.heap [] → lv_has ls maxL (lv_args 0 av) → Z = MQ below (va_Qv (fun _ : Nat → Nat => True) (fun a t => va_P D cl (wB a) t.heap ∧ va_D A (wB a)) A) args s mc ms A →
      W p l e rm s m args below meth c s.heap [] 0 0 Z (F0 m 0 ls [])) : qN l y ws rm X D cl tys wA av wB mc ms := by
  intro sz
  refine Met.ofW (cc := cc) (maxL := maxL) (ret := none) hy hw ?_
  intro p e s m args below meth c s₁ B hml hv
  obtain ⟨rfl, hsz, hP, hK, hD0, hX⟩ := hv
  subst hsz
  have hl := lv_entry av (n := maxL) hnl
  rw [lg_entry_eq]
  exact body p e s m _ below meth c (va_A wA s.heap.size) _ _ B.exec B.bytes hml B.returns (atoms_spec (ws := ws) B.pre) (findClass_of_methodNamed B.named) B.notSynchronized ((name_of_methodNamed B.named B.method).1.trans hy1) hK (fun q h => Or.inr h) hX hP hD0.self va_S.rf hl rfl
section QNC
variable {p : Program} {l : Launch} {e : Env} {R : Room} {s : State} {m : MethodId} {args : Array Value} {below : List Frame} {meth : Method} {c : Code} {H : Heap} {locs : List Loc} {cells slots : Nat} {Q : State → Prop}
variable {cc : ByteArray} {pc : Nat} {ls : Array Slot} {rest st0 : List Value} {A0 : Nat → Prop} {H0 : Heap}
variable {D : va_G} {cl : List vw_C} {tys : List (ClassId × FieldType)} {ws wc wr : va_W} {X : (Nat → Prop) → State → Heap → Prop} {wB : (Nat → Nat) → va_W}
theorem qn_vret {A : Nat → Prop} (a : Nat → Nat) (hexec : p.tables.exec = Jvm.exec) (hb : c.code = cc) (hr : meth.sig.returnType = none) (hlocks : meth.locks = false) (hP : va_P D cl (wB a) H) (hD : va_D A (wB a)) (hS : va_S A s.heap H locs) (hdg : decode cc pc = .ok (.return_, 1)) :
    W p l e R s m args below meth c H locs cells slots (MQ below (va_Qv (fun _ : Nat → Nat => True) (fun a t => va_P D cl (wB a) t.heap ∧ va_D A (wB a)) A) args s cells slots A) (F0 m pc ls []) :=
  W.vret hexec hb hr (fun t ht _ => ⟨⟨a, rfl, trivial, by rw [ht]; exact hP, hD⟩, hS.F ht⟩) hS.2.2 hdg hlocks
theorem qn_newa {cI : ClassId} (hexec : p.tables.exec = Jvm.exec) (hb : c.code = cc) (harr : (Cond.arrayClass .int).before args s = true) (hK : va_K D cl ((cI, .int) :: tys) s) (hP : va_P D cl ws H) (hD : va_D A0 ws) (hS : va_S A0 H0 H locs) (hA : ∀ q, H0.size ≤ q → A0 q)
    {n : Int32} {N' : Nat} (hn : ¬ n < 0) (hN : n.toNatClampNeg = N') (hbytes : N' * componentBytes .int ≤ 536870912) (hcells : cells + 1 ≤ R.cells) (hslots : slots + N' ≤ R.slots) (hdg : decode cc pc = .ok (.newarray .int, 2))
    (kk : ∀ (q : Nat) (H1 : Heap), va_P D cl (ws ++ [(q, .inl (cI, N', .inl (fun _ => (0 : Int32))))]) H1 → va_D A0 (ws ++ [(q, .inl (cI, N', .inl (fun _ => (0 : Int32))))]) → va_S A0 H0 H1 locs →
      W p l e R s m args below meth c H1 locs (cells + 1) (slots + N') Q (F0 m (pc + 2) ls (.ref q :: rest))) : W p l e R s m args below meth c H locs cells slots Q (F0 m pc ls (.int n :: rest)) := by
  refine va_newa (atype := .int) hexec hb harr rfl hK hP hD hS hA (a0 := (N', .inl (fun _ => (0 : Int32)))) (fun cA => rfl) hn hN hbytes hcells hslots hdg (fun q cA H1 hK' hP' hD' hS' => ?_)
  have h1 := (hK'.2 0 _ rfl).2
  have h2 := (hK'.2 (tys.length + 1) (cA, .int) (by simp; rfl)).2
  have he : cA = cI := Option.some.inj (h2.symm.trans h1)
  subst he
  exact kk q H1 hP' hD' hS'
variable {y : MethodName} {bytes : ByteArray} {maxL nL n index mc ms : Nat} {wsM : List Cond} {rm : Room} {Ts : List Cond} {own : String} {b : Addr} {As : List Value}
theorem qn_callI (S : CallFix p m c cc nL s args Ts own) (hM : qN l y wsM rm X D cl tys wc (.ref b :: As) wB mc ms) (cw : CallB R s args own index y bytes maxL none wsM rm mc ms n ∧ y.name = "<init>" ∧ (Cond.instanceMethod y).before args s = true) (hX : qx_ok X) (hK : va_K D cl tys s) (hP : va_P D cl ws H) (hD : va_D A0 ws) (hS : va_S A0 s.heap H locs) (hA : ∀ q, s.heap.size ≤ q → A0 q) (hXs : X A0 s s.heap) (isC isR : List Nat) (hC : isC.map (fun i => ws[i]?) = wc.map some) (hnd : va_nd isC = true) (hR : isR.map (fun i => ws[i]?) = wr.map some) (hnr : va_nd isR = true) (hdis : ∀ i ∈ isR, i ∉ isC) (hlen : As.length = n) (hsz : ls.size = nL) (hst0 : st0 = As.reverse ++ .ref b :: rest) (hW : (rest.map fun v => v.category).sum ≤ 8) (hroom : cells + mc ≤ R.cells ∧ slots + ms ≤ R.slots) (hdg : decode cc pc = .ok (.invokespecial index, 3))
    (kk : ∀ (a : Nat → Nat) (H1 : Heap) (locs1 : List Loc), va_P D cl (wr ++ wB a) H1 → va_D A0 (wr ++ wB a) → va_S A0 s.heap H1 locs1 → W p l e R s m args below meth c H1 locs1 (cells + mc) (slots + ms) Q (F0 m (pc + 3) ls rest)) : W p l e R s m args below meth c H locs cells slots Q (F0 m pc ls st0) := by
  have hpre := qw_pre (av := .ref b :: As) hX hK hP hD hS hA hXs isC hC hnd
  have hF := va_free hD hS hA isC hC
  refine va_callv (va_runI (As := As) (rest := rest) S (hM H.size) cw hpre rfl hlen hsz hst0 (lv_room hW) hdg hroom) hS (fun q _ h => hF q h) hF (fun u t H1 locs1 ht hvm hw hB hz1 hk1 hS1 => ?_)
  obtain ⟨hP1, hD1⟩ := hB
  rw [ht] at hP1
  obtain ⟨hP', hD'⟩ := va_join (wr := wr) (w1 := wB u) hP hD isC isR hC hR hnr hdis hk1 hF hP1 hD1
  exact kk u H1 locs1 hP' hD' hS1
end QNC
