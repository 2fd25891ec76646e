/-! what the start gives: the table, the statics and the strings of the class -/
theorem mem_r {big : List Cond} (ws : List Cond) (ps : List Nat) (hp : ws = ps.filterMap (fun i => big[i]?)) : ∀ w ∈ ws, w ∈ big := by
  intro w hw
  rw [hp] at hw
  obtain ⟨i, -, hi⟩ := List.mem_filterMap.mp hw
  exact List.mem_of_getElem? hi
set_option maxRecDepth 100000 in
theorem qnest_in : ∀ w ∈ qnest, w ∈ lw_tbl := fun w h => List.mem_append_right _ (mem_r (big := tables_1) qnest [48, 49, 51, 52, 54, 55, 57, 58, 59, 71, 72, 74, 75, 76, 78, 79, 80, 81, 83, 87, 88, 89, 113, 120, 122, 141, 143] rfl w h)
abbrev gvL : Cond := Jvm.Cond.and given_1 narrow_1
def cellC (j : Nat) : Cond := .eq (.elem (.static "InstructionCoder$Table" "CELLS" "[I") (.int (Int32.ofNat j))) (.int (tabI j))
set_option maxRecDepth 100000 in
theorem cells_run0 : (List.range 161).map (fun j => cellC (0 + j)) = ((flatC gvL).drop 7).take 161 := by decide +kernel
set_option maxRecDepth 100000 in
theorem cells_run1 : (List.range 161).map (fun j => cellC (161 + j)) = ((flatC gvL).drop 168).take 161 := by decide +kernel
set_option maxRecDepth 100000 in
theorem cells_run2 : (List.range 161).map (fun j => cellC (322 + j)) = ((flatC gvL).drop 329).take 161 := by decide +kernel
set_option maxRecDepth 100000 in
theorem cells_run3 : (List.range 161).map (fun j => cellC (483 + j)) = ((flatC gvL).drop 490).take 161 := by decide +kernel
set_option maxRecDepth 100000 in
theorem cells_run4 : (List.range 161).map (fun j => cellC (644 + j)) = ((flatC gvL).drop 651).take 161 := by decide +kernel
theorem cells_in {j : Nat} (hj : j < 805) : cellC j ∈ flatC gvL := by
  by_cases h0 : j < 161
  · have h : cellC (0 + (j - 0)) ∈ flatC gvL := va_run (f := fun j => cellC (0 + j)) cells_run0 (j - 0) (by omega)
    rwa [show 0 + (j - 0) = j by omega] at h
  by_cases h1 : j < 322
  · have h : cellC (161 + (j - 161)) ∈ flatC gvL := va_run (f := fun j => cellC (161 + j)) cells_run1 (j - 161) (by omega)
    rwa [show 161 + (j - 161) = j by omega] at h
  by_cases h2 : j < 483
  · have h : cellC (322 + (j - 322)) ∈ flatC gvL := va_run (f := fun j => cellC (322 + j)) cells_run2 (j - 322) (by omega)
    rwa [show 322 + (j - 322) = j by omega] at h
  by_cases h3 : j < 644
  · have h : cellC (483 + (j - 483)) ∈ flatC gvL := va_run (f := fun j => cellC (483 + j)) cells_run3 (j - 483) (by omega)
    rwa [show 483 + (j - 483) = j by omega] at h
  have h : cellC (644 + (j - 644)) ∈ flatC gvL := va_run (f := fun j => cellC (644 + j)) cells_run4 (j - 644) (by omega)
  rwa [show 644 + (j - 644) = j by omega] at h
set_option maxRecDepth 100000 in
theorem law_facts {args : Array Value} {s : State} {A : Nat → Prop} (hts : ∀ w ∈ lw_tbl, w.before args s = true) (hgv : gvL.before args s = true) (hA : ∀ a : Nat, a < s.heap.size → ¬ A a) : ∃ tT sa1 sa2, qX2 tT sa1 sa2 A s s.heap := by
  have hf := flat_of_before _ hgv
  obtain ⟨tT, ht, hT⟩ := va_Tof (tm := .static "InstructionCoder$Table" "CELLS" "[I") (ty := .int) (N := 805) (f := fun j => .int (tabI j)) (A := A) (by decide) (hf (.arrayOf (.static "InstructionCoder$Table" "CELLS" "[I") .int) (List.mem_of_getElem? (i := 5) (by decide +kernel))) (va_eqt (hf (.eq (.length (.static "InstructionCoder$Table" "CELLS" "[I")) (.int 805)) (List.mem_of_getElem? (i := 6) (by decide +kernel)))) (fun j hj => va_eqt (hf _ (cells_in hj))) hA
  obtain ⟨sa1, c1, l1, k1, e1, -⟩ := Cond.exactly_spec (hf (.exactly (.string "InstructionCoder" 96) "java/lang/String") (List.mem_of_getElem? (i := 821) (by decide +kernel)))
  obtain ⟨sa2, c2, l2, k2, e2, -⟩ := Cond.exactly_spec (hf (.exactly (.string "InstructionCoder" 117) "java/lang/String") (List.mem_of_getElem? (i := 851) (by decide +kernel)))
  refine ⟨tT, sa1, sa2, ⟨va_Zref (hts (.laysStatic "InstructionCoder$Table" "CELLS" "[I") (List.mem_append_right _ (List.mem_of_getElem? (i := 263) (by decide +kernel)))) (hts (.initialized "InstructionCoder$Table") (List.mem_append_right _ (List.mem_of_getElem? (i := 8) (by decide +kernel)))) ht hA, hT, fun w hw => va_Nw.of (qnest_tab w hw) (hts w (qnest_in w hw))⟩, ?_, ?_, vk_R.of (hts (.stringRef "InstructionCoder" 96 "no bytes tell these fields") (List.mem_append_right _ (List.mem_of_getElem? (i := 439) (by decide +kernel)))) e1, vk_R.of (hts (.stringRef "InstructionCoder" 117 "the bytes begin with no instruction") (List.mem_append_right _ (List.mem_of_getElem? (i := 571) (by decide +kernel)))) e2, va_Nw.of rfl (hts (.castable "java/lang/IllegalArgumentException" "java/lang/IllegalArgumentException") (List.mem_append_right _ (List.mem_of_getElem? (i := 402) (by decide +kernel)))), va_Nw.of rfl (hts (.declares ⟨"java/lang/RuntimeException", "<init>", "(Ljava/lang/String;)V"⟩) (List.mem_append_right _ (List.mem_of_getElem? (i := 404) (by decide +kernel)))), va_Nw.of rfl (hts (.declares ⟨"java/lang/Exception", "<init>", "(Ljava/lang/String;)V"⟩) (List.mem_append_right _ (List.mem_of_getElem? (i := 406) (by decide +kernel)))), va_Nw.of rfl (hts (.declares ⟨"java/lang/Throwable", "<init>", "(Ljava/lang/String;)V"⟩) (List.mem_append_right _ (List.mem_of_getElem? (i := 408) (by decide +kernel))))⟩
  · exact vx_Zqof (hts (.laysStatic "java/lang/Throwable" "UNASSIGNED_STACK" "[Ljava/lang/StackTraceElement;") (List.mem_append_right _ (List.mem_of_getElem? (i := 427) (by decide +kernel)))) (hts (.initialized "java/lang/Throwable") (List.mem_append_right _ (List.mem_of_getElem? (i := 9) (by decide +kernel)))) (hf (.isRef (.static "java/lang/Throwable" "UNASSIGNED_STACK" "[Ljava/lang/StackTraceElement;")) (List.mem_of_getElem? (i := 812) (by decide +kernel))) hA
  · exact vx_Zqof (hts (.laysStatic "java/lang/Throwable" "SUPPRESSED_SENTINEL" "Ljava/util/List;") (List.mem_append_right _ (List.mem_of_getElem? (i := 429) (by decide +kernel)))) (hts (.initialized "java/lang/Throwable") (List.mem_append_right _ (List.mem_of_getElem? (i := 9) (by decide +kernel)))) (hf (.isRef (.static "java/lang/Throwable" "SUPPRESSED_SENTINEL" "Ljava/util/List;")) (List.mem_of_getElem? (i := 813) (by decide +kernel))) hA
theorem law_known {args : Array Value} {s : State} (hts : ∀ w ∈ lw_tbl, w.before args s = true) : ∃ (D : va_G) (cI : ClassId), va_K D vwCl [(cI, .int)] s := by
  obtain ⟨c0, i0, h0⟩ := u_known (C := RX0) (T := TX0) (N := 7) (n := 7) hts inX0 (hts (.instantiable RX0 7) (List.mem_append_right _ (List.mem_of_getElem? (i := 28) (by decide +kernel))))
  obtain ⟨c1, i1, h1⟩ := u_known (C := RX1) (T := TX1) (N := 4) (n := 4) hts inX1 (hts (.instantiable RX1 4) (List.mem_append_right _ (List.mem_of_getElem? (i := 34) (by decide +kernel))))
  obtain ⟨c2, i2, h2⟩ := u_known (C := RX2) (T := TX2) (N := 2) (n := 2) hts inX2 (hts (.instantiable RX2 2) (List.mem_append_right _ (List.mem_of_getElem? (i := 106) (by decide +kernel))))
  obtain ⟨c3, i3, h3⟩ := u_known (C := RX3) (T := TX3) (N := 9) (n := 9) hts inX3 (hts (.instantiable RX3 9) (List.mem_append_right _ (List.mem_of_getElem? (i := 131) (by decide +kernel))))
  obtain ⟨c4, i4, h4⟩ := u_known (C := RX5) (T := TX5) (N := 2) (n := 2) hts inX5 (hts (.instantiable RX5 2) (List.mem_append_right _ (List.mem_of_getElem? (i := 22) (by decide +kernel))))
  obtain ⟨c5, i5, h5⟩ := u_known (C := RX6) (T := TX6) (N := 6) (n := 6) hts inX6 (hts (.instantiable RX6 6) (List.mem_append_right _ (List.mem_of_getElem? (i := 14) (by decide +kernel))))
  obtain ⟨c6, i6, h6⟩ := u_known (C := RX7) (T := TX7) (N := 23) (n := 23) hts inX7 (hts (.instantiable RX7 23) (List.mem_append_right _ (List.mem_of_getElem? (i := 581) (by decide +kernel))))
  obtain ⟨cI, kA, comp, a1, a2, a3⟩ := Cond.arrayClass_spec (hts (.arrayClass .int) (List.mem_append_right _ (List.mem_of_getElem? (i := 69) (by decide +kernel))))
  refine ⟨(fun k => if k = 0 then c0 else if k = 1 then c1 else if k = 2 then c2 else if k = 3 then c3 else if k = 4 then c4 else if k = 5 then c5 else c6, fun k => if k = 0 then i0 else if k = 1 then i1 else if k = 2 then i2 else if k = 3 then i3 else if k = 4 then i4 else if k = 5 then i5 else i6), cI, ?_, ?_⟩
  · intro k q hq
    match k, hq with
    | 0, hq => cases hq; exact h0
    | 1, hq => cases hq; exact h1
    | 2, hq => cases hq; exact h2
    | 3, hq => cases hq; exact h3
    | 4, hq => cases hq; exact h4
    | 5, hq => cases hq; exact h5
    | 6, hq => cases hq; exact h6
    | k + 7, hq => simp at hq
  · intro k q hq
    match k, hq with
    | 0, hq => cases hq; exact ⟨fun n z => ⟨fun k h => (by cases h), kA, a2, comp, a3⟩, a1⟩
    | k + 1, hq => simp at hq
