def f_X4_lines  : Int32 := ((115 : Int32))
set_option maxHeartbeats 4000000 in
set_option maxRecDepth 100000 in
theorem c_X4_lines (l : Launch) (D : va_G) (cI : ClassId) (tT : Nat)  (r_o : Int32) (hq : f_X4_lines = r_o) : qM l yX4_lines wsX4_lines (qr 0 0) (qX tT) D vwCl [(cI, .int)] [] [] (some (.int r_o)) [] := by
  refine qM_of (cc := cX4_lines) (maxL := 0) (ret := (some .int)) (by decide) rfl (Nat.le_of_ble_eq_true rfl) ?_
  intro p e s m args below meth c A ls Z hx hb hml hr hts hown hlk hK hA hXs hP hD hS hl hZ
  have hown : s.vm.findClass RX4 = some m.cls := hown
  have hl : lv_has ls 0 [] := hl
  have lk9 := hts (.fieldLink RX4 9 "InstructionCoder$Table" "CELLS" "[I") (by decide +kernel)
  have E := hq
  rw [f_X4_lines] at E
  refine va_gets hx hb hXs.1 hS hown lk9 (fun _ h9 => h9) dX4_lines_0 ?_
  refine va_tlen hx hb hXs.2.1 hS (v := (805 : Int32)) (by decide) dX4_lines_3 ?_
  refine lv_bipush (v := (7 : Int32)) hx hb dX4_lines_4 (by decide) ?_
  refine lv_idiv hx hb dX4_lines_6 (by decide) ?_
  refine qw_topi (v := (115 : Int32)) (by decide) ?_
  cases E
  rw [hZ]
  exact qw_iret hx hb hr hlk hP hD hS dX4_lines_7
def f_X4_cell_J4 (x3 : Int32) : Int32 := (x3)
def f_X4_cell (p0 : Int32) (p1 : Int32) : Int32 := ((if ((p0 * (7 : Int32)) + p1) < 0 then (f_X4_cell_J4 (0 : Int32)) else (if (805 : Int32) ≤ ((p0 * (7 : Int32)) + p1) then (f_X4_cell_J4 (0 : Int32)) else (f_X4_cell_J4 (tabI (((p0 * (7 : Int32)) + p1)).toNatClampNeg)))))
set_option maxHeartbeats 4000000 in
set_option maxRecDepth 100000 in
theorem c_X4_cell (l : Launch) (D : va_G) (cI : ClassId) (tT : Nat) (p0 : Int32) (p1 : Int32) (r_o : Int32) (hq : f_X4_cell p0 p1 = r_o) : qM l yX4_cell wsX4_cell (qr 0 0) (qX tT) D vwCl [(cI, .int)] [] [.int p0, .int p1] (some (.int r_o)) [] := by
  refine qM_of (cc := cX4_cell) (maxL := 3) (ret := (some .int)) (by decide) rfl (Nat.le_of_ble_eq_true rfl) ?_
  intro p e s m args below meth c A ls Z hx hb hml hr hts hown hlk hK hA hXs hP hD hS hl hZ
  have hown : s.vm.findClass RX4 = some m.cls := hown
  have hl : lv_has ls 3 [(0, .int p0), (1, .int p1)] := hl
  have lk9 := hts (.fieldLink RX4 9 "InstructionCoder$Table" "CELLS" "[I") (by decide +kernel)
  have E := hq
  rw [f_X4_cell] at E
  refine lv_iload_n hx hb dX4_cell_0 rfl (lv_at hl 0 rfl) ?_
  refine lv_bipush (v := (7 : Int32)) hx hb dX4_cell_1 (by decide) ?_
  refine lv_imul hx hb dX4_cell_3 ?_
  refine lv_iload_n hx hb dX4_cell_4 rfl (lv_at hl 1 rfl) ?_
  refine lv_iadd hx hb dX4_cell_5 ?_
  refine lv_istore_n (lv' := [(2, .int ((p0 * (7 : Int32)) + p1)), (0, .int p0), (1, .int p1)]) hx hb dX4_cell_6 rfl hl (by decide) rfl (fun ls hl => ?_)
  refine lv_iload_n hx hb dX4_cell_7 rfl (lv_at hl 0 rfl) ?_
  have J4 : ∀ (x3 : Int32) (ls : Array Slot) (H : Heap) (locs : List Loc), f_X4_cell_J4 x3 = r_o → lv_has ls 3 [(2, .int ((p0 * (7 : Int32)) + p1)), (0, .int p0), (1, .int p1)] → va_P D vwCl [] H → va_D A [] → va_S A s.heap H locs → W p l e (qr 0 0) s m args below meth c H locs 0 0 Z (F0 m 28 ls [.int x3]) := by
    intro x3 ls H locs E hl hP hD hS
    rw [f_X4_cell_J4] at E
    cases E
    rw [hZ]
    exact qw_iret hx hb hr hlk hP hD hS dX4_cell_28
  refine lv_if_lt (tgt := 27) hx hb dX4_cell_8 (by decide) (fun c1 => ?_) (fun c1 => ?_)
  · rw [if_pos c1] at E
    refine lv_iconst (v := (0 : Int32)) hx hb dX4_cell_27 (by decide) ?_
    exact J4 (0 : Int32) ls _ _ E (lv_sub hl [0, 1, 2] rfl) hP hD hS
  · rw [if_neg c1] at E
    refine lv_iload_n hx hb dX4_cell_11 rfl (lv_at hl 0 rfl) ?_
    refine va_gets hx hb hXs.1 hS hown lk9 (fun _ h9 => h9) dX4_cell_12 ?_
    refine va_tlen hx hb hXs.2.1 hS (v := (805 : Int32)) (by decide) dX4_cell_15 ?_
    refine lv_icmp_ge (tgt := 27) hx hb dX4_cell_16 (by decide) (fun c2 => ?_) (fun c2 => ?_)
    · rw [if_pos c2] at E
      refine lv_iconst (v := (0 : Int32)) hx hb dX4_cell_27 (by decide) ?_
      exact J4 (0 : Int32) ls _ _ E (lv_sub hl [0, 1, 2] rfl) hP hD hS
    · rw [if_neg c2] at E
      refine va_gets hx hb hXs.1 hS hown lk9 (fun _ h9 => h9) dX4_cell_19 ?_
      refine lv_iload_n hx hb dX4_cell_22 rfl (lv_at hl 0 rfl) ?_
      refine va_ti hx hb hXs.2.1 hS (qw_inAA c1 c2 (by decide)) (v := .int (tabI (((p0 * (7 : Int32)) + p1)).toNatClampNeg)) rfl dX4_cell_23 ?_
      refine lv_goto (tgt := 28) hx hb dX4_cell_24 (by decide) ?_
      exact J4 (tabI (((p0 * (7 : Int32)) + p1)).toNatClampNeg) ls _ _ E (lv_sub hl [0, 1, 2] rfl) hP hD hS
def f_X4_opOf (p0 : Int32) : Int32 := ((f_X4_cell p0 (0 : Int32)))
set_option maxHeartbeats 4000000 in
set_option maxRecDepth 100000 in
theorem c_X4_opOf (l : Launch) (D : va_G) (cI : ClassId) (tT : Nat) (p0 : Int32) (r_o : Int32) (hq : f_X4_opOf p0 = r_o) : qM l yX4_opOf wsX4_opOf (qr 1 22) (qX tT) D vwCl [(cI, .int)] [] [.int p0] (some (.int r_o)) [] := by
  refine qM_of (cc := cX4_opOf) (maxL := 1) (ret := (some .int)) (by decide) rfl (Nat.le_of_ble_eq_true rfl) ?_
  intro p e s m args below meth c A ls Z hx hb hml hr hts hown hlk hK hA hXs hP hD hS hl hZ
  have hown : s.vm.findClass RX4 = some m.cls := hown
  have hl : lv_has ls 1 [(0, .int p0)] := hl
  have hXg := qX_ok tT
  have E := hq
  rw [f_X4_opOf] at E
  refine lv_iload_n hx hb dX4_opOf_0 rfl (lv_at hl 0 rfl) ?_
  refine lv_iconst (v := (0 : Int32)) hx hb dX4_opOf_1 (by decide) ?_
  refine qw_callS (As := [.int p0, .int (0 : Int32)]) (rest := []) (ws' := []) (st1 := [.int (f_X4_cell p0 (0 : Int32))]) ⟨hx, hb, hml, hown, hts⟩ (c_X4_cell l D cI tT p0 (0 : Int32) (f_X4_cell p0 (0 : Int32)) rfl) (va_cwS 2 hts gX4_opOf_X4_cell rfl rfl rfl (by decide +kernel) ⟨Nat.le_of_ble_eq_true rfl, Nat.le_of_ble_eq_true rfl⟩) hXg hK hP hD hS hA hXs [] rfl rfl  rfl rfl rfl hl.1 rfl (Nat.le_of_ble_eq_true rfl) rfl ⟨Nat.zero_le _, Nat.zero_le _⟩ dX4_opOf_2 (fun H locs hP hD hS => ?_)
  cases E
  rw [hZ]
  exact qw_iret hx hb hr hlk hP hD hS dX4_opOf_5
def f_X4_isRepeated_J3 (x2 : Int32) : Int32 := (x2)
def f_X4_isRepeated (p0 : Int32) : Int32 := ((if (f_X4_cell p0 (1 : Int32)) = (1 : Int32) then (f_X4_isRepeated_J3 (1 : Int32)) else (f_X4_isRepeated_J3 (0 : Int32))))
set_option maxHeartbeats 4000000 in
set_option maxRecDepth 100000 in
theorem c_X4_isRepeated (l : Launch) (D : va_G) (cI : ClassId) (tT : Nat) (p0 : Int32) (r_o : Int32) (hq : f_X4_isRepeated p0 = r_o) : qM l yX4_isRepeated wsX4_isRepeated (qr 1 22) (qX tT) D vwCl [(cI, .int)] [] [.int p0] (some (.int r_o)) [] := by
  refine qM_of (cc := cX4_isRepeated) (maxL := 1) (ret := (some .boolean)) (by decide) rfl (Nat.le_of_ble_eq_true rfl) ?_
  intro p e s m args below meth c A ls Z hx hb hml hr hts hown hlk hK hA hXs hP hD hS hl hZ
  have hown : s.vm.findClass RX4 = some m.cls := hown
  have hl : lv_has ls 1 [(0, .int p0)] := hl
  have hXg := qX_ok tT
  have E := hq
  rw [f_X4_isRepeated] at E
  refine lv_iload_n hx hb dX4_isRepeated_0 rfl (lv_at hl 0 rfl) ?_
  refine lv_iconst (v := (1 : Int32)) hx hb dX4_isRepeated_1 (by decide) ?_
  refine qw_callS (As := [.int p0, .int (1 : Int32)]) (rest := []) (ws' := []) (st1 := [.int (f_X4_cell p0 (1 : Int32))]) ⟨hx, hb, hml, hown, hts⟩ (c_X4_cell l D cI tT p0 (1 : Int32) (f_X4_cell p0 (1 : Int32)) rfl) (va_cwS 2 hts gX4_isRepeated_X4_cell rfl rfl rfl (by decide +kernel) ⟨Nat.le_of_ble_eq_true rfl, Nat.le_of_ble_eq_true rfl⟩) hXg hK hP hD hS hA hXs [] rfl rfl  rfl rfl rfl hl.1 rfl (Nat.le_of_ble_eq_true rfl) rfl ⟨Nat.zero_le _, Nat.zero_le _⟩ dX4_isRepeated_2 (fun H locs hP hD hS => ?_)
  refine lv_iconst (v := (1 : Int32)) hx hb dX4_isRepeated_5 (by decide) ?_
  have J3 : ∀ (x2 : Int32) (hb_x2 : x2 = 0 ∨ x2 = 1) (ls : Array Slot) (H : Heap) (locs : List Loc), f_X4_isRepeated_J3 x2 = r_o → lv_has ls 1 [(0, .int p0)] → va_P D vwCl [] H → va_D A [] → va_S A s.heap H locs → W p l e (qr 1 22) s m args below meth c H locs 0 0 Z (F0 m 14 ls [.int x2]) := by
    intro x2 hb_x2 ls H locs E hl hP hD hS
    rw [f_X4_isRepeated_J3] at E
    cases E
    rw [hZ]
    exact qw_zret hx hb hr hlk hb_x2 hP hD hS dX4_isRepeated_14
  refine lv_icmp_ne (tgt := 13) hx hb dX4_isRepeated_6 (by decide) (fun c1 => ?_) (fun c1 => ?_)
  · rw [if_neg c1] at E
    refine lv_iconst (v := (0 : Int32)) hx hb dX4_isRepeated_13 (by decide) ?_
    exact J3 (0 : Int32) (Or.inl rfl) ls _ _ E (lv_sub hl [0] rfl) hP hD hS
  · rw [if_pos c1] at E
    refine lv_iconst (v := (1 : Int32)) hx hb dX4_isRepeated_9 (by decide) ?_
    refine lv_goto (tgt := 14) hx hb dX4_isRepeated_10 (by decide) ?_
    exact J3 (1 : Int32) (Or.inr rfl) ls _ _ E (lv_sub hl [0] rfl) hP hD hS
def f_X4_hasCondition_J3 (x2 : Int32) : Int32 := (x2)
def f_X4_hasCondition (p0 : Int32) : Int32 := ((if (f_X4_cell p0 (1 : Int32)) = (2 : Int32) then (f_X4_hasCondition_J3 (1 : Int32)) else (f_X4_hasCondition_J3 (0 : Int32))))
set_option maxHeartbeats 4000000 in
set_option maxRecDepth 100000 in
theorem c_X4_hasCondition (l : Launch) (D : va_G) (cI : ClassId) (tT : Nat) (p0 : Int32) (r_o : Int32) (hq : f_X4_hasCondition p0 = r_o) : qM l yX4_hasCondition wsX4_hasCondition (qr 1 22) (qX tT) D vwCl [(cI, .int)] [] [.int p0] (some (.int r_o)) [] := by
  refine qM_of (cc := cX4_hasCondition) (maxL := 1) (ret := (some .boolean)) (by decide) rfl (Nat.le_of_ble_eq_true rfl) ?_
  intro p e s m args below meth c A ls Z hx hb hml hr hts hown hlk hK hA hXs hP hD hS hl hZ
  have hown : s.vm.findClass RX4 = some m.cls := hown
  have hl : lv_has ls 1 [(0, .int p0)] := hl
  have hXg := qX_ok tT
  have E := hq
  rw [f_X4_hasCondition] at E
  refine lv_iload_n hx hb dX4_hasCondition_0 rfl (lv_at hl 0 rfl) ?_
  refine lv_iconst (v := (1 : Int32)) hx hb dX4_hasCondition_1 (by decide) ?_
  refine qw_callS (As := [.int p0, .int (1 : Int32)]) (rest := []) (ws' := []) (st1 := [.int (f_X4_cell p0 (1 : Int32))]) ⟨hx, hb, hml, hown, hts⟩ (c_X4_cell l D cI tT p0 (1 : Int32) (f_X4_cell p0 (1 : Int32)) rfl) (va_cwS 2 hts gX4_hasCondition_X4_cell rfl rfl rfl (by decide +kernel) ⟨Nat.le_of_ble_eq_true rfl, Nat.le_of_ble_eq_true rfl⟩) hXg hK hP hD hS hA hXs [] rfl rfl  rfl rfl rfl hl.1 rfl (Nat.le_of_ble_eq_true rfl) rfl ⟨Nat.zero_le _, Nat.zero_le _⟩ dX4_hasCondition_2 (fun H locs hP hD hS => ?_)
  refine lv_iconst (v := (2 : Int32)) hx hb dX4_hasCondition_5 (by decide) ?_
  have J3 : ∀ (x2 : Int32) (hb_x2 : x2 = 0 ∨ x2 = 1) (ls : Array Slot) (H : Heap) (locs : List Loc), f_X4_hasCondition_J3 x2 = r_o → lv_has ls 1 [(0, .int p0)] → va_P D vwCl [] H → va_D A [] → va_S A s.heap H locs → W p l e (qr 1 22) s m args below meth c H locs 0 0 Z (F0 m 14 ls [.int x2]) := by
    intro x2 hb_x2 ls H locs E hl hP hD hS
    rw [f_X4_hasCondition_J3] at E
    cases E
    rw [hZ]
    exact qw_zret hx hb hr hlk hb_x2 hP hD hS dX4_hasCondition_14
  refine lv_icmp_ne (tgt := 13) hx hb dX4_hasCondition_6 (by decide) (fun c1 => ?_) (fun c1 => ?_)
  · rw [if_neg c1] at E
    refine lv_iconst (v := (0 : Int32)) hx hb dX4_hasCondition_13 (by decide) ?_
    exact J3 (0 : Int32) (Or.inl rfl) ls _ _ E (lv_sub hl [0] rfl) hP hD hS
  · rw [if_pos c1] at E
    refine lv_iconst (v := (1 : Int32)) hx hb dX4_hasCondition_9 (by decide) ?_
    refine lv_goto (tgt := 14) hx hb dX4_hasCondition_10 (by decide) ?_
    exact J3 (1 : Int32) (Or.inr rfl) ls _ _ E (lv_sub hl [0] rfl) hP hD hS
def f_X4_opcodeOf (p0 : Int32) : Int32 := ((f_X4_cell p0 (3 : Int32)))
set_option maxHeartbeats 4000000 in
set_option maxRecDepth 100000 in
theorem c_X4_opcodeOf (l : Launch) (D : va_G) (cI : ClassId) (tT : Nat) (p0 : Int32) (r_o : Int32) (hq : f_X4_opcodeOf p0 = r_o) : qM l yX4_opcodeOf wsX4_opcodeOf (qr 1 22) (qX tT) D vwCl [(cI, .int)] [] [.int p0] (some (.int r_o)) [] := by
  refine qM_of (cc := cX4_opcodeOf) (maxL := 1) (ret := (some .int)) (by decide) rfl (Nat.le_of_ble_eq_true rfl) ?_
  intro p e s m args below meth c A ls Z hx hb hml hr hts hown hlk hK hA hXs hP hD hS hl hZ
  have hown : s.vm.findClass RX4 = some m.cls := hown
  have hl : lv_has ls 1 [(0, .int p0)] := hl
  have hXg := qX_ok tT
  have E := hq
  rw [f_X4_opcodeOf] at E
  refine lv_iload_n hx hb dX4_opcodeOf_0 rfl (lv_at hl 0 rfl) ?_
  refine lv_iconst (v := (3 : Int32)) hx hb dX4_opcodeOf_1 (by decide) ?_
  refine qw_callS (As := [.int p0, .int (3 : Int32)]) (rest := []) (ws' := []) (st1 := [.int (f_X4_cell p0 (3 : Int32))]) ⟨hx, hb, hml, hown, hts⟩ (c_X4_cell l D cI tT p0 (3 : Int32) (f_X4_cell p0 (3 : Int32)) rfl) (va_cwS 2 hts gX4_opcodeOf_X4_cell rfl rfl rfl (by decide +kernel) ⟨Nat.le_of_ble_eq_true rfl, Nat.le_of_ble_eq_true rfl⟩) hXg hK hP hD hS hA hXs [] rfl rfl  rfl rfl rfl hl.1 rfl (Nat.le_of_ble_eq_true rfl) rfl ⟨Nat.zero_le _, Nat.zero_le _⟩ dX4_opcodeOf_2 (fun H locs hP hD hS => ?_)
  cases E
  rw [hZ]
  exact qw_iret hx hb hr hlk hP hD hS dX4_opcodeOf_5
def f_X4_digitOf (p0 : Int32) : Int32 := ((f_X4_cell p0 (4 : Int32)))
set_option maxHeartbeats 4000000 in
set_option maxRecDepth 100000 in
theorem c_X4_digitOf (l : Launch) (D : va_G) (cI : ClassId) (tT : Nat) (p0 : Int32) (r_o : Int32) (hq : f_X4_digitOf p0 = r_o) : qM l yX4_digitOf wsX4_digitOf (qr 1 22) (qX tT) D vwCl [(cI, .int)] [] [.int p0] (some (.int r_o)) [] := by
  refine qM_of (cc := cX4_digitOf) (maxL := 1) (ret := (some .int)) (by decide) rfl (Nat.le_of_ble_eq_true rfl) ?_
  intro p e s m args below meth c A ls Z hx hb hml hr hts hown hlk hK hA hXs hP hD hS hl hZ
  have hown : s.vm.findClass RX4 = some m.cls := hown
  have hl : lv_has ls 1 [(0, .int p0)] := hl
  have hXg := qX_ok tT
  have E := hq
  rw [f_X4_digitOf] at E
  refine lv_iload_n hx hb dX4_digitOf_0 rfl (lv_at hl 0 rfl) ?_
  refine lv_iconst (v := (4 : Int32)) hx hb dX4_digitOf_1 (by decide) ?_
  refine qw_callS (As := [.int p0, .int (4 : Int32)]) (rest := []) (ws' := []) (st1 := [.int (f_X4_cell p0 (4 : Int32))]) ⟨hx, hb, hml, hown, hts⟩ (c_X4_cell l D cI tT p0 (4 : Int32) (f_X4_cell p0 (4 : Int32)) rfl) (va_cwS 2 hts gX4_digitOf_X4_cell rfl rfl rfl (by decide +kernel) ⟨Nat.le_of_ble_eq_true rfl, Nat.le_of_ble_eq_true rfl⟩) hXg hK hP hD hS hA hXs [] rfl rfl  rfl rfl rfl hl.1 rfl (Nat.le_of_ble_eq_true rfl) rfl ⟨Nat.zero_le _, Nat.zero_le _⟩ dX4_digitOf_2 (fun H locs hP hD hS => ?_)
  cases E
  rw [hZ]
  exact qw_iret hx hb hr hlk hP hD hS dX4_digitOf_5
def f_X4_roleOf (p0 : Int32) (p1 : Int32) : Int32 := ((((f_X4_cell p0 (5 : Int32)) >>> (((4 : Int32) * p1) &&& 31)) &&& (15 : Int32)))
set_option maxHeartbeats 4000000 in
set_option maxRecDepth 100000 in
theorem c_X4_roleOf (l : Launch) (D : va_G) (cI : ClassId) (tT : Nat) (p0 : Int32) (p1 : Int32) (r_o : Int32) (hq : f_X4_roleOf p0 p1 = r_o) : qM l yX4_roleOf wsX4_roleOf (qr 1 22) (qX tT) D vwCl [(cI, .int)] [] [.int p0, .int p1] (some (.int r_o)) [] := by
  refine qM_of (cc := cX4_roleOf) (maxL := 2) (ret := (some .int)) (by decide) rfl (Nat.le_of_ble_eq_true rfl) ?_
  intro p e s m args below meth c A ls Z hx hb hml hr hts hown hlk hK hA hXs hP hD hS hl hZ
  have hown : s.vm.findClass RX4 = some m.cls := hown
  have hl : lv_has ls 2 [(0, .int p0), (1, .int p1)] := hl
  have hXg := qX_ok tT
  have E := hq
  rw [f_X4_roleOf] at E
  refine lv_iload_n hx hb dX4_roleOf_0 rfl (lv_at hl 0 rfl) ?_
  refine lv_iconst (v := (5 : Int32)) hx hb dX4_roleOf_1 (by decide) ?_
  refine qw_callS (As := [.int p0, .int (5 : Int32)]) (rest := []) (ws' := []) (st1 := [.int (f_X4_cell p0 (5 : Int32))]) ⟨hx, hb, hml, hown, hts⟩ (c_X4_cell l D cI tT p0 (5 : Int32) (f_X4_cell p0 (5 : Int32)) rfl) (va_cwS 2 hts gX4_roleOf_X4_cell rfl rfl rfl (by decide +kernel) ⟨Nat.le_of_ble_eq_true rfl, Nat.le_of_ble_eq_true rfl⟩) hXg hK hP hD hS hA hXs [] rfl rfl  rfl rfl rfl hl.1 rfl (Nat.le_of_ble_eq_true rfl) rfl ⟨Nat.zero_le _, Nat.zero_le _⟩ dX4_roleOf_2 (fun H locs hP hD hS => ?_)
  refine lv_iconst (v := (4 : Int32)) hx hb dX4_roleOf_5 (by decide) ?_
  refine lv_iload_n hx hb dX4_roleOf_6 rfl (lv_at hl 1 rfl) ?_
  refine lv_imul hx hb dX4_roleOf_7 ?_
  refine lv_ishr hx hb dX4_roleOf_8 ?_
  refine lv_bipush (v := (15 : Int32)) hx hb dX4_roleOf_9 (by decide) ?_
  refine lv_iand hx hb dX4_roleOf_11 ?_
  cases E
  rw [hZ]
  exact qw_iret hx hb hr hlk hP hD hS dX4_roleOf_12
def f_X4_hasSizeBit_J3 (x2 : Int32) : Int32 := (x2)
def f_X4_hasSizeBit (p0 : Int32) : Int32 := ((if (f_X4_cell p0 (2 : Int32)) = (2 : Int32) then (f_X4_hasSizeBit_J3 (1 : Int32)) else (f_X4_hasSizeBit_J3 (0 : Int32))))
set_option maxHeartbeats 4000000 in
set_option maxRecDepth 100000 in
theorem c_X4_hasSizeBit (l : Launch) (D : va_G) (cI : ClassId) (tT : Nat) (p0 : Int32) (r_o : Int32) (hq : f_X4_hasSizeBit p0 = r_o) : qM l yX4_hasSizeBit wsX4_hasSizeBit (qr 1 22) (qX tT) D vwCl [(cI, .int)] [] [.int p0] (some (.int r_o)) [] := by
  refine qM_of (cc := cX4_hasSizeBit) (maxL := 1) (ret := (some .boolean)) (by decide) rfl (Nat.le_of_ble_eq_true rfl) ?_
  intro p e s m args below meth c A ls Z hx hb hml hr hts hown hlk hK hA hXs hP hD hS hl hZ
  have hown : s.vm.findClass RX4 = some m.cls := hown
  have hl : lv_has ls 1 [(0, .int p0)] := hl
  have hXg := qX_ok tT
  have E := hq
  rw [f_X4_hasSizeBit] at E
  refine lv_iload_n hx hb dX4_hasSizeBit_0 rfl (lv_at hl 0 rfl) ?_
  refine lv_iconst (v := (2 : Int32)) hx hb dX4_hasSizeBit_1 (by decide) ?_
  refine qw_callS (As := [.int p0, .int (2 : Int32)]) (rest := []) (ws' := []) (st1 := [.int (f_X4_cell p0 (2 : Int32))]) ⟨hx, hb, hml, hown, hts⟩ (c_X4_cell l D cI tT p0 (2 : Int32) (f_X4_cell p0 (2 : Int32)) rfl) (va_cwS 2 hts gX4_hasSizeBit_X4_cell rfl rfl rfl (by decide +kernel) ⟨Nat.le_of_ble_eq_true rfl, Nat.le_of_ble_eq_true rfl⟩) hXg hK hP hD hS hA hXs [] rfl rfl  rfl rfl rfl hl.1 rfl (Nat.le_of_ble_eq_true rfl) rfl ⟨Nat.zero_le _, Nat.zero_le _⟩ dX4_hasSizeBit_2 (fun H locs hP hD hS => ?_)
  refine lv_iconst (v := (2 : Int32)) hx hb dX4_hasSizeBit_5 (by decide) ?_
  have J3 : ∀ (x2 : Int32) (hb_x2 : x2 = 0 ∨ x2 = 1) (ls : Array Slot) (H : Heap) (locs : List Loc), f_X4_hasSizeBit_J3 x2 = r_o → lv_has ls 1 [(0, .int p0)] → va_P D vwCl [] H → va_D A [] → va_S A s.heap H locs → W p l e (qr 1 22) s m args below meth c H locs 0 0 Z (F0 m 14 ls [.int x2]) := by
    intro x2 hb_x2 ls H locs E hl hP hD hS
    rw [f_X4_hasSizeBit_J3] at E
    cases E
    rw [hZ]
    exact qw_zret hx hb hr hlk hb_x2 hP hD hS dX4_hasSizeBit_14
  refine lv_icmp_ne (tgt := 13) hx hb dX4_hasSizeBit_6 (by decide) (fun c1 => ?_) (fun c1 => ?_)
  · rw [if_neg c1] at E
    refine lv_iconst (v := (0 : Int32)) hx hb dX4_hasSizeBit_13 (by decide) ?_
    exact J3 (0 : Int32) (Or.inl rfl) ls _ _ E (lv_sub hl [0] rfl) hP hD hS
  · rw [if_pos c1] at E
    refine lv_iconst (v := (1 : Int32)) hx hb dX4_hasSizeBit_9 (by decide) ?_
    refine lv_goto (tgt := 14) hx hb dX4_hasSizeBit_10 (by decide) ?_
    exact J3 (1 : Int32) (Or.inr rfl) ls _ _ E (lv_sub hl [0] rfl) hP hD hS
def f_X4_hasSize_J8 (x7 : Int32) : Int32 := (x7)
def f_X4_hasSize_J11 (x10 : Int32) : Int32 := (x10)
def f_X4_hasSize_J16 (x15 : Int32) : Int32 := (x15)
def f_X4_hasSize_J20 (x19 : Int32) : Int32 := (x19)
def f_X4_hasSize_J23 (x22 : Int32) : Int32 := (x22)
def f_X4_hasSize_J26 (x25 : Int32) : Int32 := (x25)
def f_X4_hasSize (p0 : Int32) (p1 : Int32) : Int32 := (if (f_X4_cell p0 (2 : Int32)) = (0 : Int32) then ((if p1 = 0 then (f_X4_hasSize_J8 (1 : Int32)) else (f_X4_hasSize_J8 (0 : Int32)))) else (if (f_X4_cell p0 (2 : Int32)) = (1 : Int32) then ((if p1 = (1 : Int32) then (f_X4_hasSize_J11 (1 : Int32)) else (f_X4_hasSize_J11 (0 : Int32)))) else (if (f_X4_cell p0 (2 : Int32)) = (2 : Int32) then ((if p1 = (1 : Int32) then (f_X4_hasSize_J16 (1 : Int32)) else (if p1 = (4 : Int32) then (f_X4_hasSize_J16 (1 : Int32)) else (if p1 = (8 : Int32) then (f_X4_hasSize_J16 (1 : Int32)) else (f_X4_hasSize_J16 (0 : Int32)))))) else (if (f_X4_cell p0 (2 : Int32)) = (3 : Int32) then ((if p1 = (4 : Int32) then (f_X4_hasSize_J20 (1 : Int32)) else (if p1 = (8 : Int32) then (f_X4_hasSize_J20 (1 : Int32)) else (f_X4_hasSize_J20 (0 : Int32))))) else (if (f_X4_cell p0 (2 : Int32)) = (4 : Int32) then ((if p1 = (4 : Int32) then (f_X4_hasSize_J23 (1 : Int32)) else (f_X4_hasSize_J23 (0 : Int32)))) else ((if p1 = (8 : Int32) then (f_X4_hasSize_J26 (1 : Int32)) else (f_X4_hasSize_J26 (0 : Int32)))))))))
set_option maxHeartbeats 4000000 in
set_option maxRecDepth 100000 in
theorem c_X4_hasSize (l : Launch) (D : va_G) (cI : ClassId) (tT : Nat) (p0 : Int32) (p1 : Int32) (r_o : Int32) (hq : f_X4_hasSize p0 p1 = r_o) : qM l yX4_hasSize wsX4_hasSize (qr 1 22) (qX tT) D vwCl [(cI, .int)] [] [.int p0, .int p1] (some (.int r_o)) [] := by
  refine qM_of (cc := cX4_hasSize) (maxL := 2) (ret := (some .boolean)) (by decide) rfl (Nat.le_of_ble_eq_true rfl) ?_
  intro p e s m args below meth c A ls Z hx hb hml hr hts hown hlk hK hA hXs hP hD hS hl hZ
  have hown : s.vm.findClass RX4 = some m.cls := hown
  have hl : lv_has ls 2 [(0, .int p0), (1, .int p1)] := hl
  have hXg := qX_ok tT
  have E := hq
  rw [f_X4_hasSize] at E
  refine lv_iload_n hx hb dX4_hasSize_0 rfl (lv_at hl 0 rfl) ?_
  refine lv_iconst (v := (2 : Int32)) hx hb dX4_hasSize_1 (by decide) ?_
  refine qw_callS (As := [.int p0, .int (2 : Int32)]) (rest := []) (ws' := []) (st1 := [.int (f_X4_cell p0 (2 : Int32))]) ⟨hx, hb, hml, hown, hts⟩ (c_X4_cell l D cI tT p0 (2 : Int32) (f_X4_cell p0 (2 : Int32)) rfl) (va_cwS 2 hts gX4_hasSize_X4_cell rfl rfl rfl (by decide +kernel) ⟨Nat.le_of_ble_eq_true rfl, Nat.le_of_ble_eq_true rfl⟩) hXg hK hP hD hS hA hXs [] rfl rfl  rfl rfl rfl hl.1 rfl (Nat.le_of_ble_eq_true rfl) rfl ⟨Nat.zero_le _, Nat.zero_le _⟩ dX4_hasSize_2 (fun H locs hP hD hS => ?_)
  by_cases c1 : (f_X4_cell p0 (2 : Int32)) = (0 : Int32)
  · rw [if_pos c1] at E
    refine lv_tableIn (off := (35 : Int)) (tgt := 40) hx hb dX4_hasSize_5 (by rw [c1]; decide) (by rw [c1]; decide) (by rw [c1]; rfl) (by decide) ?_
    refine lv_iload_n hx hb dX4_hasSize_40 rfl (lv_at hl 1 rfl) ?_
    have J8 : ∀ (x7 : Int32) (hb_x7 : x7 = 0 ∨ x7 = 1) (ls : Array Slot) (H : Heap) (locs : List Loc), f_X4_hasSize_J8 x7 = r_o → lv_has ls 2 [(0, .int p0), (1, .int p1)] → va_P D vwCl [] H → va_D A [] → va_S A s.heap H locs → W p l e (qr 1 22) s m args below meth c H locs 0 0 Z (F0 m 49 ls [.int x7]) := by
      intro x7 hb_x7 ls H locs E hl hP hD hS
      rw [f_X4_hasSize_J8] at E
      cases E
      rw [hZ]
      exact qw_zret hx hb hr hlk hb_x7 hP hD hS dX4_hasSize_49
    refine lv_if_ne (tgt := 48) hx hb dX4_hasSize_41 (by decide) (fun c6 => ?_) (fun c6 => ?_)
    · rw [if_neg c6] at E
      refine lv_iconst (v := (0 : Int32)) hx hb dX4_hasSize_48 (by decide) ?_
      exact J8 (0 : Int32) (Or.inl rfl) ls _ _ E (lv_sub hl [0, 1] rfl) hP hD hS
    · rw [if_pos c6] at E
      refine lv_iconst (v := (1 : Int32)) hx hb dX4_hasSize_44 (by decide) ?_
      refine lv_goto (tgt := 49) hx hb dX4_hasSize_45 (by decide) ?_
      exact J8 (1 : Int32) (Or.inr rfl) ls _ _ E (lv_sub hl [0, 1] rfl) hP hD hS
  · rw [if_neg c1] at E
    by_cases c2 : (f_X4_cell p0 (2 : Int32)) = (1 : Int32)
    · rw [if_pos c2] at E
      refine lv_tableIn (off := (45 : Int)) (tgt := 50) hx hb dX4_hasSize_5 (by rw [c2]; decide) (by rw [c2]; decide) (by rw [c2]; rfl) (by decide) ?_
      refine lv_iload_n hx hb dX4_hasSize_50 rfl (lv_at hl 1 rfl) ?_
      refine lv_iconst (v := (1 : Int32)) hx hb dX4_hasSize_51 (by decide) ?_
      have J11 : ∀ (x10 : Int32) (hb_x10 : x10 = 0 ∨ x10 = 1) (ls : Array Slot) (H : Heap) (locs : List Loc), f_X4_hasSize_J11 x10 = r_o → lv_has ls 2 [(0, .int p0), (1, .int p1)] → va_P D vwCl [] H → va_D A [] → va_S A s.heap H locs → W p l e (qr 1 22) s m args below meth c H locs 0 0 Z (F0 m 60 ls [.int x10]) := by
        intro x10 hb_x10 ls H locs E hl hP hD hS
        rw [f_X4_hasSize_J11] at E
        cases E
        rw [hZ]
        exact qw_zret hx hb hr hlk hb_x10 hP hD hS dX4_hasSize_60
      refine lv_icmp_ne (tgt := 59) hx hb dX4_hasSize_52 (by decide) (fun c9 => ?_) (fun c9 => ?_)
      · rw [if_neg c9] at E
        refine lv_iconst (v := (0 : Int32)) hx hb dX4_hasSize_59 (by decide) ?_
        exact J11 (0 : Int32) (Or.inl rfl) ls _ _ E (lv_sub hl [0, 1] rfl) hP hD hS
      · rw [if_pos c9] at E
        refine lv_iconst (v := (1 : Int32)) hx hb dX4_hasSize_55 (by decide) ?_
        refine lv_goto (tgt := 60) hx hb dX4_hasSize_56 (by decide) ?_
        exact J11 (1 : Int32) (Or.inr rfl) ls _ _ E (lv_sub hl [0, 1] rfl) hP hD hS
    · rw [if_neg c2] at E
      by_cases c3 : (f_X4_cell p0 (2 : Int32)) = (2 : Int32)
      · rw [if_pos c3] at E
        refine lv_tableIn (off := (56 : Int)) (tgt := 61) hx hb dX4_hasSize_5 (by rw [c3]; decide) (by rw [c3]; decide) (by rw [c3]; rfl) (by decide) ?_
        refine lv_iload_n hx hb dX4_hasSize_61 rfl (lv_at hl 1 rfl) ?_
        refine lv_iconst (v := (1 : Int32)) hx hb dX4_hasSize_62 (by decide) ?_
        have J16 : ∀ (x15 : Int32) (hb_x15 : x15 = 0 ∨ x15 = 1) (ls : Array Slot) (H : Heap) (locs : List Loc), f_X4_hasSize_J16 x15 = r_o → lv_has ls 2 [(0, .int p0), (1, .int p1)] → va_P D vwCl [] H → va_D A [] → va_S A s.heap H locs → W p l e (qr 1 22) s m args below meth c H locs 0 0 Z (F0 m 82 ls [.int x15]) := by
          intro x15 hb_x15 ls H locs E hl hP hD hS
          rw [f_X4_hasSize_J16] at E
          cases E
          rw [hZ]
          exact qw_zret hx hb hr hlk hb_x15 hP hD hS dX4_hasSize_82
        refine lv_icmp_eq (tgt := 77) hx hb dX4_hasSize_63 (by decide) (fun c12 => ?_) (fun c12 => ?_)
        · rw [if_pos c12] at E
          refine lv_iconst (v := (1 : Int32)) hx hb dX4_hasSize_77 (by decide) ?_
          refine lv_goto (tgt := 82) hx hb dX4_hasSize_78 (by decide) ?_
          exact J16 (1 : Int32) (Or.inr rfl) ls _ _ E (lv_sub hl [0, 1] rfl) hP hD hS
        · rw [if_neg c12] at E
          refine lv_iload_n hx hb dX4_hasSize_66 rfl (lv_at hl 1 rfl) ?_
          refine lv_iconst (v := (4 : Int32)) hx hb dX4_hasSize_67 (by decide) ?_
          refine lv_icmp_eq (tgt := 77) hx hb dX4_hasSize_68 (by decide) (fun c13 => ?_) (fun c13 => ?_)
          · rw [if_pos c13] at E
            refine lv_iconst (v := (1 : Int32)) hx hb dX4_hasSize_77 (by decide) ?_
            refine lv_goto (tgt := 82) hx hb dX4_hasSize_78 (by decide) ?_
            exact J16 (1 : Int32) (Or.inr rfl) ls _ _ E (lv_sub hl [0, 1] rfl) hP hD hS
          · rw [if_neg c13] at E
            refine lv_iload_n hx hb dX4_hasSize_71 rfl (lv_at hl 1 rfl) ?_
            refine lv_bipush (v := (8 : Int32)) hx hb dX4_hasSize_72 (by decide) ?_
            refine lv_icmp_ne (tgt := 81) hx hb dX4_hasSize_74 (by decide) (fun c14 => ?_) (fun c14 => ?_)
            · rw [if_neg c14] at E
              refine lv_iconst (v := (0 : Int32)) hx hb dX4_hasSize_81 (by decide) ?_
              exact J16 (0 : Int32) (Or.inl rfl) ls _ _ E (lv_sub hl [0, 1] rfl) hP hD hS
            · rw [if_pos c14] at E
              refine lv_iconst (v := (1 : Int32)) hx hb dX4_hasSize_77 (by decide) ?_
              refine lv_goto (tgt := 82) hx hb dX4_hasSize_78 (by decide) ?_
              exact J16 (1 : Int32) (Or.inr rfl) ls _ _ E (lv_sub hl [0, 1] rfl) hP hD hS
      · rw [if_neg c3] at E
        by_cases c4 : (f_X4_cell p0 (2 : Int32)) = (3 : Int32)
        · rw [if_pos c4] at E
          refine lv_tableIn (off := (78 : Int)) (tgt := 83) hx hb dX4_hasSize_5 (by rw [c4]; decide) (by rw [c4]; decide) (by rw [c4]; rfl) (by decide) ?_
          refine lv_iload_n hx hb dX4_hasSize_83 rfl (lv_at hl 1 rfl) ?_
          refine lv_iconst (v := (4 : Int32)) hx hb dX4_hasSize_84 (by decide) ?_
          have J20 : ∀ (x19 : Int32) (hb_x19 : x19 = 0 ∨ x19 = 1) (ls : Array Slot) (H : Heap) (locs : List Loc), f_X4_hasSize_J20 x19 = r_o → lv_has ls 2 [(0, .int p0), (1, .int p1)] → va_P D vwCl [] H → va_D A [] → va_S A s.heap H locs → W p l e (qr 1 22) s m args below meth c H locs 0 0 Z (F0 m 99 ls [.int x19]) := by
            intro x19 hb_x19 ls H locs E hl hP hD hS
            rw [f_X4_hasSize_J20] at E
            cases E
            rw [hZ]
            exact qw_zret hx hb hr hlk hb_x19 hP hD hS dX4_hasSize_99
          refine lv_icmp_eq (tgt := 94) hx hb dX4_hasSize_85 (by decide) (fun c17 => ?_) (fun c17 => ?_)
          · rw [if_pos c17] at E
            refine lv_iconst (v := (1 : Int32)) hx hb dX4_hasSize_94 (by decide) ?_
            refine lv_goto (tgt := 99) hx hb dX4_hasSize_95 (by decide) ?_
            exact J20 (1 : Int32) (Or.inr rfl) ls _ _ E (lv_sub hl [0, 1] rfl) hP hD hS
          · rw [if_neg c17] at E
            refine lv_iload_n hx hb dX4_hasSize_88 rfl (lv_at hl 1 rfl) ?_
            refine lv_bipush (v := (8 : Int32)) hx hb dX4_hasSize_89 (by decide) ?_
            refine lv_icmp_ne (tgt := 98) hx hb dX4_hasSize_91 (by decide) (fun c18 => ?_) (fun c18 => ?_)
            · rw [if_neg c18] at E
              refine lv_iconst (v := (0 : Int32)) hx hb dX4_hasSize_98 (by decide) ?_
              exact J20 (0 : Int32) (Or.inl rfl) ls _ _ E (lv_sub hl [0, 1] rfl) hP hD hS
            · rw [if_pos c18] at E
              refine lv_iconst (v := (1 : Int32)) hx hb dX4_hasSize_94 (by decide) ?_
              refine lv_goto (tgt := 99) hx hb dX4_hasSize_95 (by decide) ?_
              exact J20 (1 : Int32) (Or.inr rfl) ls _ _ E (lv_sub hl [0, 1] rfl) hP hD hS
        · rw [if_neg c4] at E
          by_cases c5 : (f_X4_cell p0 (2 : Int32)) = (4 : Int32)
          · rw [if_pos c5] at E
            refine lv_tableIn (off := (95 : Int)) (tgt := 100) hx hb dX4_hasSize_5 (by rw [c5]; decide) (by rw [c5]; decide) (by rw [c5]; rfl) (by decide) ?_
            refine lv_iload_n hx hb dX4_hasSize_100 rfl (lv_at hl 1 rfl) ?_
            refine lv_iconst (v := (4 : Int32)) hx hb dX4_hasSize_101 (by decide) ?_
            have J23 : ∀ (x22 : Int32) (hb_x22 : x22 = 0 ∨ x22 = 1) (ls : Array Slot) (H : Heap) (locs : List Loc), f_X4_hasSize_J23 x22 = r_o → lv_has ls 2 [(0, .int p0), (1, .int p1)] → va_P D vwCl [] H → va_D A [] → va_S A s.heap H locs → W p l e (qr 1 22) s m args below meth c H locs 0 0 Z (F0 m 110 ls [.int x22]) := by
              intro x22 hb_x22 ls H locs E hl hP hD hS
              rw [f_X4_hasSize_J23] at E
              cases E
              rw [hZ]
              exact qw_zret hx hb hr hlk hb_x22 hP hD hS dX4_hasSize_110
            refine lv_icmp_ne (tgt := 109) hx hb dX4_hasSize_102 (by decide) (fun c21 => ?_) (fun c21 => ?_)
            · rw [if_neg c21] at E
              refine lv_iconst (v := (0 : Int32)) hx hb dX4_hasSize_109 (by decide) ?_
              exact J23 (0 : Int32) (Or.inl rfl) ls _ _ E (lv_sub hl [0, 1] rfl) hP hD hS
            · rw [if_pos c21] at E
              refine lv_iconst (v := (1 : Int32)) hx hb dX4_hasSize_105 (by decide) ?_
              refine lv_goto (tgt := 110) hx hb dX4_hasSize_106 (by decide) ?_
              exact J23 (1 : Int32) (Or.inr rfl) ls _ _ E (lv_sub hl [0, 1] rfl) hP hD hS
          · rw [if_neg c5] at E
            refine lv_tableOut (tgt := 111) hx hb dX4_hasSize_5 (by have nc1 := lv_neT c1 (a := 0) rfl; have nc2 := lv_neT c2 (a := 1) rfl; have nc3 := lv_neT c3 (a := 2) rfl; have nc4 := lv_neT c4 (a := 3) rfl; have nc5 := lv_neT c5 (a := 4) rfl; omega) (by decide) ?_
            refine lv_iload_n hx hb dX4_hasSize_111 rfl (lv_at hl 1 rfl) ?_
            refine lv_bipush (v := (8 : Int32)) hx hb dX4_hasSize_112 (by decide) ?_
            have J26 : ∀ (x25 : Int32) (hb_x25 : x25 = 0 ∨ x25 = 1) (ls : Array Slot) (H : Heap) (locs : List Loc), f_X4_hasSize_J26 x25 = r_o → lv_has ls 2 [(0, .int p0), (1, .int p1)] → va_P D vwCl [] H → va_D A [] → va_S A s.heap H locs → W p l e (qr 1 22) s m args below meth c H locs 0 0 Z (F0 m 122 ls [.int x25]) := by
              intro x25 hb_x25 ls H locs E hl hP hD hS
              rw [f_X4_hasSize_J26] at E
              cases E
              rw [hZ]
              exact qw_zret hx hb hr hlk hb_x25 hP hD hS dX4_hasSize_122
            refine lv_icmp_ne (tgt := 121) hx hb dX4_hasSize_114 (by decide) (fun c24 => ?_) (fun c24 => ?_)
            · rw [if_neg c24] at E
              refine lv_iconst (v := (0 : Int32)) hx hb dX4_hasSize_121 (by decide) ?_
              exact J26 (0 : Int32) (Or.inl rfl) ls _ _ E (lv_sub hl [0, 1] rfl) hP hD hS
            · rw [if_pos c24] at E
              refine lv_iconst (v := (1 : Int32)) hx hb dX4_hasSize_117 (by decide) ?_
              refine lv_goto (tgt := 122) hx hb dX4_hasSize_118 (by decide) ?_
              exact J26 (1 : Int32) (Or.inr rfl) ls _ _ E (lv_sub hl [0, 1] rfl) hP hD hS
def f_X4_sizeNeedsW_J4 (x3 : Int32) : Int32 := (x3)
def f_X4_sizeNeedsW (p0 : Int32) (p1 : Int32) : Int32 := ((if p1 = (8 : Int32) then (if (f_X4_cell p0 (2 : Int32)) = (6 : Int32) then (f_X4_sizeNeedsW_J4 (0 : Int32)) else (f_X4_sizeNeedsW_J4 (1 : Int32))) else (f_X4_sizeNeedsW_J4 (0 : Int32))))
set_option maxHeartbeats 4000000 in
set_option maxRecDepth 100000 in
theorem c_X4_sizeNeedsW (l : Launch) (D : va_G) (cI : ClassId) (tT : Nat) (p0 : Int32) (p1 : Int32) (r_o : Int32) (hq : f_X4_sizeNeedsW p0 p1 = r_o) : qM l yX4_sizeNeedsW wsX4_sizeNeedsW (qr 1 22) (qX tT) D vwCl [(cI, .int)] [] [.int p0, .int p1] (some (.int r_o)) [] := by
  refine qM_of (cc := cX4_sizeNeedsW) (maxL := 2) (ret := (some .boolean)) (by decide) rfl (Nat.le_of_ble_eq_true rfl) ?_
  intro p e s m args below meth c A ls Z hx hb hml hr hts hown hlk hK hA hXs hP hD hS hl hZ
  have hown : s.vm.findClass RX4 = some m.cls := hown
  have hl : lv_has ls 2 [(0, .int p0), (1, .int p1)] := hl
  have hXg := qX_ok tT
  have E := hq
  rw [f_X4_sizeNeedsW] at E
  refine lv_iload_n hx hb dX4_sizeNeedsW_0 rfl (lv_at hl 1 rfl) ?_
  refine lv_bipush (v := (8 : Int32)) hx hb dX4_sizeNeedsW_1 (by decide) ?_
  have J4 : ∀ (x3 : Int32) (hb_x3 : x3 = 0 ∨ x3 = 1) (ls : Array Slot) (H : Heap) (locs : List Loc), f_X4_sizeNeedsW_J4 x3 = r_o → lv_has ls 2 [(0, .int p0), (1, .int p1)] → va_P D vwCl [] H → va_D A [] → va_S A s.heap H locs → W p l e (qr 1 22) s m args below meth c H locs 0 0 Z (F0 m 21 ls [.int x3]) := by
    intro x3 hb_x3 ls H locs E hl hP hD hS
    rw [f_X4_sizeNeedsW_J4] at E
    cases E
    rw [hZ]
    exact qw_zret hx hb hr hlk hb_x3 hP hD hS dX4_sizeNeedsW_21
  refine lv_icmp_ne (tgt := 20) hx hb dX4_sizeNeedsW_3 (by decide) (fun c1 => ?_) (fun c1 => ?_)
  · rw [if_neg c1] at E
    refine lv_iconst (v := (0 : Int32)) hx hb dX4_sizeNeedsW_20 (by decide) ?_
    exact J4 (0 : Int32) (Or.inl rfl) ls _ _ E (lv_sub hl [0, 1] rfl) hP hD hS
  · rw [if_pos c1] at E
    refine lv_iload_n hx hb dX4_sizeNeedsW_6 rfl (lv_at hl 0 rfl) ?_
    refine lv_iconst (v := (2 : Int32)) hx hb dX4_sizeNeedsW_7 (by decide) ?_
    refine qw_callS (As := [.int p0, .int (2 : Int32)]) (rest := []) (ws' := []) (st1 := [.int (f_X4_cell p0 (2 : Int32))]) ⟨hx, hb, hml, hown, hts⟩ (c_X4_cell l D cI tT p0 (2 : Int32) (f_X4_cell p0 (2 : Int32)) rfl) (va_cwS 2 hts gX4_sizeNeedsW_X4_cell rfl rfl rfl (by decide +kernel) ⟨Nat.le_of_ble_eq_true rfl, Nat.le_of_ble_eq_true rfl⟩) hXg hK hP hD hS hA hXs [] rfl rfl  rfl rfl rfl hl.1 rfl (Nat.le_of_ble_eq_true rfl) rfl ⟨Nat.zero_le _, Nat.zero_le _⟩ dX4_sizeNeedsW_8 (fun H locs hP hD hS => ?_)
    refine lv_bipush (v := (6 : Int32)) hx hb dX4_sizeNeedsW_11 (by decide) ?_
    refine lv_icmp_eq (tgt := 20) hx hb dX4_sizeNeedsW_13 (by decide) (fun c2 => ?_) (fun c2 => ?_)
    · rw [if_pos c2] at E
      refine lv_iconst (v := (0 : Int32)) hx hb dX4_sizeNeedsW_20 (by decide) ?_
      exact J4 (0 : Int32) (Or.inl rfl) ls _ _ E (lv_sub hl [0, 1] rfl) hP hD hS
    · rw [if_neg c2] at E
      refine lv_iconst (v := (1 : Int32)) hx hb dX4_sizeNeedsW_16 (by decide) ?_
      refine lv_goto (tgt := 21) hx hb dX4_sizeNeedsW_17 (by decide) ?_
      exact J4 (1 : Int32) (Or.inr rfl) ls _ _ E (lv_sub hl [0, 1] rfl) hP hD hS
def f_X4_allowsW_J5 (x4 : Int32) : Int32 := (x4)
def f_X4_allowsW (p0 : Int32) (p1 : Int32) : Int32 := ((if p1 = 0 then (if (f_X4_cell p0 (2 : Int32)) = (5 : Int32) then (f_X4_allowsW_J5 (0 : Int32)) else (f_X4_allowsW_J5 (1 : Int32))) else (if (f_X4_cell p0 (2 : Int32)) = (4 : Int32) then (f_X4_allowsW_J5 (0 : Int32)) else (f_X4_allowsW_J5 (1 : Int32)))))
set_option maxHeartbeats 4000000 in
set_option maxRecDepth 100000 in
theorem c_X4_allowsW (l : Launch) (D : va_G) (cI : ClassId) (tT : Nat) (p0 : Int32) (p1 : Int32) (r_o : Int32) (hq : f_X4_allowsW p0 p1 = r_o) : qM l yX4_allowsW wsX4_allowsW (qr 1 22) (qX tT) D vwCl [(cI, .int)] [] [.int p0, .int p1] (some (.int r_o)) [] := by
  refine qM_of (cc := cX4_allowsW) (maxL := 3) (ret := (some .boolean)) (by decide) rfl (Nat.le_of_ble_eq_true rfl) ?_
  intro p e s m args below meth c A ls Z hx hb hml hr hts hown hlk hK hA hXs hP hD hS hl hZ
  have hown : s.vm.findClass RX4 = some m.cls := hown
  have hl : lv_has ls 3 [(0, .int p0), (1, .int p1)] := hl
  have hXg := qX_ok tT
  have E := hq
  rw [f_X4_allowsW] at E
  refine lv_iload_n hx hb dX4_allowsW_0 rfl (lv_at hl 0 rfl) ?_
  refine lv_iconst (v := (2 : Int32)) hx hb dX4_allowsW_1 (by decide) ?_
  refine qw_callS (As := [.int p0, .int (2 : Int32)]) (rest := []) (ws' := []) (st1 := [.int (f_X4_cell p0 (2 : Int32))]) ⟨hx, hb, hml, hown, hts⟩ (c_X4_cell l D cI tT p0 (2 : Int32) (f_X4_cell p0 (2 : Int32)) rfl) (va_cwS 2 hts gX4_allowsW_X4_cell rfl rfl rfl (by decide +kernel) ⟨Nat.le_of_ble_eq_true rfl, Nat.le_of_ble_eq_true rfl⟩) hXg hK hP hD hS hA hXs [] rfl rfl  rfl rfl rfl hl.1 rfl (Nat.le_of_ble_eq_true rfl) rfl ⟨Nat.zero_le _, Nat.zero_le _⟩ dX4_allowsW_2 (fun H locs hP hD hS => ?_)
  refine lv_istore_n (lv' := [(2, .int (f_X4_cell p0 (2 : Int32))), (0, .int p0), (1, .int p1)]) hx hb dX4_allowsW_5 rfl hl (by decide) rfl (fun ls hl => ?_)
  refine lv_iload_n hx hb dX4_allowsW_6 rfl (lv_at hl 2 rfl) ?_
  have J5 : ∀ (x4 : Int32) (hb_x4 : x4 = 0 ∨ x4 = 1) (ls : Array Slot) (H : Heap) (locs : List Loc), f_X4_allowsW_J5 x4 = r_o → lv_has ls 3 [(2, .int (f_X4_cell p0 (2 : Int32))), (0, .int p0), (1, .int p1)] → va_P D vwCl [] H → va_D A [] → va_S A s.heap H locs → W p l e (qr 1 22) s m args below meth c H locs 0 0 Z (F0 m 33 ls [.int x4]) := by
    intro x4 hb_x4 ls H locs E hl hP hD hS
    rw [f_X4_allowsW_J5] at E
    cases E
    rw [hZ]
    exact qw_zret hx hb hr hlk hb_x4 hP hD hS dX4_allowsW_33
  refine lv_if_eq (tgt := 23) hx hb dX4_allowsW_7 (by decide) (fun c1 => ?_) (fun c1 => ?_)
  · rw [if_pos c1] at E
    refine lv_iload_n hx hb dX4_allowsW_23 rfl (lv_at hl 0 rfl) ?_
    refine lv_iconst (v := (5 : Int32)) hx hb dX4_allowsW_24 (by decide) ?_
    refine lv_icmp_eq (tgt := 32) hx hb dX4_allowsW_25 (by decide) (fun c2 => ?_) (fun c2 => ?_)
    · rw [if_pos c2] at E
      refine lv_iconst (v := (0 : Int32)) hx hb dX4_allowsW_32 (by decide) ?_
      exact J5 (0 : Int32) (Or.inl rfl) ls _ _ E (lv_sub hl [0, 1, 2] rfl) hP hD hS
    · rw [if_neg c2] at E
      refine lv_iconst (v := (1 : Int32)) hx hb dX4_allowsW_28 (by decide) ?_
      refine lv_goto (tgt := 33) hx hb dX4_allowsW_29 (by decide) ?_
      exact J5 (1 : Int32) (Or.inr rfl) ls _ _ E (lv_sub hl [0, 1, 2] rfl) hP hD hS
  · rw [if_neg c1] at E
    refine lv_iload_n hx hb dX4_allowsW_10 rfl (lv_at hl 0 rfl) ?_
    refine lv_iconst (v := (4 : Int32)) hx hb dX4_allowsW_11 (by decide) ?_
    refine lv_icmp_eq (tgt := 19) hx hb dX4_allowsW_12 (by decide) (fun c3 => ?_) (fun c3 => ?_)
    · rw [if_pos c3] at E
      refine lv_iconst (v := (0 : Int32)) hx hb dX4_allowsW_19 (by decide) ?_
      refine lv_goto (tgt := 33) hx hb dX4_allowsW_20 (by decide) ?_
      exact J5 (0 : Int32) (Or.inl rfl) ls _ _ E (lv_sub hl [0, 1, 2] rfl) hP hD hS
    · rw [if_neg c3] at E
      refine lv_iconst (v := (1 : Int32)) hx hb dX4_allowsW_15 (by decide) ?_
      refine lv_goto (tgt := 33) hx hb dX4_allowsW_16 (by decide) ?_
      exact J5 (1 : Int32) (Or.inr rfl) ls _ _ E (lv_sub hl [0, 1, 2] rfl) hP hD hS
def f_X4_sizeTold_J9 (x8 : Int32) : Int32 := (x8)
def f_X4_sizeTold_J5 (p0 : Int32) (p2 : Int32) : Int32 := ((if p2 = 0 then (if (f_X4_cell p0 (2 : Int32)) = (6 : Int32) then (f_X4_sizeTold_J9 (8 : Int32)) else (f_X4_sizeTold_J9 (4 : Int32))) else (f_X4_sizeTold_J9 (8 : Int32))))
def f_X4_sizeTold (p0 : Int32) (p1 : Int32) (p2 : Int32) : Int32 := (if (f_X4_cell p0 (2 : Int32)) = 0 then ((0 : Int32)) else (if (f_X4_cell p0 (2 : Int32)) = (1 : Int32) then ((1 : Int32)) else ((if (f_X4_cell p0 (2 : Int32)) = (2 : Int32) then (if p1 = 0 then ((1 : Int32)) else (f_X4_sizeTold_J5 p0 p2)) else (f_X4_sizeTold_J5 p0 p2)))))
set_option maxHeartbeats 4000000 in
set_option maxRecDepth 100000 in
theorem c_X4_sizeTold (l : Launch) (D : va_G) (cI : ClassId) (tT : Nat) (p0 : Int32) (p1 : Int32) (p2 : Int32) (r_o : Int32) (hq : f_X4_sizeTold p0 p1 p2 = r_o) : qM l yX4_sizeTold wsX4_sizeTold (qr 1 22) (qX tT) D vwCl [(cI, .int)] [] [.int p0, .int p1, .int p2] (some (.int r_o)) [] := by
  refine qM_of (cc := cX4_sizeTold) (maxL := 4) (ret := (some .int)) (by decide) rfl (Nat.le_of_ble_eq_true rfl) ?_
  intro p e s m args below meth c A ls Z hx hb hml hr hts hown hlk hK hA hXs hP hD hS hl hZ
  have hown : s.vm.findClass RX4 = some m.cls := hown
  have hl : lv_has ls 4 [(0, .int p0), (1, .int p1), (2, .int p2)] := hl
  have hXg := qX_ok tT
  have E := hq
  rw [f_X4_sizeTold] at E
  refine lv_iload_n hx hb dX4_sizeTold_0 rfl (lv_at hl 0 rfl) ?_
  refine lv_iconst (v := (2 : Int32)) hx hb dX4_sizeTold_1 (by decide) ?_
  refine qw_callS (As := [.int p0, .int (2 : Int32)]) (rest := []) (ws' := []) (st1 := [.int (f_X4_cell p0 (2 : Int32))]) ⟨hx, hb, hml, hown, hts⟩ (c_X4_cell l D cI tT p0 (2 : Int32) (f_X4_cell p0 (2 : Int32)) rfl) (va_cwS 2 hts gX4_sizeTold_X4_cell rfl rfl rfl (by decide +kernel) ⟨Nat.le_of_ble_eq_true rfl, Nat.le_of_ble_eq_true rfl⟩) hXg hK hP hD hS hA hXs [] rfl rfl  rfl rfl rfl hl.1 rfl (Nat.le_of_ble_eq_true rfl) rfl ⟨Nat.zero_le _, Nat.zero_le _⟩ dX4_sizeTold_2 (fun H locs hP hD hS => ?_)
  refine lv_istore_n (lv' := [(3, .int (f_X4_cell p0 (2 : Int32))), (0, .int p0), (1, .int p1), (2, .int p2)]) hx hb dX4_sizeTold_5 rfl hl (by decide) rfl (fun ls hl => ?_)
  refine lv_iload_n hx hb dX4_sizeTold_6 rfl (lv_at hl 0 rfl) ?_
  refine lv_if_ne (tgt := 12) hx hb dX4_sizeTold_7 (by decide) (fun c1 => ?_) (fun c1 => ?_)
  · rw [if_neg c1] at E
    refine lv_iload_n hx hb dX4_sizeTold_12 rfl (lv_at hl 0 rfl) ?_
    refine lv_iconst (v := (1 : Int32)) hx hb dX4_sizeTold_13 (by decide) ?_
    refine lv_icmp_eq (tgt := 26) hx hb dX4_sizeTold_14 (by decide) (fun c2 => ?_) (fun c2 => ?_)
    · rw [if_pos c2] at E
      refine lv_iconst (v := (1 : Int32)) hx hb dX4_sizeTold_26 (by decide) ?_
      cases E
      rw [hZ]
      exact qw_iret hx hb hr hlk hP hD hS dX4_sizeTold_27
    · rw [if_neg c2] at E
      refine lv_iload_n hx hb dX4_sizeTold_17 rfl (lv_at hl 0 rfl) ?_
      refine lv_iconst (v := (2 : Int32)) hx hb dX4_sizeTold_18 (by decide) ?_
      have J5 : ∀  (ls : Array Slot) (H : Heap) (locs : List Loc), f_X4_sizeTold_J5 p0 p2 = r_o → lv_has ls 4 [(3, .int (f_X4_cell p0 (2 : Int32))), (0, .int p0), (1, .int p1), (2, .int p2)] → va_P D vwCl [] H → va_D A [] → va_S A s.heap H locs → W p l e (qr 1 22) s m args below meth c H locs 0 0 Z (F0 m 28 ls []) := by
        intro  ls H locs E hl hP hD hS
        rw [f_X4_sizeTold_J5] at E
        refine lv_iload_n hx hb dX4_sizeTold_28 rfl (lv_at hl 3 rfl) ?_
        have J9 : ∀ (x8 : Int32) (ls : Array Slot) (H : Heap) (locs : List Loc), f_X4_sizeTold_J9 x8 = r_o → lv_has ls 4 [(3, .int (f_X4_cell p0 (2 : Int32))), (0, .int p0), (1, .int p1), (2, .int p2)] → va_P D vwCl [] H → va_D A [] → va_S A s.heap H locs → W p l e (qr 1 22) s m args below meth c H locs 0 0 Z (F0 m 44 ls [.int x8]) := by
          intro x8 ls H locs E hl hP hD hS
          rw [f_X4_sizeTold_J9] at E
          cases E
          rw [hZ]
          exact qw_iret hx hb hr hlk hP hD hS dX4_sizeTold_44
        refine lv_if_ne (tgt := 38) hx hb dX4_sizeTold_29 (by decide) (fun c6 => ?_) (fun c6 => ?_)
        · rw [if_neg c6] at E
          refine lv_bipush (v := (8 : Int32)) hx hb dX4_sizeTold_38 (by decide) ?_
          refine lv_goto (tgt := 44) hx hb dX4_sizeTold_40 (by decide) ?_
          exact J9 (8 : Int32) ls _ _ E (lv_sub hl [0, 1, 2, 3] rfl) hP hD hS
        · rw [if_pos c6] at E
          refine lv_iload_n hx hb dX4_sizeTold_32 rfl (lv_at hl 0 rfl) ?_
          refine lv_bipush (v := (6 : Int32)) hx hb dX4_sizeTold_33 (by decide) ?_
          refine lv_icmp_ne (tgt := 43) hx hb dX4_sizeTold_35 (by decide) (fun c7 => ?_) (fun c7 => ?_)
          · rw [if_neg c7] at E
            refine lv_iconst (v := (4 : Int32)) hx hb dX4_sizeTold_43 (by decide) ?_
            exact J9 (4 : Int32) ls _ _ E (lv_sub hl [0, 1, 2, 3] rfl) hP hD hS
          · rw [if_pos c7] at E
            refine lv_bipush (v := (8 : Int32)) hx hb dX4_sizeTold_38 (by decide) ?_
            refine lv_goto (tgt := 44) hx hb dX4_sizeTold_40 (by decide) ?_
            exact J9 (8 : Int32) ls _ _ E (lv_sub hl [0, 1, 2, 3] rfl) hP hD hS
      refine lv_icmp_ne (tgt := 28) hx hb dX4_sizeTold_19 (by decide) (fun c3 => ?_) (fun c3 => ?_)
      · rw [if_neg c3] at E
        exact J5  ls _ _ E (lv_sub hl [0, 1, 2, 3] rfl) hP hD hS
      · rw [if_pos c3] at E
        refine lv_iload_n hx hb dX4_sizeTold_22 rfl (lv_at hl 2 rfl) ?_
        refine lv_if_ne (tgt := 28) hx hb dX4_sizeTold_23 (by decide) (fun c4 => ?_) (fun c4 => ?_)
        · rw [if_neg c4] at E
          exact J5  ls _ _ E (lv_sub hl [0, 1, 2, 3] rfl) hP hD hS
        · rw [if_pos c4] at E
          refine lv_iconst (v := (1 : Int32)) hx hb dX4_sizeTold_26 (by decide) ?_
          cases E
          rw [hZ]
          exact qw_iret hx hb hr hlk hP hD hS dX4_sizeTold_27
  · rw [if_pos c1] at E
    refine lv_iconst (v := (0 : Int32)) hx hb dX4_sizeTold_10 (by decide) ?_
    cases E
    rw [hZ]
    exact qw_iret hx hb hr hlk hP hD hS dX4_sizeTold_11
def f_X4_opcodes_J5 (x4 : Int32) : Int32 := (x4)
def f_X4_opcodes (p0 : Int32) : Int32 := (if (f_X4_hasCondition p0) = 0 then (if (f_X4_hasSizeBit p0) = 0 then ((if (f_X4_roleOf p0 (0 : Int32)) = (5 : Int32) then (f_X4_opcodes_J5 (8 : Int32)) else (f_X4_opcodes_J5 (1 : Int32)))) else ((2 : Int32))) else ((16 : Int32)))
set_option maxHeartbeats 4000000 in
set_option maxRecDepth 100000 in
theorem c_X4_opcodes (l : Launch) (D : va_G) (cI : ClassId) (tT : Nat) (p0 : Int32) (r_o : Int32) (hq : f_X4_opcodes p0 = r_o) : qM l yX4_opcodes wsX4_opcodes (qr 2 43) (qX tT) D vwCl [(cI, .int)] [] [.int p0] (some (.int r_o)) [] := by
  refine qM_of (cc := cX4_opcodes) (maxL := 1) (ret := (some .int)) (by decide) rfl (Nat.le_of_ble_eq_true rfl) ?_
  intro p e s m args below meth c A ls Z hx hb hml hr hts hown hlk hK hA hXs hP hD hS hl hZ
  have hown : s.vm.findClass RX4 = some m.cls := hown
  have hl : lv_has ls 1 [(0, .int p0)] := hl
  have hXg := qX_ok tT
  have E := hq
  rw [f_X4_opcodes] at E
  refine lv_iload_n hx hb dX4_opcodes_0 rfl (lv_at hl 0 rfl) ?_
  refine qw_callS (As := [.int p0]) (rest := []) (ws' := []) (st1 := [.int (f_X4_hasCondition p0)]) ⟨hx, hb, hml, hown, hts⟩ (c_X4_hasCondition l D cI tT p0 (f_X4_hasCondition p0) rfl) (va_cwS 1 hts gX4_opcodes_X4_hasCondition rfl rfl rfl (by decide +kernel) ⟨Nat.le_of_ble_eq_true rfl, Nat.le_of_ble_eq_true rfl⟩) hXg hK hP hD hS hA hXs [] rfl rfl  rfl rfl rfl hl.1 rfl (Nat.le_of_ble_eq_true rfl) rfl ⟨Nat.zero_le _, Nat.zero_le _⟩ dX4_opcodes_1 (fun H locs hP hD hS => ?_)
  refine lv_if_eq (tgt := 10) hx hb dX4_opcodes_4 (by decide) (fun c1 => ?_) (fun c1 => ?_)
  · rw [if_pos c1] at E
    refine lv_iload_n hx hb dX4_opcodes_10 rfl (lv_at hl 0 rfl) ?_
    refine qw_callS (As := [.int p0]) (rest := []) (ws' := []) (st1 := [.int (f_X4_hasSizeBit p0)]) ⟨hx, hb, hml, hown, hts⟩ (c_X4_hasSizeBit l D cI tT p0 (f_X4_hasSizeBit p0) rfl) (va_cwS 1 hts gX4_opcodes_X4_hasSizeBit rfl rfl rfl (by decide +kernel) ⟨Nat.le_of_ble_eq_true rfl, Nat.le_of_ble_eq_true rfl⟩) hXg hK hP hD hS hA hXs [] rfl rfl  rfl rfl rfl hl.1 rfl (Nat.le_of_ble_eq_true rfl) rfl ⟨Nat.zero_le _, Nat.zero_le _⟩ dX4_opcodes_11 (fun H locs hP hD hS => ?_)
    refine lv_if_eq (tgt := 19) hx hb dX4_opcodes_14 (by decide) (fun c2 => ?_) (fun c2 => ?_)
    · rw [if_pos c2] at E
      refine lv_iload_n hx hb dX4_opcodes_19 rfl (lv_at hl 0 rfl) ?_
      refine lv_iconst (v := (0 : Int32)) hx hb dX4_opcodes_20 (by decide) ?_
      refine qw_callS (As := [.int p0, .int (0 : Int32)]) (rest := []) (ws' := []) (st1 := [.int (f_X4_roleOf p0 (0 : Int32))]) ⟨hx, hb, hml, hown, hts⟩ (c_X4_roleOf l D cI tT p0 (0 : Int32) (f_X4_roleOf p0 (0 : Int32)) rfl) (va_cwS 2 hts gX4_opcodes_X4_roleOf rfl rfl rfl (by decide +kernel) ⟨Nat.le_of_ble_eq_true rfl, Nat.le_of_ble_eq_true rfl⟩) hXg hK hP hD hS hA hXs [] rfl rfl  rfl rfl rfl hl.1 rfl (Nat.le_of_ble_eq_true rfl) rfl ⟨Nat.zero_le _, Nat.zero_le _⟩ dX4_opcodes_21 (fun H locs hP hD hS => ?_)
      refine lv_iconst (v := (5 : Int32)) hx hb dX4_opcodes_24 (by decide) ?_
      have J5 : ∀ (x4 : Int32) (ls : Array Slot) (H : Heap) (locs : List Loc), f_X4_opcodes_J5 x4 = r_o → lv_has ls 1 [(0, .int p0)] → va_P D vwCl [] H → va_D A [] → va_S A s.heap H locs → W p l e (qr 2 43) s m args below meth c H locs 0 0 Z (F0 m 34 ls [.int x4]) := by
        intro x4 ls H locs E hl hP hD hS
        rw [f_X4_opcodes_J5] at E
        cases E
        rw [hZ]
        exact qw_iret hx hb hr hlk hP hD hS dX4_opcodes_34
      refine lv_icmp_ne (tgt := 33) hx hb dX4_opcodes_25 (by decide) (fun c3 => ?_) (fun c3 => ?_)
      · rw [if_neg c3] at E
        refine lv_iconst (v := (1 : Int32)) hx hb dX4_opcodes_33 (by decide) ?_
        exact J5 (1 : Int32) ls _ _ E (lv_sub hl [0] rfl) hP hD hS
      · rw [if_pos c3] at E
        refine lv_bipush (v := (8 : Int32)) hx hb dX4_opcodes_28 (by decide) ?_
        refine lv_goto (tgt := 34) hx hb dX4_opcodes_30 (by decide) ?_
        exact J5 (8 : Int32) ls _ _ E (lv_sub hl [0] rfl) hP hD hS
    · rw [if_neg c2] at E
      refine lv_iconst (v := (2 : Int32)) hx hb dX4_opcodes_17 (by decide) ?_
      cases E
      rw [hZ]
      exact qw_iret hx hb hr hlk hP hD hS dX4_opcodes_18
  · rw [if_neg c1] at E
    refine lv_bipush (v := (16 : Int32)) hx hb dX4_opcodes_7 (by decide) ?_
    cases E
    rw [hZ]
    exact qw_iret hx hb hr hlk hP hD hS dX4_opcodes_9
def f_X4_hasOpcode_J4 (x3 : Int32) : Int32 := (x3)
def f_X4_hasOpcode (p0 : Int32) (p1 : Int32) : Int32 := ((if (p1 - (f_X4_opcodeOf p0)) < 0 then (f_X4_hasOpcode_J4 (0 : Int32)) else (if (f_X4_opcodes p0) ≤ (p1 - (f_X4_opcodeOf p0)) then (f_X4_hasOpcode_J4 (0 : Int32)) else (f_X4_hasOpcode_J4 (1 : Int32)))))
set_option maxHeartbeats 4000000 in
set_option maxRecDepth 100000 in
theorem c_X4_hasOpcode (l : Launch) (D : va_G) (cI : ClassId) (tT : Nat) (p0 : Int32) (p1 : Int32) (r_o : Int32) (hq : f_X4_hasOpcode p0 p1 = r_o) : qM l yX4_hasOpcode wsX4_hasOpcode (qr 3 63) (qX tT) D vwCl [(cI, .int)] [] [.int p0, .int p1] (some (.int r_o)) [] := by
  refine qM_of (cc := cX4_hasOpcode) (maxL := 3) (ret := (some .boolean)) (by decide) rfl (Nat.le_of_ble_eq_true rfl) ?_
  intro p e s m args below meth c A ls Z hx hb hml hr hts hown hlk hK hA hXs hP hD hS hl hZ
  have hown : s.vm.findClass RX4 = some m.cls := hown
  have hl : lv_has ls 3 [(0, .int p0), (1, .int p1)] := hl
  have hXg := qX_ok tT
  have E := hq
  rw [f_X4_hasOpcode] at E
  refine lv_iload_n hx hb dX4_hasOpcode_0 rfl (lv_at hl 1 rfl) ?_
  refine lv_iload_n hx hb dX4_hasOpcode_1 rfl (lv_at hl 0 rfl) ?_
  refine qw_callS (As := [.int p0]) (rest := [.int p1]) (ws' := []) (st1 := [.int (f_X4_opcodeOf p0), .int p1]) ⟨hx, hb, hml, hown, hts⟩ (c_X4_opcodeOf l D cI tT p0 (f_X4_opcodeOf p0) rfl) (va_cwS 1 hts gX4_hasOpcode_X4_opcodeOf rfl rfl rfl (by decide +kernel) ⟨Nat.le_of_ble_eq_true rfl, Nat.le_of_ble_eq_true rfl⟩) hXg hK hP hD hS hA hXs [] rfl rfl  rfl rfl rfl hl.1 rfl (Nat.le_of_ble_eq_true rfl) rfl ⟨Nat.zero_le _, Nat.zero_le _⟩ dX4_hasOpcode_2 (fun H locs hP hD hS => ?_)
  refine lv_isub hx hb dX4_hasOpcode_5 ?_
  refine lv_istore_n (lv' := [(2, .int (p1 - (f_X4_opcodeOf p0))), (0, .int p0), (1, .int p1)]) hx hb dX4_hasOpcode_6 rfl hl (by decide) rfl (fun ls hl => ?_)
  refine lv_iload_n hx hb dX4_hasOpcode_7 rfl (lv_at hl 0 rfl) ?_
  have J4 : ∀ (x3 : Int32) (hb_x3 : x3 = 0 ∨ x3 = 1) (ls : Array Slot) (H : Heap) (locs : List Loc), f_X4_hasOpcode_J4 x3 = r_o → lv_has ls 3 [(2, .int (p1 - (f_X4_opcodeOf p0))), (0, .int p0), (1, .int p1)] → va_P D vwCl [] H → va_D A [] → va_S A s.heap H locs → W p l e (qr 3 63) s m args below meth c H locs 0 0 Z (F0 m 24 ls [.int x3]) := by
    intro x3 hb_x3 ls H locs E hl hP hD hS
    rw [f_X4_hasOpcode_J4] at E
    cases E
    rw [hZ]
    exact qw_zret hx hb hr hlk hb_x3 hP hD hS dX4_hasOpcode_24
  refine lv_if_lt (tgt := 23) hx hb dX4_hasOpcode_8 (by decide) (fun c1 => ?_) (fun c1 => ?_)
  · rw [if_pos c1] at E
    refine lv_iconst (v := (0 : Int32)) hx hb dX4_hasOpcode_23 (by decide) ?_
    exact J4 (0 : Int32) (Or.inl rfl) ls _ _ E (lv_sub hl [0, 1, 2] rfl) hP hD hS
  · rw [if_neg c1] at E
    refine lv_iload_n hx hb dX4_hasOpcode_11 rfl (lv_at hl 0 rfl) ?_
    refine lv_iload_n hx hb dX4_hasOpcode_12 rfl (lv_at hl 1 rfl) ?_
    refine qw_callS (As := [.int p0]) (rest := [.int (p1 - (f_X4_opcodeOf p0))]) (ws' := []) (st1 := [.int (f_X4_opcodes p0), .int (p1 - (f_X4_opcodeOf p0))]) ⟨hx, hb, hml, hown, hts⟩ (c_X4_opcodes l D cI tT p0 (f_X4_opcodes p0) rfl) (va_cwS 1 hts gX4_hasOpcode_X4_opcodes rfl rfl rfl (by decide +kernel) ⟨Nat.le_of_ble_eq_true rfl, Nat.le_of_ble_eq_true rfl⟩) hXg hK hP hD hS hA hXs [] rfl rfl  rfl rfl rfl hl.1 rfl (Nat.le_of_ble_eq_true rfl) rfl ⟨Nat.zero_le _, Nat.zero_le _⟩ dX4_hasOpcode_13 (fun H locs hP hD hS => ?_)
    refine lv_icmp_ge (tgt := 23) hx hb dX4_hasOpcode_16 (by decide) (fun c2 => ?_) (fun c2 => ?_)
    · rw [if_pos c2] at E
      refine lv_iconst (v := (0 : Int32)) hx hb dX4_hasOpcode_23 (by decide) ?_
      exact J4 (0 : Int32) (Or.inl rfl) ls _ _ E (lv_sub hl [0, 1, 2] rfl) hP hD hS
    · rw [if_neg c2] at E
      refine lv_iconst (v := (1 : Int32)) hx hb dX4_hasOpcode_19 (by decide) ?_
      refine lv_goto (tgt := 24) hx hb dX4_hasOpcode_20 (by decide) ?_
      exact J4 (1 : Int32) (Or.inr rfl) ls _ _ E (lv_sub hl [0, 1, 2] rfl) hP hD hS
def f_X4_allowsForm_J6 (x5 : Int32) : Int32 := (x5)
def f_X4_allowsForm (p0 : Int32) (p1 : Int32) : Int32 := (if (f_X4_digitOf p0) < 0 then ((1 : Int32)) else (if (f_X4_digitOf p0) ≤ (7 : Int32) then ((if p1 < 0 then (f_X4_allowsForm_J6 (0 : Int32)) else (if ((p1 >>> ((3 : Int32) &&& 31)) &&& (7 : Int32)) = (f_X4_digitOf p0) then (f_X4_allowsForm_J6 (1 : Int32)) else (f_X4_allowsForm_J6 (0 : Int32))))) else ((1 : Int32))))
set_option maxHeartbeats 4000000 in
set_option maxRecDepth 100000 in
theorem c_X4_allowsForm (l : Launch) (D : va_G) (cI : ClassId) (tT : Nat) (p0 : Int32) (p1 : Int32) (r_o : Int32) (hq : f_X4_allowsForm p0 p1 = r_o) : qM l yX4_allowsForm wsX4_allowsForm (qr 2 42) (qX tT) D vwCl [(cI, .int)] [] [.int p0, .int p1] (some (.int r_o)) [] := by
  refine qM_of (cc := cX4_allowsForm) (maxL := 3) (ret := (some .boolean)) (by decide) rfl (Nat.le_of_ble_eq_true rfl) ?_
  intro p e s m args below meth c A ls Z hx hb hml hr hts hown hlk hK hA hXs hP hD hS hl hZ
  have hown : s.vm.findClass RX4 = some m.cls := hown
  have hl : lv_has ls 3 [(0, .int p0), (1, .int p1)] := hl
  have hXg := qX_ok tT
  have E := hq
  rw [f_X4_allowsForm] at E
  refine lv_iload_n hx hb dX4_allowsForm_0 rfl (lv_at hl 0 rfl) ?_
  refine qw_callS (As := [.int p0]) (rest := []) (ws' := []) (st1 := [.int (f_X4_digitOf p0)]) ⟨hx, hb, hml, hown, hts⟩ (c_X4_digitOf l D cI tT p0 (f_X4_digitOf p0) rfl) (va_cwS 1 hts gX4_allowsForm_X4_digitOf rfl rfl rfl (by decide +kernel) ⟨Nat.le_of_ble_eq_true rfl, Nat.le_of_ble_eq_true rfl⟩) hXg hK hP hD hS hA hXs [] rfl rfl  rfl rfl rfl hl.1 rfl (Nat.le_of_ble_eq_true rfl) rfl ⟨Nat.zero_le _, Nat.zero_le _⟩ dX4_allowsForm_1 (fun H locs hP hD hS => ?_)
  refine lv_istore_n (lv' := [(2, .int (f_X4_digitOf p0)), (0, .int p0), (1, .int p1)]) hx hb dX4_allowsForm_4 rfl hl (by decide) rfl (fun ls hl => ?_)
  refine lv_iload_n hx hb dX4_allowsForm_5 rfl (lv_at hl 0 rfl) ?_
  refine lv_if_lt (tgt := 15) hx hb dX4_allowsForm_6 (by decide) (fun c1 => ?_) (fun c1 => ?_)
  · rw [if_pos c1] at E
    refine lv_iconst (v := (1 : Int32)) hx hb dX4_allowsForm_15 (by decide) ?_
    cases E
    rw [hZ]
    exact qw_zret hx hb hr hlk (Or.inr rfl) hP hD hS dX4_allowsForm_16
  · rw [if_neg c1] at E
    refine lv_iload_n hx hb dX4_allowsForm_9 rfl (lv_at hl 0 rfl) ?_
    refine lv_bipush (v := (7 : Int32)) hx hb dX4_allowsForm_10 (by decide) ?_
    refine lv_icmp_le (tgt := 17) hx hb dX4_allowsForm_12 (by decide) (fun c2 => ?_) (fun c2 => ?_)
    · rw [if_pos c2] at E
      refine lv_iload_n hx hb dX4_allowsForm_17 rfl (lv_at hl 2 rfl) ?_
      have J6 : ∀ (x5 : Int32) (hb_x5 : x5 = 0 ∨ x5 = 1) (ls : Array Slot) (H : Heap) (locs : List Loc), f_X4_allowsForm_J6 x5 = r_o → lv_has ls 3 [(2, .int (f_X4_digitOf p0)), (0, .int p0), (1, .int p1)] → va_P D vwCl [] H → va_D A [] → va_S A s.heap H locs → W p l e (qr 2 42) s m args below meth c H locs 0 0 Z (F0 m 36 ls [.int x5]) := by
        intro x5 hb_x5 ls H locs E hl hP hD hS
        rw [f_X4_allowsForm_J6] at E
        cases E
        rw [hZ]
        exact qw_zret hx hb hr hlk hb_x5 hP hD hS dX4_allowsForm_36
      refine lv_if_lt (tgt := 35) hx hb dX4_allowsForm_18 (by decide) (fun c3 => ?_) (fun c3 => ?_)
      · rw [if_pos c3] at E
        refine lv_iconst (v := (0 : Int32)) hx hb dX4_allowsForm_35 (by decide) ?_
        exact J6 (0 : Int32) (Or.inl rfl) ls _ _ E (lv_sub hl [0, 1, 2] rfl) hP hD hS
      · rw [if_neg c3] at E
        refine lv_iload_n hx hb dX4_allowsForm_21 rfl (lv_at hl 2 rfl) ?_
        refine lv_iconst (v := (3 : Int32)) hx hb dX4_allowsForm_22 (by decide) ?_
        refine lv_ishr hx hb dX4_allowsForm_23 ?_
        refine lv_bipush (v := (7 : Int32)) hx hb dX4_allowsForm_24 (by decide) ?_
        refine lv_iand hx hb dX4_allowsForm_26 ?_
        refine lv_iload_n hx hb dX4_allowsForm_27 rfl (lv_at hl 0 rfl) ?_
        refine lv_icmp_ne (tgt := 35) hx hb dX4_allowsForm_28 (by decide) (fun c4 => ?_) (fun c4 => ?_)
        · rw [if_neg c4] at E
          refine lv_iconst (v := (0 : Int32)) hx hb dX4_allowsForm_35 (by decide) ?_
          exact J6 (0 : Int32) (Or.inl rfl) ls _ _ E (lv_sub hl [0, 1, 2] rfl) hP hD hS
        · rw [if_pos c4] at E
          refine lv_iconst (v := (1 : Int32)) hx hb dX4_allowsForm_31 (by decide) ?_
          refine lv_goto (tgt := 36) hx hb dX4_allowsForm_32 (by decide) ?_
          exact J6 (1 : Int32) (Or.inr rfl) ls _ _ E (lv_sub hl [0, 1, 2] rfl) hP hD hS
    · rw [if_neg c2] at E
      refine lv_iconst (v := (1 : Int32)) hx hb dX4_allowsForm_15 (by decide) ?_
      cases E
      rw [hZ]
      exact qw_zret hx hb hr hlk (Or.inr rfl) hP hD hS dX4_allowsForm_16
def f_X4_isFormRole_J5 (x4 : Int32) : Int32 := (x4)
def f_X4_isFormRole (p0 : Int32) : Int32 := ((if p0 = (2 : Int32) then (f_X4_isFormRole_J5 (1 : Int32)) else (if p0 = (3 : Int32) then (f_X4_isFormRole_J5 (1 : Int32)) else (if p0 = (4 : Int32) then (f_X4_isFormRole_J5 (1 : Int32)) else (f_X4_isFormRole_J5 (0 : Int32))))))
set_option maxHeartbeats 4000000 in
set_option maxRecDepth 100000 in
theorem c_X4_isFormRole (l : Launch) (D : va_G) (cI : ClassId) (tT : Nat) (p0 : Int32) (r_o : Int32) (hq : f_X4_isFormRole p0 = r_o) : qM l yX4_isFormRole wsX4_isFormRole (qr 0 0) (qX tT) D vwCl [(cI, .int)] [] [.int p0] (some (.int r_o)) [] := by
  refine qM_of (cc := cX4_isFormRole) (maxL := 1) (ret := (some .boolean)) (by decide) rfl (Nat.le_of_ble_eq_true rfl) ?_
  intro p e s m args below meth c A ls Z hx hb hml hr hts hown hlk hK hA hXs hP hD hS hl hZ
  have hown : s.vm.findClass RX4 = some m.cls := hown
  have hl : lv_has ls 1 [(0, .int p0)] := hl
  have E := hq
  rw [f_X4_isFormRole] at E
  refine lv_iload_n hx hb dX4_isFormRole_0 rfl (lv_at hl 0 rfl) ?_
  refine lv_iconst (v := (2 : Int32)) hx hb dX4_isFormRole_1 (by decide) ?_
  have J5 : ∀ (x4 : Int32) (hb_x4 : x4 = 0 ∨ x4 = 1) (ls : Array Slot) (H : Heap) (locs : List Loc), f_X4_isFormRole_J5 x4 = r_o → lv_has ls 1 [(0, .int p0)] → va_P D vwCl [] H → va_D A [] → va_S A s.heap H locs → W p l e (qr 0 0) s m args below meth c H locs 0 0 Z (F0 m 20 ls [.int x4]) := by
    intro x4 hb_x4 ls H locs E hl hP hD hS
    rw [f_X4_isFormRole_J5] at E
    cases E
    rw [hZ]
    exact qw_zret hx hb hr hlk hb_x4 hP hD hS dX4_isFormRole_20
  refine lv_icmp_eq (tgt := 15) hx hb dX4_isFormRole_2 (by decide) (fun c1 => ?_) (fun c1 => ?_)
  · rw [if_pos c1] at E
    refine lv_iconst (v := (1 : Int32)) hx hb dX4_isFormRole_15 (by decide) ?_
    refine lv_goto (tgt := 20) hx hb dX4_isFormRole_16 (by decide) ?_
    exact J5 (1 : Int32) (Or.inr rfl) ls _ _ E (lv_sub hl [0] rfl) hP hD hS
  · rw [if_neg c1] at E
    refine lv_iload_n hx hb dX4_isFormRole_5 rfl (lv_at hl 0 rfl) ?_
    refine lv_iconst (v := (3 : Int32)) hx hb dX4_isFormRole_6 (by decide) ?_
    refine lv_icmp_eq (tgt := 15) hx hb dX4_isFormRole_7 (by decide) (fun c2 => ?_) (fun c2 => ?_)
    · rw [if_pos c2] at E
      refine lv_iconst (v := (1 : Int32)) hx hb dX4_isFormRole_15 (by decide) ?_
      refine lv_goto (tgt := 20) hx hb dX4_isFormRole_16 (by decide) ?_
      exact J5 (1 : Int32) (Or.inr rfl) ls _ _ E (lv_sub hl [0] rfl) hP hD hS
    · rw [if_neg c2] at E
      refine lv_iload_n hx hb dX4_isFormRole_10 rfl (lv_at hl 0 rfl) ?_
      refine lv_iconst (v := (4 : Int32)) hx hb dX4_isFormRole_11 (by decide) ?_
      refine lv_icmp_ne (tgt := 19) hx hb dX4_isFormRole_12 (by decide) (fun c3 => ?_) (fun c3 => ?_)
      · rw [if_neg c3] at E
        refine lv_iconst (v := (0 : Int32)) hx hb dX4_isFormRole_19 (by decide) ?_
        exact J5 (0 : Int32) (Or.inl rfl) ls _ _ E (lv_sub hl [0] rfl) hP hD hS
      · rw [if_pos c3] at E
        refine lv_iconst (v := (1 : Int32)) hx hb dX4_isFormRole_15 (by decide) ?_
        refine lv_goto (tgt := 20) hx hb dX4_isFormRole_16 (by decide) ?_
        exact J5 (1 : Int32) (Or.inr rfl) ls _ _ E (lv_sub hl [0] rfl) hP hD hS
def f_X4_hasForm_J4 (x3 : Int32) : Int32 := (x3)
def f_X4_hasForm (p0 : Int32) : Int32 := ((if (f_X4_isFormRole (f_X4_roleOf p0 (0 : Int32))) = 0 then (if (f_X4_isFormRole (f_X4_roleOf p0 (1 : Int32))) = 0 then (f_X4_hasForm_J4 (0 : Int32)) else (f_X4_hasForm_J4 (1 : Int32))) else (f_X4_hasForm_J4 (1 : Int32))))
set_option maxHeartbeats 4000000 in
set_option maxRecDepth 100000 in
theorem c_X4_hasForm (l : Launch) (D : va_G) (cI : ClassId) (tT : Nat) (p0 : Int32) (r_o : Int32) (hq : f_X4_hasForm p0 = r_o) : qM l yX4_hasForm wsX4_hasForm (qr 2 43) (qX tT) D vwCl [(cI, .int)] [] [.int p0] (some (.int r_o)) [] := by
  refine qM_of (cc := cX4_hasForm) (maxL := 1) (ret := (some .boolean)) (by decide) rfl (Nat.le_of_ble_eq_true rfl) ?_
  intro p e s m args below meth c A ls Z hx hb hml hr hts hown hlk hK hA hXs hP hD hS hl hZ
  have hown : s.vm.findClass RX4 = some m.cls := hown
  have hl : lv_has ls 1 [(0, .int p0)] := hl
  have hXg := qX_ok tT
  have E := hq
  rw [f_X4_hasForm] at E
  refine lv_iload_n hx hb dX4_hasForm_0 rfl (lv_at hl 0 rfl) ?_
  refine lv_iconst (v := (0 : Int32)) hx hb dX4_hasForm_1 (by decide) ?_
  refine qw_callS (As := [.int p0, .int (0 : Int32)]) (rest := []) (ws' := []) (st1 := [.int (f_X4_roleOf p0 (0 : Int32))]) ⟨hx, hb, hml, hown, hts⟩ (c_X4_roleOf l D cI tT p0 (0 : Int32) (f_X4_roleOf p0 (0 : Int32)) rfl) (va_cwS 2 hts gX4_hasForm_X4_roleOf rfl rfl rfl (by decide +kernel) ⟨Nat.le_of_ble_eq_true rfl, Nat.le_of_ble_eq_true rfl⟩) hXg hK hP hD hS hA hXs [] rfl rfl  rfl rfl rfl hl.1 rfl (Nat.le_of_ble_eq_true rfl) rfl ⟨Nat.zero_le _, Nat.zero_le _⟩ dX4_hasForm_2 (fun H locs hP hD hS => ?_)
  refine qw_callS (As := [.int (f_X4_roleOf p0 (0 : Int32))]) (rest := []) (ws' := []) (st1 := [.int (f_X4_isFormRole (f_X4_roleOf p0 (0 : Int32)))]) ⟨hx, hb, hml, hown, hts⟩ (c_X4_isFormRole l D cI tT (f_X4_roleOf p0 (0 : Int32)) (f_X4_isFormRole (f_X4_roleOf p0 (0 : Int32))) rfl) (va_cwS 1 hts gX4_hasForm_X4_isFormRole rfl rfl rfl (by decide +kernel) ⟨Nat.le_of_ble_eq_true rfl, Nat.le_of_ble_eq_true rfl⟩) hXg hK hP hD hS hA hXs [] rfl rfl  rfl rfl rfl hl.1 rfl (Nat.le_of_ble_eq_true rfl) rfl ⟨Nat.zero_le _, Nat.zero_le _⟩ dX4_hasForm_5 (fun H locs hP hD hS => ?_)
  have J4 : ∀ (x3 : Int32) (hb_x3 : x3 = 0 ∨ x3 = 1) (ls : Array Slot) (H : Heap) (locs : List Loc), f_X4_hasForm_J4 x3 = r_o → lv_has ls 1 [(0, .int p0)] → va_P D vwCl [] H → va_D A [] → va_S A s.heap H locs → W p l e (qr 2 43) s m args below meth c H locs 0 0 Z (F0 m 27 ls [.int x3]) := by
    intro x3 hb_x3 ls H locs E hl hP hD hS
    rw [f_X4_hasForm_J4] at E
    cases E
    rw [hZ]
    exact qw_zret hx hb hr hlk hb_x3 hP hD hS dX4_hasForm_27
  refine lv_if_ne (tgt := 22) hx hb dX4_hasForm_8 (by decide) (fun c1 => ?_) (fun c1 => ?_)
  · rw [if_neg c1] at E
    refine lv_iconst (v := (1 : Int32)) hx hb dX4_hasForm_22 (by decide) ?_
    refine lv_goto (tgt := 27) hx hb dX4_hasForm_23 (by decide) ?_
    exact J4 (1 : Int32) (Or.inr rfl) ls _ _ E (lv_sub hl [0] rfl) hP hD hS
  · rw [if_pos c1] at E
    refine lv_iload_n hx hb dX4_hasForm_11 rfl (lv_at hl 0 rfl) ?_
    refine lv_iconst (v := (1 : Int32)) hx hb dX4_hasForm_12 (by decide) ?_
    refine qw_callS (As := [.int p0, .int (1 : Int32)]) (rest := []) (ws' := []) (st1 := [.int (f_X4_roleOf p0 (1 : Int32))]) ⟨hx, hb, hml, hown, hts⟩ (c_X4_roleOf l D cI tT p0 (1 : Int32) (f_X4_roleOf p0 (1 : Int32)) rfl) (va_cwS 2 hts gX4_hasForm_X4_roleOf rfl rfl rfl (by decide +kernel) ⟨Nat.le_of_ble_eq_true rfl, Nat.le_of_ble_eq_true rfl⟩) hXg hK hP hD hS hA hXs [] rfl rfl  rfl rfl rfl hl.1 rfl (Nat.le_of_ble_eq_true rfl) rfl ⟨Nat.zero_le _, Nat.zero_le _⟩ dX4_hasForm_13 (fun H locs hP hD hS => ?_)
    refine qw_callS (As := [.int (f_X4_roleOf p0 (1 : Int32))]) (rest := []) (ws' := []) (st1 := [.int (f_X4_isFormRole (f_X4_roleOf p0 (1 : Int32)))]) ⟨hx, hb, hml, hown, hts⟩ (c_X4_isFormRole l D cI tT (f_X4_roleOf p0 (1 : Int32)) (f_X4_isFormRole (f_X4_roleOf p0 (1 : Int32))) rfl) (va_cwS 1 hts gX4_hasForm_X4_isFormRole rfl rfl rfl (by decide +kernel) ⟨Nat.le_of_ble_eq_true rfl, Nat.le_of_ble_eq_true rfl⟩) hXg hK hP hD hS hA hXs [] rfl rfl  rfl rfl rfl hl.1 rfl (Nat.le_of_ble_eq_true rfl) rfl ⟨Nat.zero_le _, Nat.zero_le _⟩ dX4_hasForm_16 (fun H locs hP hD hS => ?_)
    refine lv_if_eq (tgt := 26) hx hb dX4_hasForm_19 (by decide) (fun c2 => ?_) (fun c2 => ?_)
    · rw [if_pos c2] at E
      refine lv_iconst (v := (0 : Int32)) hx hb dX4_hasForm_26 (by decide) ?_
      exact J4 (0 : Int32) (Or.inl rfl) ls _ _ E (lv_sub hl [0] rfl) hP hD hS
    · rw [if_neg c2] at E
      refine lv_iconst (v := (1 : Int32)) hx hb dX4_hasForm_22 (by decide) ?_
      refine lv_goto (tgt := 27) hx hb dX4_hasForm_23 (by decide) ?_
      exact J4 (1 : Int32) (Or.inr rfl) ls _ _ E (lv_sub hl [0] rfl) hP hD hS
def f_X4_needsAnyPrefix_J8 (x7 : Int32) : Int32 := (x7)
def f_X4_needsAnyPrefix (p0 : Int32) (p1 : Int32) (p2 : Int32) : Int32 := ((if p1 = (1 : Int32) then (if p2 < (4 : Int32) then (f_X4_needsAnyPrefix_J8 (0 : Int32)) else (if (7 : Int32) < p2 then (f_X4_needsAnyPrefix_J8 (0 : Int32)) else (f_X4_needsAnyPrefix_J8 (1 : Int32)))) else (if p0 = (3 : Int32) then (if p2 < (4 : Int32) then (f_X4_needsAnyPrefix_J8 (0 : Int32)) else (if (7 : Int32) < p2 then (f_X4_needsAnyPrefix_J8 (0 : Int32)) else (f_X4_needsAnyPrefix_J8 (1 : Int32)))) else (f_X4_needsAnyPrefix_J8 (0 : Int32)))))
set_option maxHeartbeats 4000000 in
set_option maxRecDepth 100000 in
theorem c_X4_needsAnyPrefix (l : Launch) (D : va_G) (cI : ClassId) (tT : Nat) (p0 : Int32) (p1 : Int32) (p2 : Int32) (r_o : Int32) (hq : f_X4_needsAnyPrefix p0 p1 p2 = r_o) : qM l yX4_needsAnyPrefix wsX4_needsAnyPrefix (qr 0 0) (qX tT) D vwCl [(cI, .int)] [] [.int p0, .int p1, .int p2] (some (.int r_o)) [] := by
  refine qM_of (cc := cX4_needsAnyPrefix) (maxL := 3) (ret := (some .boolean)) (by decide) rfl (Nat.le_of_ble_eq_true rfl) ?_
  intro p e s m args below meth c A ls Z hx hb hml hr hts hown hlk hK hA hXs hP hD hS hl hZ
  have hown : s.vm.findClass RX4 = some m.cls := hown
  have hl : lv_has ls 3 [(0, .int p0), (1, .int p1), (2, .int p2)] := hl
  have E := hq
  rw [f_X4_needsAnyPrefix] at E
  refine lv_iload_n hx hb dX4_needsAnyPrefix_0 rfl (lv_at hl 1 rfl) ?_
  refine lv_iconst (v := (1 : Int32)) hx hb dX4_needsAnyPrefix_1 (by decide) ?_
  have J8 : ∀ (x7 : Int32) (hb_x7 : x7 = 0 ∨ x7 = 1) (ls : Array Slot) (H : Heap) (locs : List Loc), f_X4_needsAnyPrefix_J8 x7 = r_o → lv_has ls 3 [(0, .int p0), (1, .int p1), (2, .int p2)] → va_P D vwCl [] H → va_D A [] → va_S A s.heap H locs → W p l e (qr 0 0) s m args below meth c H locs 0 0 Z (F0 m 26 ls [.int x7]) := by
    intro x7 hb_x7 ls H locs E hl hP hD hS
    rw [f_X4_needsAnyPrefix_J8] at E
    cases E
    rw [hZ]
    exact qw_zret hx hb hr hlk hb_x7 hP hD hS dX4_needsAnyPrefix_26
  refine lv_icmp_eq (tgt := 10) hx hb dX4_needsAnyPrefix_2 (by decide) (fun c1 => ?_) (fun c1 => ?_)
  · rw [if_pos c1] at E
    refine lv_iload_n hx hb dX4_needsAnyPrefix_10 rfl (lv_at hl 2 rfl) ?_
    refine lv_iconst (v := (4 : Int32)) hx hb dX4_needsAnyPrefix_11 (by decide) ?_
    refine lv_icmp_lt (tgt := 25) hx hb dX4_needsAnyPrefix_12 (by decide) (fun c2 => ?_) (fun c2 => ?_)
    · rw [if_pos c2] at E
      refine lv_iconst (v := (0 : Int32)) hx hb dX4_needsAnyPrefix_25 (by decide) ?_
      exact J8 (0 : Int32) (Or.inl rfl) ls _ _ E (lv_sub hl [0, 1, 2] rfl) hP hD hS
    · rw [if_neg c2] at E
      refine lv_iload_n hx hb dX4_needsAnyPrefix_15 rfl (lv_at hl 2 rfl) ?_
      refine lv_bipush (v := (7 : Int32)) hx hb dX4_needsAnyPrefix_16 (by decide) ?_
      refine lv_icmp_gt (tgt := 25) hx hb dX4_needsAnyPrefix_18 (by decide) (fun c3 => ?_) (fun c3 => ?_)
      · rw [if_pos c3] at E
        refine lv_iconst (v := (0 : Int32)) hx hb dX4_needsAnyPrefix_25 (by decide) ?_
        exact J8 (0 : Int32) (Or.inl rfl) ls _ _ E (lv_sub hl [0, 1, 2] rfl) hP hD hS
      · rw [if_neg c3] at E
        refine lv_iconst (v := (1 : Int32)) hx hb dX4_needsAnyPrefix_21 (by decide) ?_
        refine lv_goto (tgt := 26) hx hb dX4_needsAnyPrefix_22 (by decide) ?_
        exact J8 (1 : Int32) (Or.inr rfl) ls _ _ E (lv_sub hl [0, 1, 2] rfl) hP hD hS
  · rw [if_neg c1] at E
    refine lv_iload_n hx hb dX4_needsAnyPrefix_5 rfl (lv_at hl 0 rfl) ?_
    refine lv_iconst (v := (3 : Int32)) hx hb dX4_needsAnyPrefix_6 (by decide) ?_
    refine lv_icmp_ne (tgt := 25) hx hb dX4_needsAnyPrefix_7 (by decide) (fun c4 => ?_) (fun c4 => ?_)
    · rw [if_neg c4] at E
      refine lv_iconst (v := (0 : Int32)) hx hb dX4_needsAnyPrefix_25 (by decide) ?_
      exact J8 (0 : Int32) (Or.inl rfl) ls _ _ E (lv_sub hl [0, 1, 2] rfl) hP hD hS
    · rw [if_pos c4] at E
      refine lv_iload_n hx hb dX4_needsAnyPrefix_10 rfl (lv_at hl 2 rfl) ?_
      refine lv_iconst (v := (4 : Int32)) hx hb dX4_needsAnyPrefix_11 (by decide) ?_
      refine lv_icmp_lt (tgt := 25) hx hb dX4_needsAnyPrefix_12 (by decide) (fun c5 => ?_) (fun c5 => ?_)
      · rw [if_pos c5] at E
        refine lv_iconst (v := (0 : Int32)) hx hb dX4_needsAnyPrefix_25 (by decide) ?_
        exact J8 (0 : Int32) (Or.inl rfl) ls _ _ E (lv_sub hl [0, 1, 2] rfl) hP hD hS
      · rw [if_neg c5] at E
        refine lv_iload_n hx hb dX4_needsAnyPrefix_15 rfl (lv_at hl 2 rfl) ?_
        refine lv_bipush (v := (7 : Int32)) hx hb dX4_needsAnyPrefix_16 (by decide) ?_
        refine lv_icmp_gt (tgt := 25) hx hb dX4_needsAnyPrefix_18 (by decide) (fun c6 => ?_) (fun c6 => ?_)
        · rw [if_pos c6] at E
          refine lv_iconst (v := (0 : Int32)) hx hb dX4_needsAnyPrefix_25 (by decide) ?_
          exact J8 (0 : Int32) (Or.inl rfl) ls _ _ E (lv_sub hl [0, 1, 2] rfl) hP hD hS
        · rw [if_neg c6] at E
          refine lv_iconst (v := (1 : Int32)) hx hb dX4_needsAnyPrefix_21 (by decide) ?_
          refine lv_goto (tgt := 26) hx hb dX4_needsAnyPrefix_22 (by decide) ?_
          exact J8 (1 : Int32) (Or.inr rfl) ls _ _ E (lv_sub hl [0, 1, 2] rfl) hP hD hS
def f_X4_numberOf_J4 (x3 : Int32) : Int32 := (x3)
def f_X4_numberOf (p0 : Int32) (p1 : Int32) : Int32 := (if (f_X4_cell p0 (6 : Int32)) = (6 : Int32) then ((if p1 = (1 : Int32) then (f_X4_numberOf_J4 (1 : Int32)) else (f_X4_numberOf_J4 (4 : Int32)))) else ((f_X4_cell p0 (6 : Int32))))
set_option maxHeartbeats 4000000 in
set_option maxRecDepth 100000 in
theorem c_X4_numberOf (l : Launch) (D : va_G) (cI : ClassId) (tT : Nat) (p0 : Int32) (p1 : Int32) (r_o : Int32) (hq : f_X4_numberOf p0 p1 = r_o) : qM l yX4_numberOf wsX4_numberOf (qr 1 22) (qX tT) D vwCl [(cI, .int)] [] [.int p0, .int p1] (some (.int r_o)) [] := by
  refine qM_of (cc := cX4_numberOf) (maxL := 3) (ret := (some .int)) (by decide) rfl (Nat.le_of_ble_eq_true rfl) ?_
  intro p e s m args below meth c A ls Z hx hb hml hr hts hown hlk hK hA hXs hP hD hS hl hZ
  have hown : s.vm.findClass RX4 = some m.cls := hown
  have hl : lv_has ls 3 [(0, .int p0), (1, .int p1)] := hl
  have hXg := qX_ok tT
  have E := hq
  rw [f_X4_numberOf] at E
  refine lv_iload_n hx hb dX4_numberOf_0 rfl (lv_at hl 0 rfl) ?_
  refine lv_bipush (v := (6 : Int32)) hx hb dX4_numberOf_1 (by decide) ?_
  refine qw_callS (As := [.int p0, .int (6 : Int32)]) (rest := []) (ws' := []) (st1 := [.int (f_X4_cell p0 (6 : Int32))]) ⟨hx, hb, hml, hown, hts⟩ (c_X4_cell l D cI tT p0 (6 : Int32) (f_X4_cell p0 (6 : Int32)) rfl) (va_cwS 2 hts gX4_numberOf_X4_cell rfl rfl rfl (by decide +kernel) ⟨Nat.le_of_ble_eq_true rfl, Nat.le_of_ble_eq_true rfl⟩) hXg hK hP hD hS hA hXs [] rfl rfl  rfl rfl rfl hl.1 rfl (Nat.le_of_ble_eq_true rfl) rfl ⟨Nat.zero_le _, Nat.zero_le _⟩ dX4_numberOf_3 (fun H locs hP hD hS => ?_)
  refine lv_istore_n (lv' := [(2, .int (f_X4_cell p0 (6 : Int32))), (0, .int p0), (1, .int p1)]) hx hb dX4_numberOf_6 rfl hl (by decide) rfl (fun ls hl => ?_)
  refine lv_iload_n hx hb dX4_numberOf_7 rfl (lv_at hl 0 rfl) ?_
  refine lv_bipush (v := (6 : Int32)) hx hb dX4_numberOf_8 (by decide) ?_
  refine lv_icmp_ne (tgt := 24) hx hb dX4_numberOf_10 (by decide) (fun c1 => ?_) (fun c1 => ?_)
  · rw [if_neg c1] at E
    refine lv_iload_n hx hb dX4_numberOf_24 rfl (lv_at hl 0 rfl) ?_
    cases E
    rw [hZ]
    exact qw_iret hx hb hr hlk hP hD hS dX4_numberOf_25
  · rw [if_pos c1] at E
    refine lv_iload_n hx hb dX4_numberOf_13 rfl (lv_at hl 2 rfl) ?_
    refine lv_iconst (v := (1 : Int32)) hx hb dX4_numberOf_14 (by decide) ?_
    have J4 : ∀ (x3 : Int32) (ls : Array Slot) (H : Heap) (locs : List Loc), f_X4_numberOf_J4 x3 = r_o → lv_has ls 3 [(2, .int (f_X4_cell p0 (6 : Int32))), (0, .int p0), (1, .int p1)] → va_P D vwCl [] H → va_D A [] → va_S A s.heap H locs → W p l e (qr 1 22) s m args below meth c H locs 0 0 Z (F0 m 23 ls [.int x3]) := by
      intro x3 ls H locs E hl hP hD hS
      rw [f_X4_numberOf_J4] at E
      cases E
      rw [hZ]
      exact qw_iret hx hb hr hlk hP hD hS dX4_numberOf_23
    refine lv_icmp_ne (tgt := 22) hx hb dX4_numberOf_15 (by decide) (fun c2 => ?_) (fun c2 => ?_)
    · rw [if_neg c2] at E
      refine lv_iconst (v := (4 : Int32)) hx hb dX4_numberOf_22 (by decide) ?_
      exact J4 (4 : Int32) ls _ _ E (lv_sub hl [0, 1, 2] rfl) hP hD hS
    · rw [if_pos c2] at E
      refine lv_iconst (v := (1 : Int32)) hx hb dX4_numberOf_18 (by decide) ?_
      refine lv_goto (tgt := 23) hx hb dX4_numberOf_19 (by decide) ?_
      exact J4 (1 : Int32) ls _ _ E (lv_sub hl [0, 1, 2] rfl) hP hD hS
def f_X4_numberWidth (p0 : Int32) : Int32 := (if p0 = (1 : Int32) then ((1 : Int32)) else (if p0 = (2 : Int32) then ((1 : Int32)) else (if p0 = (3 : Int32) then ((2 : Int32)) else (if p0 = (4 : Int32) then ((4 : Int32)) else (if p0 = (5 : Int32) then ((8 : Int32)) else ((0 : Int32)))))))
set_option maxHeartbeats 4000000 in
set_option maxRecDepth 100000 in
theorem c_X4_numberWidth (l : Launch) (D : va_G) (cI : ClassId) (tT : Nat) (p0 : Int32) (r_o : Int32) (hq : f_X4_numberWidth p0 = r_o) : qM l yX4_numberWidth wsX4_numberWidth (qr 0 0) (qX tT) D vwCl [(cI, .int)] [] [.int p0] (some (.int r_o)) [] := by
  refine qM_of (cc := cX4_numberWidth) (maxL := 1) (ret := (some .int)) (by decide) rfl (Nat.le_of_ble_eq_true rfl) ?_
  intro p e s m args below meth c A ls Z hx hb hml hr hts hown hlk hK hA hXs hP hD hS hl hZ
  have hown : s.vm.findClass RX4 = some m.cls := hown
  have hl : lv_has ls 1 [(0, .int p0)] := hl
  have E := hq
  rw [f_X4_numberWidth] at E
  refine lv_iload_n hx hb dX4_numberWidth_0 rfl (lv_at hl 0 rfl) ?_
  by_cases c1 : p0 = (1 : Int32)
  · rw [if_pos c1] at E
    refine lv_tableIn (off := (35 : Int)) (tgt := 36) hx hb dX4_numberWidth_1 (by rw [c1]; decide) (by rw [c1]; decide) (by rw [c1]; rfl) (by decide) ?_
    refine lv_iconst (v := (1 : Int32)) hx hb dX4_numberWidth_36 (by decide) ?_
    cases E
    rw [hZ]
    exact qw_iret hx hb hr hlk hP hD hS dX4_numberWidth_37
  · rw [if_neg c1] at E
    by_cases c2 : p0 = (2 : Int32)
    · rw [if_pos c2] at E
      refine lv_tableIn (off := (35 : Int)) (tgt := 36) hx hb dX4_numberWidth_1 (by rw [c2]; decide) (by rw [c2]; decide) (by rw [c2]; rfl) (by decide) ?_
      refine lv_iconst (v := (1 : Int32)) hx hb dX4_numberWidth_36 (by decide) ?_
      cases E
      rw [hZ]
      exact qw_iret hx hb hr hlk hP hD hS dX4_numberWidth_37
    · rw [if_neg c2] at E
      by_cases c3 : p0 = (3 : Int32)
      · rw [if_pos c3] at E
        refine lv_tableIn (off := (37 : Int)) (tgt := 38) hx hb dX4_numberWidth_1 (by rw [c3]; decide) (by rw [c3]; decide) (by rw [c3]; rfl) (by decide) ?_
        refine lv_iconst (v := (2 : Int32)) hx hb dX4_numberWidth_38 (by decide) ?_
        cases E
        rw [hZ]
        exact qw_iret hx hb hr hlk hP hD hS dX4_numberWidth_39
      · rw [if_neg c3] at E
        by_cases c4 : p0 = (4 : Int32)
        · rw [if_pos c4] at E
          refine lv_tableIn (off := (39 : Int)) (tgt := 40) hx hb dX4_numberWidth_1 (by rw [c4]; decide) (by rw [c4]; decide) (by rw [c4]; rfl) (by decide) ?_
          refine lv_iconst (v := (4 : Int32)) hx hb dX4_numberWidth_40 (by decide) ?_
          cases E
          rw [hZ]
          exact qw_iret hx hb hr hlk hP hD hS dX4_numberWidth_41
        · rw [if_neg c4] at E
          by_cases c5 : p0 = (5 : Int32)
          · rw [if_pos c5] at E
            refine lv_tableIn (off := (41 : Int)) (tgt := 42) hx hb dX4_numberWidth_1 (by rw [c5]; decide) (by rw [c5]; decide) (by rw [c5]; rfl) (by decide) ?_
            refine lv_bipush (v := (8 : Int32)) hx hb dX4_numberWidth_42 (by decide) ?_
            cases E
            rw [hZ]
            exact qw_iret hx hb hr hlk hP hD hS dX4_numberWidth_44
          · rw [if_neg c5] at E
            refine lv_tableOut (tgt := 45) hx hb dX4_numberWidth_1 (by have nc1 := lv_neT c1 (a := 1) rfl; have nc2 := lv_neT c2 (a := 2) rfl; have nc3 := lv_neT c3 (a := 3) rfl; have nc4 := lv_neT c4 (a := 4) rfl; have nc5 := lv_neT c5 (a := 5) rfl; omega) (by decide) ?_
            refine lv_iconst (v := (0 : Int32)) hx hb dX4_numberWidth_45 (by decide) ?_
            cases E
            rw [hZ]
            exact qw_iret hx hb hr hlk hP hD hS dX4_numberWidth_46
def f_X4_numberHasSign_J5 (x4 : Int32) : Int32 := (x4)
def f_X4_numberHasSign (p0 : Int32) : Int32 := ((if p0 = (1 : Int32) then (f_X4_numberHasSign_J5 (1 : Int32)) else (if p0 = (4 : Int32) then (f_X4_numberHasSign_J5 (1 : Int32)) else (if p0 = (5 : Int32) then (f_X4_numberHasSign_J5 (1 : Int32)) else (f_X4_numberHasSign_J5 (0 : Int32))))))
set_option maxHeartbeats 4000000 in
set_option maxRecDepth 100000 in
theorem c_X4_numberHasSign (l : Launch) (D : va_G) (cI : ClassId) (tT : Nat) (p0 : Int32) (r_o : Int32) (hq : f_X4_numberHasSign p0 = r_o) : qM l yX4_numberHasSign wsX4_numberHasSign (qr 0 0) (qX tT) D vwCl [(cI, .int)] [] [.int p0] (some (.int r_o)) [] := by
  refine qM_of (cc := cX4_numberHasSign) (maxL := 1) (ret := (some .boolean)) (by decide) rfl (Nat.le_of_ble_eq_true rfl) ?_
  intro p e s m args below meth c A ls Z hx hb hml hr hts hown hlk hK hA hXs hP hD hS hl hZ
  have hown : s.vm.findClass RX4 = some m.cls := hown
  have hl : lv_has ls 1 [(0, .int p0)] := hl
  have E := hq
  rw [f_X4_numberHasSign] at E
  refine lv_iload_n hx hb dX4_numberHasSign_0 rfl (lv_at hl 0 rfl) ?_
  refine lv_iconst (v := (1 : Int32)) hx hb dX4_numberHasSign_1 (by decide) ?_
  have J5 : ∀ (x4 : Int32) (hb_x4 : x4 = 0 ∨ x4 = 1) (ls : Array Slot) (H : Heap) (locs : List Loc), f_X4_numberHasSign_J5 x4 = r_o → lv_has ls 1 [(0, .int p0)] → va_P D vwCl [] H → va_D A [] → va_S A s.heap H locs → W p l e (qr 0 0) s m args below meth c H locs 0 0 Z (F0 m 20 ls [.int x4]) := by
    intro x4 hb_x4 ls H locs E hl hP hD hS
    rw [f_X4_numberHasSign_J5] at E
    cases E
    rw [hZ]
    exact qw_zret hx hb hr hlk hb_x4 hP hD hS dX4_numberHasSign_20
  refine lv_icmp_eq (tgt := 15) hx hb dX4_numberHasSign_2 (by decide) (fun c1 => ?_) (fun c1 => ?_)
  · rw [if_pos c1] at E
    refine lv_iconst (v := (1 : Int32)) hx hb dX4_numberHasSign_15 (by decide) ?_
    refine lv_goto (tgt := 20) hx hb dX4_numberHasSign_16 (by decide) ?_
    exact J5 (1 : Int32) (Or.inr rfl) ls _ _ E (lv_sub hl [0] rfl) hP hD hS
  · rw [if_neg c1] at E
    refine lv_iload_n hx hb dX4_numberHasSign_5 rfl (lv_at hl 0 rfl) ?_
    refine lv_iconst (v := (4 : Int32)) hx hb dX4_numberHasSign_6 (by decide) ?_
    refine lv_icmp_eq (tgt := 15) hx hb dX4_numberHasSign_7 (by decide) (fun c2 => ?_) (fun c2 => ?_)
    · rw [if_pos c2] at E
      refine lv_iconst (v := (1 : Int32)) hx hb dX4_numberHasSign_15 (by decide) ?_
      refine lv_goto (tgt := 20) hx hb dX4_numberHasSign_16 (by decide) ?_
      exact J5 (1 : Int32) (Or.inr rfl) ls _ _ E (lv_sub hl [0] rfl) hP hD hS
    · rw [if_neg c2] at E
      refine lv_iload_n hx hb dX4_numberHasSign_10 rfl (lv_at hl 0 rfl) ?_
      refine lv_iconst (v := (5 : Int32)) hx hb dX4_numberHasSign_11 (by decide) ?_
      refine lv_icmp_ne (tgt := 19) hx hb dX4_numberHasSign_12 (by decide) (fun c3 => ?_) (fun c3 => ?_)
      · rw [if_neg c3] at E
        refine lv_iconst (v := (0 : Int32)) hx hb dX4_numberHasSign_19 (by decide) ?_
        exact J5 (0 : Int32) (Or.inl rfl) ls _ _ E (lv_sub hl [0] rfl) hP hD hS
      · rw [if_pos c3] at E
        refine lv_iconst (v := (1 : Int32)) hx hb dX4_numberHasSign_15 (by decide) ?_
        refine lv_goto (tgt := 20) hx hb dX4_numberHasSign_16 (by decide) ?_
        exact J5 (1 : Int32) (Or.inr rfl) ls _ _ E (lv_sub hl [0] rfl) hP hD hS
def f_X4_numberFits_J25  : Int32 := ((0 : Int32))
def f_X4_numberFits_J10 (x9 : Int32) : Int32 := (x9)
def f_X4_numberFits_J14 (x13 : Int32) : Int32 := (x13)
def f_X4_numberFits_J18 (x17 : Int32) : Int32 := (x17)
def f_X4_numberFits_J21 (x20 : Int32) : Int32 := (x20)
def f_X4_numberFits_J24 (x23 : Int32) : Int32 := (x23)
def f_X4_numberFits (p0 : Int32) (p1 : Int64) : Int32 := ((if p0 = (1 : Int32) then ((if (lg_cmp p1 ((((p1).toInt32).toInt8.toInt32).toInt64)) = 0 then (f_X4_numberFits_J10 (1 : Int32)) else (f_X4_numberFits_J10 (0 : Int32)))) else (if p0 = (2 : Int32) then ((if (lg_cmp p1 (0 : Int64)) < 0 then (f_X4_numberFits_J14 (0 : Int32)) else (if 0 < (lg_cmp p1 (255 : Int64)) then (f_X4_numberFits_J14 (0 : Int32)) else (f_X4_numberFits_J14 (1 : Int32))))) else (if p0 = (3 : Int32) then ((if (lg_cmp p1 (0 : Int64)) < 0 then (f_X4_numberFits_J18 (0 : Int32)) else (if 0 < (lg_cmp p1 (65535 : Int64)) then (f_X4_numberFits_J18 (0 : Int32)) else (f_X4_numberFits_J18 (1 : Int32))))) else (if p0 = (4 : Int32) then ((if (lg_cmp p1 (((p1).toInt32).toInt64)) = 0 then (f_X4_numberFits_J21 (1 : Int32)) else (f_X4_numberFits_J21 (0 : Int32)))) else (if p0 = (5 : Int32) then ((1 : Int32)) else (if p0 = (6 : Int32) then (f_X4_numberFits_J25 ) else (if p0 = (7 : Int32) then ((if (lg_cmp p1 (1 : Int64)) = 0 then (f_X4_numberFits_J24 (1 : Int32)) else (f_X4_numberFits_J24 (0 : Int32)))) else (f_X4_numberFits_J25 )))))))))
set_option maxHeartbeats 4000000 in
set_option maxRecDepth 100000 in
theorem c_X4_numberFits (l : Launch) (D : va_G) (cI : ClassId) (tT : Nat) (p0 : Int32) (p1 : Int64) (r_o : Int32) (hq : f_X4_numberFits p0 p1 = r_o) : qM l yX4_numberFits wsX4_numberFits (qr 0 0) (qX tT) D vwCl [(cI, .int)] [] [.int p0, .long p1] (some (.int r_o)) [] := by
  refine qM_of (cc := cX4_numberFits) (maxL := 3) (ret := (some .boolean)) (by decide) rfl (Nat.le_of_ble_eq_true rfl) ?_
  intro p e s m args below meth c A ls Z hx hb hml hr hts hown hlk hK hA hXs hP hD hS hl hZ
  have hown : s.vm.findClass RX4 = some m.cls := hown
  have hl : lv_has ls 3 [(0, .int p0), (1, .long p1)] := hl
  have lk40 := hts (.constantLong RX4 40 (255)) (by decide +kernel)
  have lk42 := hts (.constantLong RX4 42 (65535)) (by decide +kernel)
  have E := hq
  rw [f_X4_numberFits] at E
  refine lv_iload_n hx hb dX4_numberFits_0 rfl (lv_at hl 0 rfl) ?_
  have J25 : ∀  (ls : Array Slot) (H : Heap) (locs : List Loc), f_X4_numberFits_J25  = r_o → lv_has ls 3 [(0, .int p0), (1, .long p1)] → va_P D vwCl [] H → va_D A [] → va_S A s.heap H locs → W p l e (qr 0 0) s m args below meth c H locs 0 0 Z (F0 m 127 ls []) := by
    intro  ls H locs E hl hP hD hS
    rw [f_X4_numberFits_J25] at E
    refine lv_iconst (v := (0 : Int32)) hx hb dX4_numberFits_127 (by decide) ?_
    cases E
    rw [hZ]
    exact qw_zret hx hb hr hlk (Or.inl rfl) hP hD hS dX4_numberFits_128
  by_cases c1 : p0 = (1 : Int32)
  · rw [if_pos c1] at E
    refine lv_tableIn (off := (43 : Int)) (tgt := 44) hx hb dX4_numberFits_1 (by rw [c1]; decide) (by rw [c1]; decide) (by rw [c1]; rfl) (by decide) ?_
    refine lv_lload_n hx hb dX4_numberFits_44 rfl (lv_at hl 1 rfl) ?_
    refine lv_lload_n hx hb dX4_numberFits_45 rfl (lv_at hl 1 rfl) ?_
    refine lv_l2i (v := (p1).toInt32) hx hb dX4_numberFits_46 rfl ?_
    refine lv_i2b (v := ((p1).toInt32).toInt8.toInt32) hx hb dX4_numberFits_47 rfl ?_
    refine lv_i2l (v := (((p1).toInt32).toInt8.toInt32).toInt64) hx hb dX4_numberFits_48 rfl ?_
    refine W.lcmp hx hb dX4_numberFits_49 ?_
    have J10 : ∀ (x9 : Int32) (hb_x9 : x9 = 0 ∨ x9 = 1) (ls : Array Slot) (H : Heap) (locs : List Loc), f_X4_numberFits_J10 x9 = r_o → lv_has ls 3 [(0, .int p0), (1, .long p1)] → va_P D vwCl [] H → va_D A [] → va_S A s.heap H locs → W p l e (qr 0 0) s m args below meth c H locs 0 0 Z (F0 m 58 ls [.int x9]) := by
      intro x9 hb_x9 ls H locs E hl hP hD hS
      rw [f_X4_numberFits_J10] at E
      cases E
      rw [hZ]
      exact qw_zret hx hb hr hlk hb_x9 hP hD hS dX4_numberFits_58
    refine lv_if_ne (tgt := 57) hx hb dX4_numberFits_50 (by decide) (fun c8 => ?_) (fun c8 => ?_)
    · rw [if_neg c8] at E
      refine lv_iconst (v := (0 : Int32)) hx hb dX4_numberFits_57 (by decide) ?_
      exact J10 (0 : Int32) (Or.inl rfl) ls _ _ E (lv_sub hl [0, 1] rfl) hP hD hS
    · rw [if_pos c8] at E
      refine lv_iconst (v := (1 : Int32)) hx hb dX4_numberFits_53 (by decide) ?_
      refine lv_goto (tgt := 58) hx hb dX4_numberFits_54 (by decide) ?_
      exact J10 (1 : Int32) (Or.inr rfl) ls _ _ E (lv_sub hl [0, 1] rfl) hP hD hS
  · rw [if_neg c1] at E
    by_cases c2 : p0 = (2 : Int32)
    · rw [if_pos c2] at E
      refine lv_tableIn (off := (58 : Int)) (tgt := 59) hx hb dX4_numberFits_1 (by rw [c2]; decide) (by rw [c2]; decide) (by rw [c2]; rfl) (by decide) ?_
      refine lv_lload_n hx hb dX4_numberFits_59 rfl (lv_at hl 1 rfl) ?_
      refine lv_lconst (v := (0 : Int64)) hx hb dX4_numberFits_60 (by decide) ?_
      refine W.lcmp hx hb dX4_numberFits_61 ?_
      have J14 : ∀ (x13 : Int32) (hb_x13 : x13 = 0 ∨ x13 = 1) (ls : Array Slot) (H : Heap) (locs : List Loc), f_X4_numberFits_J14 x13 = r_o → lv_has ls 3 [(0, .int p0), (1, .long p1)] → va_P D vwCl [] H → va_D A [] → va_S A s.heap H locs → W p l e (qr 0 0) s m args below meth c H locs 0 0 Z (F0 m 78 ls [.int x13]) := by
        intro x13 hb_x13 ls H locs E hl hP hD hS
        rw [f_X4_numberFits_J14] at E
        cases E
        rw [hZ]
        exact qw_zret hx hb hr hlk hb_x13 hP hD hS dX4_numberFits_78
      refine lv_if_lt (tgt := 77) hx hb dX4_numberFits_62 (by decide) (fun c11 => ?_) (fun c11 => ?_)
      · rw [if_pos c11] at E
        refine lv_iconst (v := (0 : Int32)) hx hb dX4_numberFits_77 (by decide) ?_
        exact J14 (0 : Int32) (Or.inl rfl) ls _ _ E (lv_sub hl [0, 1] rfl) hP hD hS
      · rw [if_neg c11] at E
        refine lv_lload_n hx hb dX4_numberFits_65 rfl (lv_at hl 1 rfl) ?_
        refine lv_ldc2 hx hb hown lk40 dX4_numberFits_66 ?_
        refine W.lcmp hx hb dX4_numberFits_69 ?_
        refine lv_if_gt (tgt := 77) hx hb dX4_numberFits_70 (by decide) (fun c12 => ?_) (fun c12 => ?_)
        · rw [if_pos c12] at E
          refine lv_iconst (v := (0 : Int32)) hx hb dX4_numberFits_77 (by decide) ?_
          exact J14 (0 : Int32) (Or.inl rfl) ls _ _ E (lv_sub hl [0, 1] rfl) hP hD hS
        · rw [if_neg c12] at E
          refine lv_iconst (v := (1 : Int32)) hx hb dX4_numberFits_73 (by decide) ?_
          refine lv_goto (tgt := 78) hx hb dX4_numberFits_74 (by decide) ?_
          exact J14 (1 : Int32) (Or.inr rfl) ls _ _ E (lv_sub hl [0, 1] rfl) hP hD hS
    · rw [if_neg c2] at E
      by_cases c3 : p0 = (3 : Int32)
      · rw [if_pos c3] at E
        refine lv_tableIn (off := (78 : Int)) (tgt := 79) hx hb dX4_numberFits_1 (by rw [c3]; decide) (by rw [c3]; decide) (by rw [c3]; rfl) (by decide) ?_
        refine lv_lload_n hx hb dX4_numberFits_79 rfl (lv_at hl 1 rfl) ?_
        refine lv_lconst (v := (0 : Int64)) hx hb dX4_numberFits_80 (by decide) ?_
        refine W.lcmp hx hb dX4_numberFits_81 ?_
        have J18 : ∀ (x17 : Int32) (hb_x17 : x17 = 0 ∨ x17 = 1) (ls : Array Slot) (H : Heap) (locs : List Loc), f_X4_numberFits_J18 x17 = r_o → lv_has ls 3 [(0, .int p0), (1, .long p1)] → va_P D vwCl [] H → va_D A [] → va_S A s.heap H locs → W p l e (qr 0 0) s m args below meth c H locs 0 0 Z (F0 m 98 ls [.int x17]) := by
          intro x17 hb_x17 ls H locs E hl hP hD hS
          rw [f_X4_numberFits_J18] at E
          cases E
          rw [hZ]
          exact qw_zret hx hb hr hlk hb_x17 hP hD hS dX4_numberFits_98
        refine lv_if_lt (tgt := 97) hx hb dX4_numberFits_82 (by decide) (fun c15 => ?_) (fun c15 => ?_)
        · rw [if_pos c15] at E
          refine lv_iconst (v := (0 : Int32)) hx hb dX4_numberFits_97 (by decide) ?_
          exact J18 (0 : Int32) (Or.inl rfl) ls _ _ E (lv_sub hl [0, 1] rfl) hP hD hS
        · rw [if_neg c15] at E
          refine lv_lload_n hx hb dX4_numberFits_85 rfl (lv_at hl 1 rfl) ?_
          refine lv_ldc2 hx hb hown lk42 dX4_numberFits_86 ?_
          refine W.lcmp hx hb dX4_numberFits_89 ?_
          refine lv_if_gt (tgt := 97) hx hb dX4_numberFits_90 (by decide) (fun c16 => ?_) (fun c16 => ?_)
          · rw [if_pos c16] at E
            refine lv_iconst (v := (0 : Int32)) hx hb dX4_numberFits_97 (by decide) ?_
            exact J18 (0 : Int32) (Or.inl rfl) ls _ _ E (lv_sub hl [0, 1] rfl) hP hD hS
          · rw [if_neg c16] at E
            refine lv_iconst (v := (1 : Int32)) hx hb dX4_numberFits_93 (by decide) ?_
            refine lv_goto (tgt := 98) hx hb dX4_numberFits_94 (by decide) ?_
            exact J18 (1 : Int32) (Or.inr rfl) ls _ _ E (lv_sub hl [0, 1] rfl) hP hD hS
      · rw [if_neg c3] at E
        by_cases c4 : p0 = (4 : Int32)
        · rw [if_pos c4] at E
          refine lv_tableIn (off := (98 : Int)) (tgt := 99) hx hb dX4_numberFits_1 (by rw [c4]; decide) (by rw [c4]; decide) (by rw [c4]; rfl) (by decide) ?_
          refine lv_lload_n hx hb dX4_numberFits_99 rfl (lv_at hl 1 rfl) ?_
          refine lv_lload_n hx hb dX4_numberFits_100 rfl (lv_at hl 1 rfl) ?_
          refine lv_l2i (v := (p1).toInt32) hx hb dX4_numberFits_101 rfl ?_
          refine lv_i2l (v := ((p1).toInt32).toInt64) hx hb dX4_numberFits_102 rfl ?_
          refine W.lcmp hx hb dX4_numberFits_103 ?_
          have J21 : ∀ (x20 : Int32) (hb_x20 : x20 = 0 ∨ x20 = 1) (ls : Array Slot) (H : Heap) (locs : List Loc), f_X4_numberFits_J21 x20 = r_o → lv_has ls 3 [(0, .int p0), (1, .long p1)] → va_P D vwCl [] H → va_D A [] → va_S A s.heap H locs → W p l e (qr 0 0) s m args below meth c H locs 0 0 Z (F0 m 112 ls [.int x20]) := by
            intro x20 hb_x20 ls H locs E hl hP hD hS
            rw [f_X4_numberFits_J21] at E
            cases E
            rw [hZ]
            exact qw_zret hx hb hr hlk hb_x20 hP hD hS dX4_numberFits_112
          refine lv_if_ne (tgt := 111) hx hb dX4_numberFits_104 (by decide) (fun c19 => ?_) (fun c19 => ?_)
          · rw [if_neg c19] at E
            refine lv_iconst (v := (0 : Int32)) hx hb dX4_numberFits_111 (by decide) ?_
            exact J21 (0 : Int32) (Or.inl rfl) ls _ _ E (lv_sub hl [0, 1] rfl) hP hD hS
          · rw [if_pos c19] at E
            refine lv_iconst (v := (1 : Int32)) hx hb dX4_numberFits_107 (by decide) ?_
            refine lv_goto (tgt := 112) hx hb dX4_numberFits_108 (by decide) ?_
            exact J21 (1 : Int32) (Or.inr rfl) ls _ _ E (lv_sub hl [0, 1] rfl) hP hD hS
        · rw [if_neg c4] at E
          by_cases c5 : p0 = (5 : Int32)
          · rw [if_pos c5] at E
            refine lv_tableIn (off := (112 : Int)) (tgt := 113) hx hb dX4_numberFits_1 (by rw [c5]; decide) (by rw [c5]; decide) (by rw [c5]; rfl) (by decide) ?_
            refine lv_iconst (v := (1 : Int32)) hx hb dX4_numberFits_113 (by decide) ?_
            cases E
            rw [hZ]
            exact qw_zret hx hb hr hlk (Or.inr rfl) hP hD hS dX4_numberFits_114
          · rw [if_neg c5] at E
            by_cases c6 : p0 = (6 : Int32)
            · rw [if_pos c6] at E
              refine lv_tableIn (off := (126 : Int)) (tgt := 127) hx hb dX4_numberFits_1 (by rw [c6]; decide) (by rw [c6]; decide) (by rw [c6]; rfl) (by decide) ?_
              exact J25  ls _ _ E (lv_sub hl [0, 1] rfl) hP hD hS
            · rw [if_neg c6] at E
              by_cases c7 : p0 = (7 : Int32)
              · rw [if_pos c7] at E
                refine lv_tableIn (off := (114 : Int)) (tgt := 115) hx hb dX4_numberFits_1 (by rw [c7]; decide) (by rw [c7]; decide) (by rw [c7]; rfl) (by decide) ?_
                refine lv_lload_n hx hb dX4_numberFits_115 rfl (lv_at hl 1 rfl) ?_
                refine lv_lconst (v := (1 : Int64)) hx hb dX4_numberFits_116 (by decide) ?_
                refine W.lcmp hx hb dX4_numberFits_117 ?_
                have J24 : ∀ (x23 : Int32) (hb_x23 : x23 = 0 ∨ x23 = 1) (ls : Array Slot) (H : Heap) (locs : List Loc), f_X4_numberFits_J24 x23 = r_o → lv_has ls 3 [(0, .int p0), (1, .long p1)] → va_P D vwCl [] H → va_D A [] → va_S A s.heap H locs → W p l e (qr 0 0) s m args below meth c H locs 0 0 Z (F0 m 126 ls [.int x23]) := by
                  intro x23 hb_x23 ls H locs E hl hP hD hS
                  rw [f_X4_numberFits_J24] at E
                  cases E
                  rw [hZ]
                  exact qw_zret hx hb hr hlk hb_x23 hP hD hS dX4_numberFits_126
                refine lv_if_ne (tgt := 125) hx hb dX4_numberFits_118 (by decide) (fun c22 => ?_) (fun c22 => ?_)
                · rw [if_neg c22] at E
                  refine lv_iconst (v := (0 : Int32)) hx hb dX4_numberFits_125 (by decide) ?_
                  exact J24 (0 : Int32) (Or.inl rfl) ls _ _ E (lv_sub hl [0, 1] rfl) hP hD hS
                · rw [if_pos c22] at E
                  refine lv_iconst (v := (1 : Int32)) hx hb dX4_numberFits_121 (by decide) ?_
                  refine lv_goto (tgt := 126) hx hb dX4_numberFits_122 (by decide) ?_
                  exact J24 (1 : Int32) (Or.inr rfl) ls _ _ E (lv_sub hl [0, 1] rfl) hP hD hS
              · rw [if_neg c7] at E
                refine lv_tableOut (tgt := 127) hx hb dX4_numberFits_1 (by have nc1 := lv_neT c1 (a := 1) rfl; have nc2 := lv_neT c2 (a := 2) rfl; have nc3 := lv_neT c3 (a := 3) rfl; have nc4 := lv_neT c4 (a := 4) rfl; have nc5 := lv_neT c5 (a := 5) rfl; have nc6 := lv_neT c6 (a := 6) rfl; have nc7 := lv_neT c7 (a := 7) rfl; omega) (by decide) ?_
                exact J25  ls _ _ E (lv_sub hl [0, 1] rfl) hP hD hS
