def f_X3_nextOctet (o_next : Int32) (o_failed : Int32) (o_in_count : Int32) (o_in_row_f : (Nat → Int32)) : Int32 × Int32 × Int32 := (if 0 ≤ (f_X2_at o_in_count o_in_row_f o_next) then (((f_X2_at o_in_count o_in_row_f o_next), (o_next + (1 : Int32)), o_failed)) else (((0 : Int32), o_next, (1 : Int32))))
set_option maxHeartbeats 4000000 in
set_option maxRecDepth 100000 in
theorem c_X3_nextOctet (l : Launch) (D : va_G) (cI : ClassId) (tT : Nat) (o : Nat) (o_in : Nat) (o_into : Nat) (o_in_row : Nat) (o_next : Int32) (o_failed : Int32) (o_repeated : Int32) (o_pfd : Int32) (o_pfx : Int32) (o_opcode : Int32) (o_form : Int32) (o_in_count : Int32) (o_in_row_f : (Nat → Int32)) (r_o : Int32) (o_next_o : Int32) (o_failed_o : Int32) (hq : f_X3_nextOctet o_next o_failed o_in_count o_in_row_f = (r_o, o_next_o, o_failed_o)) : qM l yX3_nextOctet wsX3_nextOctet (qr 1 21) (qX tT) D vwCl [(cI, .int)] [(o, .inr (3, [.ref o_in, .ref o_into, .int o_next, .int o_failed, .int o_repeated, .int o_pfd, .int o_pfx, .int o_opcode, .int o_form])), (o_in, .inr (2, [.ref o_in_row, .int o_in_count])), (o_in_row, .inl (cI, 16, .inl o_in_row_f))] [.ref o] (some (.int r_o)) [(o, .inr (3, [.ref o_in, .ref o_into, .int o_next_o, .int o_failed_o, .int o_repeated, .int o_pfd, .int o_pfx, .int o_opcode, .int o_form])), (o_in, .inr (2, [.ref o_in_row, .int o_in_count])), (o_in_row, .inl (cI, 16, .inl o_in_row_f))] := by
  refine qM_of (cc := cX3_nextOctet) (maxL := 2) (ret := (some .int)) (by decide) rfl (Nat.le_of_ble_eq_true rfl) ?_
  intro p e s m args below meth c A ls Z hx hb hml hr hts hown hlk hK hA hXs hP hD hS hl hZ
  have hown : s.vm.findClass RX3 = some m.cls := hown
  have hl : lv_has ls 2 [(0, .ref o)] := hl
  have hi_X3 : ∀ w ∈ wsX30, w ∈ wsX3_nextOctet := by decide +kernel
  have lk12 := hts (.fieldLink RX3 12 "InstructionCoder$Reader" "in" "LInstructionCoder$Octets;") (by decide +kernel)
  have lk25 := hts (.fieldLink RX3 25 "InstructionCoder$Reader" "next" "I") (by decide +kernel)
  have lk29 := hts (.fieldLink RX3 29 "InstructionCoder$Reader" "failed" "Z") (by decide +kernel)
  have hXg := qX_ok tT
  have E := hq
  rw [f_X3_nextOctet] at E
  refine lv_aload_n hx hb dX3_nextOctet_0 rfl (lv_at hl 0 rfl) ?_
  refine va_get (D := D) (ci := 3) (v := .ref o_in) (C := RX3) (T := TX3) (N := 9) hx hb hts hi_X3 hown hK hP 0 rfl rfl 0 (by decide) lk12 (fun _ h9 => h9) rfl dX3_nextOctet_1 ?_
  refine lv_aload_n hx hb dX3_nextOctet_4 rfl (lv_at hl 0 rfl) ?_
  refine va_get (D := D) (ci := 3) (v := .int o_next) (C := RX3) (T := TX3) (N := 9) hx hb hts hi_X3 hown hK hP 0 rfl rfl 2 (by decide) lk25 (fun _ h9 => h9) rfl dX3_nextOctet_5 ?_
  refine qw_callV (As := [.int o_next]) (rest := []) (ws' := [(o, .inr (3, [.ref o_in, .ref o_into, .int o_next, .int o_failed, .int o_repeated, .int o_pfd, .int o_pfx, .int o_opcode, .int o_form])), (o_in, .inr (2, [.ref o_in_row, .int o_in_count])), (o_in_row, .inl (cI, 16, .inl o_in_row_f))]) (st1 := [.int (f_X2_at o_in_count o_in_row_f o_next)]) ⟨hx, hb, hml, hown, hts⟩ (c_X2_at l D cI tT o_in o_in_row o_in_count o_in_row_f o_next (f_X2_at o_in_count o_in_row_f o_next) rfl) (cwV 1 hts gX3_nextOctet_X2_at rfl rfl rfl (by decide +kernel) ⟨Nat.le_of_ble_eq_true rfl, Nat.le_of_ble_eq_true rfl⟩) hXg hK hP hD hS hA hXs [1, 2] rfl rfl  rfl rfl rfl rfl rfl rfl hl.1 rfl (Nat.le_of_ble_eq_true rfl) rfl ⟨Nat.zero_le _, Nat.zero_le _⟩ dX3_nextOctet_8 (fun H locs hP hD hS => ?_)
  refine lv_istore_n (lv' := [(1, .int (f_X2_at o_in_count o_in_row_f o_next)), (0, .ref o)]) hx hb dX3_nextOctet_11 rfl hl (by decide) rfl (fun ls hl => ?_)
  refine lv_iload_n hx hb dX3_nextOctet_12 rfl (lv_at hl 0 rfl) ?_
  refine lv_if_ge (tgt := 23) hx hb dX3_nextOctet_13 (by decide) (fun c1 => ?_) (fun c1 => ?_)
  · rw [if_pos c1] at E
    refine lv_aload_n hx hb dX3_nextOctet_23 rfl (lv_at hl 1 rfl) ?_
    refine lv_dup hx hb dX3_nextOctet_24 rfl ?_
    refine va_get (D := D) (ci := 3) (v := .int o_next) (C := RX3) (T := TX3) (N := 9) hx hb hts hi_X3 hown hK hP 0 rfl rfl 2 (by decide) lk25 (fun _ h9 => h9) rfl dX3_nextOctet_25 ?_
    refine lv_iconst (v := (1 : Int32)) hx hb dX3_nextOctet_28 (by decide) ?_
    refine lv_iadd hx hb dX3_nextOctet_29 ?_
    refine va_put (D := D) (ci := 3) (v := .int (o_next + (1 : Int32))) (ty := .int) (C := RX3) (T := TX3) (N := 9) hx hb hts hi_X3 tyX3 tyX3_ok nmX3 hown hK hP hD hS 0 rfl rfl 2 (by decide) lk25 (fun _ h9 => h9) rfl (by decide +kernel) rfl rfl (Nat.le_of_ble_eq_true rfl) dX3_nextOctet_30 (fun H locs hP hD hS => ?_)
    have hP : va_P D vwCl [(o, .inr (3, [.ref o_in, .ref o_into, .int (o_next + (1 : Int32)), .int o_failed, .int o_repeated, .int o_pfd, .int o_pfx, .int o_opcode, .int o_form])), (o_in, .inr (2, [.ref o_in_row, .int o_in_count])), (o_in_row, .inl (cI, 16, .inl o_in_row_f))] H := hP
    have hD : va_D A [(o, .inr (3, [.ref o_in, .ref o_into, .int (o_next + (1 : Int32)), .int o_failed, .int o_repeated, .int o_pfd, .int o_pfx, .int o_opcode, .int o_form])), (o_in, .inr (2, [.ref o_in_row, .int o_in_count])), (o_in_row, .inl (cI, 16, .inl o_in_row_f))] := hD
    refine lv_iload_n hx hb dX3_nextOctet_33 rfl (lv_at hl 0 rfl) ?_
    cases E
    rw [hZ]
    exact qw_iret hx hb hr hlk hP hD hS dX3_nextOctet_34
  · rw [if_neg c1] at E
    refine lv_aload_n hx hb dX3_nextOctet_16 rfl (lv_at hl 1 rfl) ?_
    refine lv_iconst (v := (1 : Int32)) hx hb dX3_nextOctet_17 (by decide) ?_
    refine va_put (D := D) (ci := 3) (v := .int (1 : Int32)) (ty := .boolean) (C := RX3) (T := TX3) (N := 9) hx hb hts hi_X3 tyX3 tyX3_ok nmX3 hown hK hP hD hS 0 rfl rfl 3 (by decide) lk29 (fun _ h9 => h9) rfl (by decide +kernel) rfl rfl (Nat.le_of_ble_eq_true rfl) dX3_nextOctet_18 (fun H locs hP hD hS => ?_)
    have hP : va_P D vwCl [(o, .inr (3, [.ref o_in, .ref o_into, .int o_next, .int (1 : Int32), .int o_repeated, .int o_pfd, .int o_pfx, .int o_opcode, .int o_form])), (o_in, .inr (2, [.ref o_in_row, .int o_in_count])), (o_in_row, .inl (cI, 16, .inl o_in_row_f))] H := hP
    have hD : va_D A [(o, .inr (3, [.ref o_in, .ref o_into, .int o_next, .int (1 : Int32), .int o_repeated, .int o_pfd, .int o_pfx, .int o_opcode, .int o_form])), (o_in, .inr (2, [.ref o_in_row, .int o_in_count])), (o_in_row, .inl (cI, 16, .inl o_in_row_f))] := hD
    refine lv_iconst (v := (0 : Int32)) hx hb dX3_nextOctet_21 (by decide) ?_
    cases E
    rw [hZ]
    exact qw_iret hx hb hr hlk hP hD hS dX3_nextOctet_22
def f_X3_formMod (o_form : Int32) : Int32 := (((o_form >>> ((6 : Int32) &&& 31)) &&& (3 : Int32)))
set_option maxHeartbeats 4000000 in
set_option maxRecDepth 100000 in
theorem c_X3_formMod (l : Launch) (D : va_G) (cI : ClassId) (tT : Nat) (o : Nat) (o_in : Nat) (o_into : Nat) (o_next : Int32) (o_failed : Int32) (o_repeated : Int32) (o_pfd : Int32) (o_pfx : Int32) (o_opcode : Int32) (o_form : Int32) (r_o : Int32) (hq : f_X3_formMod o_form = r_o) : qM l yX3_formMod wsX3_formMod (qr 0 0) (qX tT) D vwCl [(cI, .int)] [(o, .inr (3, [.ref o_in, .ref o_into, .int o_next, .int o_failed, .int o_repeated, .int o_pfd, .int o_pfx, .int o_opcode, .int o_form]))] [.ref o] (some (.int r_o)) [(o, .inr (3, [.ref o_in, .ref o_into, .int o_next, .int o_failed, .int o_repeated, .int o_pfd, .int o_pfx, .int o_opcode, .int o_form]))] := by
  refine qM_of (cc := cX3_formMod) (maxL := 1) (ret := (some .int)) (by decide) rfl (Nat.le_of_ble_eq_true rfl) ?_
  intro p e s m args below meth c A ls Z hx hb hml hr hts hown hlk hK hA hXs hP hD hS hl hZ
  have hown : s.vm.findClass RX3 = some m.cls := hown
  have hl : lv_has ls 1 [(0, .ref o)] := hl
  have hi_X3 : ∀ w ∈ wsX30, w ∈ wsX3_formMod := by decide +kernel
  have lk118 := hts (.fieldLink RX3 118 "InstructionCoder$Reader" "form" "I") (by decide +kernel)
  have E := hq
  rw [f_X3_formMod] at E
  refine lv_aload_n hx hb dX3_formMod_0 rfl (lv_at hl 0 rfl) ?_
  refine va_get (D := D) (ci := 3) (v := .int o_form) (C := RX3) (T := TX3) (N := 9) hx hb hts hi_X3 hown hK hP 0 rfl rfl 8 (by decide) lk118 (fun _ h9 => h9) rfl dX3_formMod_1 ?_
  refine lv_bipush (v := (6 : Int32)) hx hb dX3_formMod_4 (by decide) ?_
  refine lv_ishr hx hb dX3_formMod_6 ?_
  refine lv_iconst (v := (3 : Int32)) hx hb dX3_formMod_7 (by decide) ?_
  refine lv_iand hx hb dX3_formMod_8 ?_
  cases E
  rw [hZ]
  exact qw_iret hx hb hr hlk hP hD hS dX3_formMod_9
def f_X3_hasBit_J3 (x2 : Int32) : Int32 := (x2)
def f_X3_hasBit (o_pfx : Int32) (p0 : Int32) : Int32 := ((if (o_pfx &&& p0) = 0 then (f_X3_hasBit_J3 (0 : Int32)) else (f_X3_hasBit_J3 (1 : Int32))))
set_option maxHeartbeats 4000000 in
set_option maxRecDepth 100000 in
theorem c_X3_hasBit (l : Launch) (D : va_G) (cI : ClassId) (tT : Nat) (o : Nat) (o_in : Nat) (o_into : Nat) (o_next : Int32) (o_failed : Int32) (o_repeated : Int32) (o_pfd : Int32) (o_pfx : Int32) (o_opcode : Int32) (o_form : Int32) (p0 : Int32) (r_o : Int32) (hq : f_X3_hasBit o_pfx p0 = r_o) : qM l yX3_hasBit wsX3_hasBit (qr 0 0) (qX tT) D vwCl [(cI, .int)] [(o, .inr (3, [.ref o_in, .ref o_into, .int o_next, .int o_failed, .int o_repeated, .int o_pfd, .int o_pfx, .int o_opcode, .int o_form]))] [.ref o, .int p0] (some (.int r_o)) [(o, .inr (3, [.ref o_in, .ref o_into, .int o_next, .int o_failed, .int o_repeated, .int o_pfd, .int o_pfx, .int o_opcode, .int o_form]))] := by
  refine qM_of (cc := cX3_hasBit) (maxL := 2) (ret := (some .boolean)) (by decide) rfl (Nat.le_of_ble_eq_true rfl) ?_
  intro p e s m args below meth c A ls Z hx hb hml hr hts hown hlk hK hA hXs hP hD hS hl hZ
  have hown : s.vm.findClass RX3 = some m.cls := hown
  have hl : lv_has ls 2 [(0, .ref o), (1, .int p0)] := hl
  have hi_X3 : ∀ w ∈ wsX30, w ∈ wsX3_hasBit := by decide +kernel
  have lk57 := hts (.fieldLink RX3 57 "InstructionCoder$Reader" "prefix" "I") (by decide +kernel)
  have E := hq
  rw [f_X3_hasBit] at E
  refine lv_aload_n hx hb dX3_hasBit_0 rfl (lv_at hl 0 rfl) ?_
  refine va_get (D := D) (ci := 3) (v := .int o_pfx) (C := RX3) (T := TX3) (N := 9) hx hb hts hi_X3 hown hK hP 0 rfl rfl 6 (by decide) lk57 (fun _ h9 => h9) rfl dX3_hasBit_1 ?_
  refine lv_iload_n hx hb dX3_hasBit_4 rfl (lv_at hl 1 rfl) ?_
  refine lv_iand hx hb dX3_hasBit_5 ?_
  have J3 : ∀ (x2 : Int32) (hb_x2 : x2 = 0 ∨ x2 = 1) (ls : Array Slot) (H : Heap) (locs : List Loc), f_X3_hasBit_J3 x2 = r_o → lv_has ls 2 [(0, .ref o), (1, .int p0)] → va_P D vwCl [(o, .inr (3, [.ref o_in, .ref o_into, .int o_next, .int o_failed, .int o_repeated, .int o_pfd, .int o_pfx, .int o_opcode, .int o_form]))] H → va_D A [(o, .inr (3, [.ref o_in, .ref o_into, .int o_next, .int o_failed, .int o_repeated, .int o_pfd, .int o_pfx, .int o_opcode, .int o_form]))] → va_S A s.heap H locs → W p l e (qr 0 0) s m args below meth c H locs 0 0 Z (F0 m 14 ls [.int x2]) := by
    intro x2 hb_x2 ls H locs E hl hP hD hS
    rw [f_X3_hasBit_J3] at E
    cases E
    rw [hZ]
    exact qw_zret hx hb hr hlk hb_x2 hP hD hS dX3_hasBit_14
  refine lv_if_eq (tgt := 13) hx hb dX3_hasBit_6 (by decide) (fun c1 => ?_) (fun c1 => ?_)
  · rw [if_pos c1] at E
    refine lv_iconst (v := (0 : Int32)) hx hb dX3_hasBit_13 (by decide) ?_
    exact J3 (0 : Int32) (Or.inl rfl) ls _ _ E (lv_sub hl [0, 1] rfl) hP hD hS
  · rw [if_neg c1] at E
    refine lv_iconst (v := (1 : Int32)) hx hb dX3_hasBit_9 (by decide) ?_
    refine lv_goto (tgt := 14) hx hb dX3_hasBit_10 (by decide) ?_
    exact J3 (1 : Int32) (Or.inr rfl) ls _ _ E (lv_sub hl [0, 1] rfl) hP hD hS
def f_X3_high_J3 (x2 : Int32) : Int32 := (x2)
def f_X3_high (o_pfx : Int32) (p0 : Int32) : Int32 := ((if (f_X3_hasBit o_pfx p0) = 0 then (f_X3_high_J3 (0 : Int32)) else (f_X3_high_J3 (8 : Int32))))
set_option maxHeartbeats 4000000 in
set_option maxRecDepth 100000 in
theorem c_X3_high (l : Launch) (D : va_G) (cI : ClassId) (tT : Nat) (o : Nat) (o_in : Nat) (o_into : Nat) (o_next : Int32) (o_failed : Int32) (o_repeated : Int32) (o_pfd : Int32) (o_pfx : Int32) (o_opcode : Int32) (o_form : Int32) (p0 : Int32) (r_o : Int32) (hq : f_X3_high o_pfx p0 = r_o) : qM l yX3_high wsX3_high (qr 1 21) (qX tT) D vwCl [(cI, .int)] [(o, .inr (3, [.ref o_in, .ref o_into, .int o_next, .int o_failed, .int o_repeated, .int o_pfd, .int o_pfx, .int o_opcode, .int o_form]))] [.ref o, .int p0] (some (.int r_o)) [(o, .inr (3, [.ref o_in, .ref o_into, .int o_next, .int o_failed, .int o_repeated, .int o_pfd, .int o_pfx, .int o_opcode, .int o_form]))] := by
  refine qM_of (cc := cX3_high) (maxL := 2) (ret := (some .int)) (by decide) rfl (Nat.le_of_ble_eq_true rfl) ?_
  intro p e s m args below meth c A ls Z hx hb hml hr hts hown hlk hK hA hXs hP hD hS hl hZ
  have hown : s.vm.findClass RX3 = some m.cls := hown
  have hl : lv_has ls 2 [(0, .ref o), (1, .int p0)] := hl
  have hXg := qX_ok tT
  have E := hq
  rw [f_X3_high] at E
  refine lv_aload_n hx hb dX3_high_0 rfl (lv_at hl 0 rfl) ?_
  refine lv_iload_n hx hb dX3_high_1 rfl (lv_at hl 1 rfl) ?_
  refine qw_callV (As := [.int p0]) (rest := []) (ws' := [(o, .inr (3, [.ref o_in, .ref o_into, .int o_next, .int o_failed, .int o_repeated, .int o_pfd, .int o_pfx, .int o_opcode, .int o_form]))]) (st1 := [.int (f_X3_hasBit o_pfx p0)]) ⟨hx, hb, hml, hown, hts⟩ (c_X3_hasBit l D cI tT o o_in o_into o_next o_failed o_repeated o_pfd o_pfx o_opcode o_form p0 (f_X3_hasBit o_pfx p0) rfl) (cwV 1 hts gX3_high_X3_hasBit rfl rfl rfl (by decide +kernel) ⟨Nat.le_of_ble_eq_true rfl, Nat.le_of_ble_eq_true rfl⟩) hXg hK hP hD hS hA hXs [0] rfl rfl  rfl rfl rfl rfl rfl rfl hl.1 rfl (Nat.le_of_ble_eq_true rfl) rfl ⟨Nat.zero_le _, Nat.zero_le _⟩ dX3_high_2 (fun H locs hP hD hS => ?_)
  have J3 : ∀ (x2 : Int32) (ls : Array Slot) (H : Heap) (locs : List Loc), f_X3_high_J3 x2 = r_o → lv_has ls 2 [(0, .ref o), (1, .int p0)] → va_P D vwCl [(o, .inr (3, [.ref o_in, .ref o_into, .int o_next, .int o_failed, .int o_repeated, .int o_pfd, .int o_pfx, .int o_opcode, .int o_form]))] H → va_D A [(o, .inr (3, [.ref o_in, .ref o_into, .int o_next, .int o_failed, .int o_repeated, .int o_pfd, .int o_pfx, .int o_opcode, .int o_form]))] → va_S A s.heap H locs → W p l e (qr 1 21) s m args below meth c H locs 0 0 Z (F0 m 14 ls [.int x2]) := by
    intro x2 ls H locs E hl hP hD hS
    rw [f_X3_high_J3] at E
    cases E
    rw [hZ]
    exact qw_iret hx hb hr hlk hP hD hS dX3_high_14
  refine lv_if_eq (tgt := 13) hx hb dX3_high_5 (by decide) (fun c1 => ?_) (fun c1 => ?_)
  · rw [if_pos c1] at E
    refine lv_iconst (v := (0 : Int32)) hx hb dX3_high_13 (by decide) ?_
    exact J3 (0 : Int32) ls _ _ E (lv_sub hl [0, 1] rfl) hP hD hS
  · rw [if_neg c1] at E
    refine lv_bipush (v := (8 : Int32)) hx hb dX3_high_8 (by decide) ?_
    refine lv_goto (tgt := 14) hx hb dX3_high_10 (by decide) ?_
    exact J3 (8 : Int32) ls _ _ E (lv_sub hl [0, 1] rfl) hP hD hS
def f_X3_nextNumber_L13 (o_in_count : Int32) (o_in_row_f : (Nat → Int32)) (p0 : Int32) (p1 : Int32) : Nat → Int32 → Int64 → Int32 → Int32 → Int64 × Int32 × Int32
  | 0, _, _, _, _ => (0, 0, 0)
  | n + 1, x1, x2, x3, x4 => (if p0 ≤ x1 then (if p1 = 0 then ((x2, x3, x4)) else (if p0 < (1 : Int32) then ((x2, x3, x4)) else (if p0 ≤ (7 : Int32) then ((((x2 <<< ((((64 : Int32) - ((8 : Int32) * p0))).toInt64 &&& 63)) >>> ((((64 : Int32) - ((8 : Int32) * p0))).toInt64 &&& 63)), x3, x4)) else ((x2, x3, x4))))) else (match (f_X3_nextOctet x3 x4 o_in_count o_in_row_f) with | (y6, y7, y8) => f_X3_nextNumber_L13 o_in_count o_in_row_f p0 p1 n (x1 + (1 : Int32)) (x2 ||| (((y6).toInt64) <<< ((((8 : Int32) * x1)).toInt64 &&& 63))) y7 y8))
def f_X3_nextNumber (o_next : Int32) (o_failed : Int32) (o_in_count : Int32) (o_in_row_f : (Nat → Int32)) (p0 : Int32) (p1 : Int32) : Int64 × Int32 × Int32 := (f_X3_nextNumber_L13 o_in_count o_in_row_f p0 p1 (((p0).toInt - ((0 : Int32)).toInt).toNat + 1) (0 : Int32) (0 : Int64) o_next o_failed)
set_option maxHeartbeats 4000000 in
set_option maxRecDepth 100000 in
theorem c_X3_nextNumber (l : Launch) (D : va_G) (cI : ClassId) (tT : Nat) (o : Nat) (o_in : Nat) (o_into : Nat) (o_in_row : Nat) (o_next : Int32) (o_failed : Int32) (o_repeated : Int32) (o_pfd : Int32) (o_pfx : Int32) (o_opcode : Int32) (o_form : Int32) (o_in_count : Int32) (o_in_row_f : (Nat → Int32)) (p0 : Int32) (p1 : Int32) (r_o : Int64) (o_next_o : Int32) (o_failed_o : Int32) (hq : f_X3_nextNumber o_next o_failed o_in_count o_in_row_f p0 p1 = (r_o, o_next_o, o_failed_o)) : qM l yX3_nextNumber wsX3_nextNumber (qr 2 42) (qX tT) D vwCl [(cI, .int)] [(o, .inr (3, [.ref o_in, .ref o_into, .int o_next, .int o_failed, .int o_repeated, .int o_pfd, .int o_pfx, .int o_opcode, .int o_form])), (o_in, .inr (2, [.ref o_in_row, .int o_in_count])), (o_in_row, .inl (cI, 16, .inl o_in_row_f))] [.ref o, .int p0, .int p1] (some (.long r_o)) [(o, .inr (3, [.ref o_in, .ref o_into, .int o_next_o, .int o_failed_o, .int o_repeated, .int o_pfd, .int o_pfx, .int o_opcode, .int o_form])), (o_in, .inr (2, [.ref o_in_row, .int o_in_count])), (o_in_row, .inl (cI, 16, .inl o_in_row_f))] := by
  refine qM_of (cc := cX3_nextNumber) (maxL := 6) (ret := (some .long)) (by decide) rfl (Nat.le_of_ble_eq_true rfl) ?_
  intro p e s m args below meth c A ls Z hx hb hml hr hts hown hlk hK hA hXs hP hD hS hl hZ
  have hown : s.vm.findClass RX3 = some m.cls := hown
  have hl : lv_has ls 6 [(0, .ref o), (1, .int p0), (2, .int p1)] := hl
  have hXg := qX_ok tT
  have E := hq
  rw [f_X3_nextNumber] at E
  refine lv_lconst (v := (0 : Int64)) hx hb dX3_nextNumber_0 (by decide) ?_
  refine lv_lstore_n (lv' := [(3, .long (0 : Int64)), (0, .ref o), (1, .int p0), (2, .int p1)]) hx hb dX3_nextNumber_1 rfl hl (by decide) rfl (fun ls hl => ?_)
  refine lv_iconst (v := (0 : Int32)) hx hb dX3_nextNumber_2 (by decide) ?_
  refine lv_istore (lv' := [(5, .int (0 : Int32)), (3, .long (0 : Int64)), (0, .ref o), (1, .int p0), (2, .int p1)]) hx hb dX3_nextNumber_3 hl (by decide) rfl (fun ls hl => ?_)
  have L13 : ∀ (n : Nat) (x1 : Int32) (x2 : Int64) (x3 : Int32) (x4 : Int32) (ls : Array Slot) (H : Heap) (locs : List Loc), ((p0).toInt - (x1).toInt).toNat < n → f_X3_nextNumber_L13 o_in_count o_in_row_f p0 p1 n x1 x2 x3 x4 = (r_o, o_next_o, o_failed_o) → lv_has ls 6 [(5, .int x1), (3, .long x2), (0, .ref o), (1, .int p0), (2, .int p1)] → va_P D vwCl [(o, .inr (3, [.ref o_in, .ref o_into, .int x3, .int x4, .int o_repeated, .int o_pfd, .int o_pfx, .int o_opcode, .int o_form])), (o_in, .inr (2, [.ref o_in_row, .int o_in_count])), (o_in_row, .inl (cI, 16, .inl o_in_row_f))] H → va_D A [(o, .inr (3, [.ref o_in, .ref o_into, .int x3, .int x4, .int o_repeated, .int o_pfd, .int o_pfx, .int o_opcode, .int o_form])), (o_in, .inr (2, [.ref o_in_row, .int o_in_count])), (o_in_row, .inl (cI, 16, .inl o_in_row_f))] → va_S A s.heap H locs → W p l e (qr 2 42) s m args below meth c H locs 0 0 Z (F0 m 5 ls []) := by
    intro n
    induction n with
    | zero => intro x1 x2 x3 x4  ls H locs hm; exact absurd hm (Nat.not_lt_zero _)
    | succ n ih =>
      intro x1 x2 x3 x4  ls H locs hm E hl hP hD hS
      rw [f_X3_nextNumber_L13] at E
      refine lv_iload hx hb dX3_nextNumber_5 (lv_at hl 0 rfl) ?_
      refine lv_iload_n hx hb dX3_nextNumber_7 rfl (lv_at hl 3 rfl) ?_
      refine lv_icmp_ge (tgt := 31) hx hb dX3_nextNumber_8 (by decide) (fun c5 => ?_) (fun c5 => ?_)
      · rw [if_pos c5] at E
        refine lv_iload_n hx hb dX3_nextNumber_31 rfl (lv_at hl 4 rfl) ?_
        refine lv_if_eq (tgt := 46) hx hb dX3_nextNumber_32 (by decide) (fun c10 => ?_) (fun c10 => ?_)
        · rw [if_pos c10] at E
          refine lv_lload_n hx hb dX3_nextNumber_46 rfl (lv_at hl 1 rfl) ?_
          cases E
          rw [hZ]
          exact qw_lret hx hb hr hlk hP hD hS dX3_nextNumber_47
        · rw [if_neg c10] at E
          refine lv_iload_n hx hb dX3_nextNumber_35 rfl (lv_at hl 3 rfl) ?_
          refine lv_iconst (v := (1 : Int32)) hx hb dX3_nextNumber_36 (by decide) ?_
          refine lv_icmp_lt (tgt := 46) hx hb dX3_nextNumber_37 (by decide) (fun c11 => ?_) (fun c11 => ?_)
          · rw [if_pos c11] at E
            refine lv_lload_n hx hb dX3_nextNumber_46 rfl (lv_at hl 1 rfl) ?_
            cases E
            rw [hZ]
            exact qw_lret hx hb hr hlk hP hD hS dX3_nextNumber_47
          · rw [if_neg c11] at E
            refine lv_iload_n hx hb dX3_nextNumber_40 rfl (lv_at hl 3 rfl) ?_
            refine lv_bipush (v := (7 : Int32)) hx hb dX3_nextNumber_41 (by decide) ?_
            refine lv_icmp_le (tgt := 48) hx hb dX3_nextNumber_43 (by decide) (fun c12 => ?_) (fun c12 => ?_)
            · rw [if_pos c12] at E
              refine lv_bipush (v := (64 : Int32)) hx hb dX3_nextNumber_48 (by decide) ?_
              refine lv_bipush (v := (8 : Int32)) hx hb dX3_nextNumber_50 (by decide) ?_
              refine lv_iload_n hx hb dX3_nextNumber_52 rfl (lv_at hl 3 rfl) ?_
              refine lv_imul hx hb dX3_nextNumber_53 ?_
              refine lv_isub hx hb dX3_nextNumber_54 ?_
              refine lv_istore (lv' := [(5, .int ((64 : Int32) - ((8 : Int32) * p0))), (3, .long x2), (0, .ref o), (1, .int p0), (2, .int p1)]) hx hb dX3_nextNumber_55 hl (by decide) rfl (fun ls hl => ?_)
              refine lv_lload_n hx hb dX3_nextNumber_57 rfl (lv_at hl 1 rfl) ?_
              refine lv_iload hx hb dX3_nextNumber_58 (lv_at hl 0 rfl) ?_
              refine lv_lshl (v := (x2 <<< ((((64 : Int32) - ((8 : Int32) * p0))).toInt64 &&& 63))) hx hb dX3_nextNumber_60 rfl ?_
              refine lv_iload hx hb dX3_nextNumber_61 (lv_at hl 0 rfl) ?_
              refine lv_lshr (v := ((x2 <<< ((((64 : Int32) - ((8 : Int32) * p0))).toInt64 &&& 63)) >>> ((((64 : Int32) - ((8 : Int32) * p0))).toInt64 &&& 63))) hx hb dX3_nextNumber_63 rfl ?_
              cases E
              rw [hZ]
              exact qw_lret hx hb hr hlk hP hD hS dX3_nextNumber_64
            · rw [if_neg c12] at E
              refine lv_lload_n hx hb dX3_nextNumber_46 rfl (lv_at hl 1 rfl) ?_
              cases E
              rw [hZ]
              exact qw_lret hx hb hr hlk hP hD hS dX3_nextNumber_47
      · rw [if_neg c5] at E
        refine lv_lload_n hx hb dX3_nextNumber_11 rfl (lv_at hl 1 rfl) ?_
        refine lv_aload_n hx hb dX3_nextNumber_12 rfl (lv_at hl 2 rfl) ?_
        obtain ⟨y6, y7, y8, q9⟩ : ∃ y6 y7 y8, (f_X3_nextOctet x3 x4 o_in_count o_in_row_f) = (y6, y7, y8) := ⟨_, _, _, rfl⟩
        rw [q9] at E
        dsimp only at E
        refine qw_callV (As := []) (rest := [.long x2]) (ws' := [(o, .inr (3, [.ref o_in, .ref o_into, .int y7, .int y8, .int o_repeated, .int o_pfd, .int o_pfx, .int o_opcode, .int o_form])), (o_in, .inr (2, [.ref o_in_row, .int o_in_count])), (o_in_row, .inl (cI, 16, .inl o_in_row_f))]) (st1 := [.int y6, .long x2]) ⟨hx, hb, hml, hown, hts⟩ (c_X3_nextOctet l D cI tT o o_in o_into o_in_row x3 x4 o_repeated o_pfd o_pfx o_opcode o_form o_in_count o_in_row_f y6 y7 y8 q9) (cwV 0 hts gX3_nextNumber_X3_nextOctet rfl rfl rfl (by decide +kernel) ⟨Nat.le_of_ble_eq_true rfl, Nat.le_of_ble_eq_true rfl⟩) hXg hK hP hD hS hA hXs [0, 1, 2] rfl rfl  rfl rfl rfl rfl rfl rfl hl.1 rfl (Nat.le_of_ble_eq_true rfl) rfl ⟨Nat.zero_le _, Nat.zero_le _⟩ dX3_nextNumber_13 (fun H locs hP hD hS => ?_)
        refine lv_i2l (v := (y6).toInt64) hx hb dX3_nextNumber_16 rfl ?_
        refine lv_bipush (v := (8 : Int32)) hx hb dX3_nextNumber_17 (by decide) ?_
        refine lv_iload hx hb dX3_nextNumber_19 (lv_at hl 0 rfl) ?_
        refine lv_imul hx hb dX3_nextNumber_21 ?_
        refine lv_lshl (v := (((y6).toInt64) <<< ((((8 : Int32) * x1)).toInt64 &&& 63))) hx hb dX3_nextNumber_22 rfl ?_
        refine lv_lor hx hb dX3_nextNumber_23 ?_
        refine lv_lstore_n (lv' := [(3, .long (x2 ||| (((y6).toInt64) <<< ((((8 : Int32) * x1)).toInt64 &&& 63)))), (5, .int x1), (0, .ref o), (1, .int p0), (2, .int p1)]) hx hb dX3_nextNumber_24 rfl hl (by decide) rfl (fun ls hl => ?_)
        refine lv_iinc (v := x1 + (1 : Int32)) (lv' := [(5, .int (x1 + (1 : Int32))), (3, .long (x2 ||| (((y6).toInt64) <<< ((((8 : Int32) * x1)).toInt64 &&& 63)))), (0, .ref o), (1, .int p0), (2, .int p1)]) hx hb dX3_nextNumber_25 hl (k := 1) rfl (by first | rfl | decide) (by decide) rfl (fun ls hl => ?_)
        refine lv_goto (tgt := 5) hx hb dX3_nextNumber_28 (by decide) ?_
        exact ih (x1 + (1 : Int32)) (x2 ||| (((y6).toInt64) <<< ((((8 : Int32) * x1)).toInt64 &&& 63))) y7 y8  ls _ _ (qw_up hm c5) E (lv_sub hl [0, 1, 2, 3, 4] rfl) hP hD hS
  exact L13 _ (0 : Int32) (0 : Int64) o_next o_failed  ls _ _ (Nat.lt_succ_self _) E (lv_sub hl [0, 1, 2, 3, 4] rfl) hP hD hS
def f_X3_readNumber_J9 (x6 : Int32) (x7 : Int32) (x8 : Int64) : Int32 × Int32 × Int64 := ((x6, x7, x8))
def f_X3_readNumber (o_next : Int32) (o_failed : Int32) (o_in_count : Int32) (o_in_row_f : (Nat → Int32)) (p0 : Int32) : Int32 × Int32 × Int64 := ((if p0 = (7 : Int32) then (f_X3_readNumber_J9 o_next o_failed (1 : Int64)) else (match (f_X3_nextNumber o_next o_failed o_in_count o_in_row_f (f_X4_numberWidth p0) (f_X4_numberHasSign p0)) with | (y2, y3, y4) => f_X3_readNumber_J9 y3 y4 y2)))
set_option maxHeartbeats 4000000 in
set_option maxRecDepth 100000 in
theorem c_X3_readNumber (l : Launch) (D : va_G) (cI : ClassId) (tT : Nat) (o : Nat) (o_in : Nat) (o_into : Nat) (o_in_row : Nat) (o_into_kinds : Nat) (o_into_regs : Nat) (o_into_memory : Nat) (o_next : Int32) (o_failed : Int32) (o_repeated : Int32) (o_pfd : Int32) (o_pfx : Int32) (o_opcode : Int32) (o_form : Int32) (o_in_count : Int32) (o_in_row_f : (Nat → Int32)) (o_into_op : Int32) (o_into_size : Int32) (o_into_cond : Int32) (o_into_number : Int64) (p0 : Int32) (o_next_o : Int32) (o_failed_o : Int32) (o_into_number_o : Int64) (hq : f_X3_readNumber o_next o_failed o_in_count o_in_row_f p0 = (o_next_o, o_failed_o, o_into_number_o)) : qM l yX3_readNumber wsX3_readNumber (qr 3 67) (qX tT) D vwCl [(cI, .int)] [(o, .inr (3, [.ref o_in, .ref o_into, .int o_next, .int o_failed, .int o_repeated, .int o_pfd, .int o_pfx, .int o_opcode, .int o_form])), (o_in, .inr (2, [.ref o_in_row, .int o_in_count])), (o_in_row, .inl (cI, 16, .inl o_in_row_f)), (o_into, .inr (0, [.int o_into_op, .int o_into_size, .int o_into_cond, .long o_into_number, .ref o_into_kinds, .ref o_into_regs, .ref o_into_memory]))] [.ref o, .int p0] none [(o, .inr (3, [.ref o_in, .ref o_into, .int o_next_o, .int o_failed_o, .int o_repeated, .int o_pfd, .int o_pfx, .int o_opcode, .int o_form])), (o_in, .inr (2, [.ref o_in_row, .int o_in_count])), (o_in_row, .inl (cI, 16, .inl o_in_row_f)), (o_into, .inr (0, [.int o_into_op, .int o_into_size, .int o_into_cond, .long o_into_number_o, .ref o_into_kinds, .ref o_into_regs, .ref o_into_memory]))] := by
  refine qM_of (cc := cX3_readNumber) (maxL := 3) (ret := none) (by decide) rfl (Nat.le_of_ble_eq_true rfl) ?_
  intro p e s m args below meth c A ls Z hx hb hml hr hts hown hlk hK hA hXs hP hD hS hl hZ
  have hown : s.vm.findClass RX3 = some m.cls := hown
  have hl : lv_has ls 3 [(0, .ref o), (1, .int p0)] := hl
  have hi_X0 : ∀ w ∈ wsX00, w ∈ wsX3_readNumber := by decide +kernel
  have hi_X3 : ∀ w ∈ wsX30, w ∈ wsX3_readNumber := by decide +kernel
  have lk168 := va_Nw.use (A := args) rfl (hXs.2.2 (.fieldLinkNest RX3 168 "InstructionCoder$Fields" "number" "J" "InstructionCoder") (by decide +kernel))
  have lk21 := hts (.fieldLink RX3 21 "InstructionCoder$Reader" "into" "LInstructionCoder$Fields;") (by decide +kernel)
  have hXg := qX_ok tT
  have E := hq
  rw [f_X3_readNumber] at E
  refine lv_iload_n hx hb dX3_readNumber_0 rfl (lv_at hl 1 rfl) ?_
  refine lv_bipush (v := (7 : Int32)) hx hb dX3_readNumber_1 (by decide) ?_
  have J9 : ∀ (x6 : Int32) (x7 : Int32) (x8 : Int64) (ls : Array Slot) (H : Heap) (locs : List Loc), f_X3_readNumber_J9 x6 x7 x8 = (o_next_o, o_failed_o, o_into_number_o) → lv_has ls 3 [(0, .ref o), (1, .int p0)] → va_P D vwCl [(o, .inr (3, [.ref o_in, .ref o_into, .int x6, .int x7, .int o_repeated, .int o_pfd, .int o_pfx, .int o_opcode, .int o_form])), (o_in, .inr (2, [.ref o_in_row, .int o_in_count])), (o_in_row, .inl (cI, 16, .inl o_in_row_f)), (o_into, .inr (0, [.int o_into_op, .int o_into_size, .int o_into_cond, .long x8, .ref o_into_kinds, .ref o_into_regs, .ref o_into_memory]))] H → va_D A [(o, .inr (3, [.ref o_in, .ref o_into, .int x6, .int x7, .int o_repeated, .int o_pfd, .int o_pfx, .int o_opcode, .int o_form])), (o_in, .inr (2, [.ref o_in_row, .int o_in_count])), (o_in_row, .inl (cI, 16, .inl o_in_row_f)), (o_into, .inr (0, [.int o_into_op, .int o_into_size, .int o_into_cond, .long x8, .ref o_into_kinds, .ref o_into_regs, .ref o_into_memory]))] → va_S A s.heap H locs → W p l e (qr 3 67) s m args below meth c H locs 0 0 Z (F0 m 38 ls []) := by
    intro x6 x7 x8 ls H locs E hl hP hD hS
    rw [f_X3_readNumber_J9] at E
    cases E
    rw [hZ]
    exact qw_vret hx hb hr hlk hP hD hS dX3_readNumber_38
  refine lv_icmp_ne (tgt := 17) hx hb dX3_readNumber_3 (by decide) (fun c1 => ?_) (fun c1 => ?_)
  · rw [if_neg c1] at E
    refine lv_iload_n hx hb dX3_readNumber_17 rfl (lv_at hl 1 rfl) ?_
    refine qw_callS (As := [.int p0]) (rest := []) (ws' := [(o, .inr (3, [.ref o_in, .ref o_into, .int o_next, .int o_failed, .int o_repeated, .int o_pfd, .int o_pfx, .int o_opcode, .int o_form])), (o_in, .inr (2, [.ref o_in_row, .int o_in_count])), (o_in_row, .inl (cI, 16, .inl o_in_row_f)), (o_into, .inr (0, [.int o_into_op, .int o_into_size, .int o_into_cond, .long o_into_number, .ref o_into_kinds, .ref o_into_regs, .ref o_into_memory]))]) (st1 := [.int (f_X4_numberWidth p0)]) ⟨hx, hb, hml, hown, hts⟩ (c_X4_numberWidth l D cI tT p0 (f_X4_numberWidth p0) rfl) (va_cwS 1 hts gX3_readNumber_X4_numberWidth rfl rfl rfl (by decide +kernel) ⟨Nat.le_of_ble_eq_true rfl, Nat.le_of_ble_eq_true rfl⟩) hXg hK hP hD hS hA hXs [] rfl rfl  rfl rfl rfl hl.1 rfl (Nat.le_of_ble_eq_true rfl) rfl ⟨Nat.zero_le _, Nat.zero_le _⟩ dX3_readNumber_18 (fun H locs hP hD hS => ?_)
    refine lv_istore_n (lv' := [(2, .int (f_X4_numberWidth p0)), (0, .ref o), (1, .int p0)]) hx hb dX3_readNumber_21 rfl hl (by decide) rfl (fun ls hl => ?_)
    refine lv_aload_n hx hb dX3_readNumber_22 rfl (lv_at hl 1 rfl) ?_
    refine va_get (D := D) (ci := 3) (v := .ref o_into) (C := RX3) (T := TX3) (N := 9) hx hb hts hi_X3 hown hK hP 0 rfl rfl 1 (by decide) lk21 (fun _ h9 => h9) rfl dX3_readNumber_23 ?_
    refine lv_aload_n hx hb dX3_readNumber_26 rfl (lv_at hl 1 rfl) ?_
    refine lv_iload_n hx hb dX3_readNumber_27 rfl (lv_at hl 0 rfl) ?_
    refine lv_iload_n hx hb dX3_readNumber_28 rfl (lv_at hl 2 rfl) ?_
    refine qw_callS (As := [.int p0]) (rest := [.int (f_X4_numberWidth p0), .ref o, .ref o_into]) (ws' := [(o, .inr (3, [.ref o_in, .ref o_into, .int o_next, .int o_failed, .int o_repeated, .int o_pfd, .int o_pfx, .int o_opcode, .int o_form])), (o_in, .inr (2, [.ref o_in_row, .int o_in_count])), (o_in_row, .inl (cI, 16, .inl o_in_row_f)), (o_into, .inr (0, [.int o_into_op, .int o_into_size, .int o_into_cond, .long o_into_number, .ref o_into_kinds, .ref o_into_regs, .ref o_into_memory]))]) (st1 := [.int (f_X4_numberHasSign p0), .int (f_X4_numberWidth p0), .ref o, .ref o_into]) ⟨hx, hb, hml, hown, hts⟩ (c_X4_numberHasSign l D cI tT p0 (f_X4_numberHasSign p0) rfl) (va_cwS 1 hts gX3_readNumber_X4_numberHasSign rfl rfl rfl (by decide +kernel) ⟨Nat.le_of_ble_eq_true rfl, Nat.le_of_ble_eq_true rfl⟩) hXg hK hP hD hS hA hXs [] rfl rfl  rfl rfl rfl hl.1 rfl (Nat.le_of_ble_eq_true rfl) rfl ⟨Nat.zero_le _, Nat.zero_le _⟩ dX3_readNumber_29 (fun H locs hP hD hS => ?_)
    obtain ⟨y2, y3, y4, q5⟩ : ∃ y2 y3 y4, (f_X3_nextNumber o_next o_failed o_in_count o_in_row_f (f_X4_numberWidth p0) (f_X4_numberHasSign p0)) = (y2, y3, y4) := ⟨_, _, _, rfl⟩
    rw [q5] at E
    dsimp only at E
    refine qw_callV (As := [.int (f_X4_numberWidth p0), .int (f_X4_numberHasSign p0)]) (rest := [.ref o_into]) (ws' := [(o, .inr (3, [.ref o_in, .ref o_into, .int y3, .int y4, .int o_repeated, .int o_pfd, .int o_pfx, .int o_opcode, .int o_form])), (o_in, .inr (2, [.ref o_in_row, .int o_in_count])), (o_in_row, .inl (cI, 16, .inl o_in_row_f)), (o_into, .inr (0, [.int o_into_op, .int o_into_size, .int o_into_cond, .long o_into_number, .ref o_into_kinds, .ref o_into_regs, .ref o_into_memory]))]) (st1 := [.long y2, .ref o_into]) ⟨hx, hb, hml, hown, hts⟩ (c_X3_nextNumber l D cI tT o o_in o_into o_in_row o_next o_failed o_repeated o_pfd o_pfx o_opcode o_form o_in_count o_in_row_f (f_X4_numberWidth p0) (f_X4_numberHasSign p0) y2 y3 y4 q5) (cwV 2 hts gX3_readNumber_X3_nextNumber rfl rfl rfl (by decide +kernel) ⟨Nat.le_of_ble_eq_true rfl, Nat.le_of_ble_eq_true rfl⟩) hXg hK hP hD hS hA hXs [0, 1, 2] rfl rfl  rfl rfl rfl rfl rfl rfl hl.1 rfl (Nat.le_of_ble_eq_true rfl) rfl ⟨Nat.zero_le _, Nat.zero_le _⟩ dX3_readNumber_32 (fun H locs hP hD hS => ?_)
    refine va_putN (D := D) (ci := 0) (v := .long y2) (ty := .long) (C := RX0) (T := TX0) (N := 7) hx hb hts hi_X0 tyX0 tyX0_ok nmX0 hown hK hP hD hS 3 rfl rfl 3 (by decide) lk168 (fun _ h9 => h9) rfl (by decide +kernel) rfl rfl (Nat.le_of_ble_eq_true rfl) dX3_readNumber_35 (fun H locs hP hD hS => ?_)
    have hP : va_P D vwCl [(o, .inr (3, [.ref o_in, .ref o_into, .int y3, .int y4, .int o_repeated, .int o_pfd, .int o_pfx, .int o_opcode, .int o_form])), (o_in, .inr (2, [.ref o_in_row, .int o_in_count])), (o_in_row, .inl (cI, 16, .inl o_in_row_f)), (o_into, .inr (0, [.int o_into_op, .int o_into_size, .int o_into_cond, .long y2, .ref o_into_kinds, .ref o_into_regs, .ref o_into_memory]))] H := hP
    have hD : va_D A [(o, .inr (3, [.ref o_in, .ref o_into, .int y3, .int y4, .int o_repeated, .int o_pfd, .int o_pfx, .int o_opcode, .int o_form])), (o_in, .inr (2, [.ref o_in_row, .int o_in_count])), (o_in_row, .inl (cI, 16, .inl o_in_row_f)), (o_into, .inr (0, [.int o_into_op, .int o_into_size, .int o_into_cond, .long y2, .ref o_into_kinds, .ref o_into_regs, .ref o_into_memory]))] := hD
    exact J9 y3 y4 y2 ls _ _ E (lv_sub hl [1, 2] rfl) hP hD hS
  · rw [if_pos c1] at E
    refine lv_aload_n hx hb dX3_readNumber_6 rfl (lv_at hl 0 rfl) ?_
    refine va_get (D := D) (ci := 3) (v := .ref o_into) (C := RX3) (T := TX3) (N := 9) hx hb hts hi_X3 hown hK hP 0 rfl rfl 1 (by decide) lk21 (fun _ h9 => h9) rfl dX3_readNumber_7 ?_
    refine lv_lconst (v := (1 : Int64)) hx hb dX3_readNumber_10 (by decide) ?_
    refine va_putN (D := D) (ci := 0) (v := .long (1 : Int64)) (ty := .long) (C := RX0) (T := TX0) (N := 7) hx hb hts hi_X0 tyX0 tyX0_ok nmX0 hown hK hP hD hS 3 rfl rfl 3 (by decide) lk168 (fun _ h9 => h9) rfl (by decide +kernel) rfl rfl (Nat.le_of_ble_eq_true rfl) dX3_readNumber_11 (fun H locs hP hD hS => ?_)
    have hP : va_P D vwCl [(o, .inr (3, [.ref o_in, .ref o_into, .int o_next, .int o_failed, .int o_repeated, .int o_pfd, .int o_pfx, .int o_opcode, .int o_form])), (o_in, .inr (2, [.ref o_in_row, .int o_in_count])), (o_in_row, .inl (cI, 16, .inl o_in_row_f)), (o_into, .inr (0, [.int o_into_op, .int o_into_size, .int o_into_cond, .long (1 : Int64), .ref o_into_kinds, .ref o_into_regs, .ref o_into_memory]))] H := hP
    have hD : va_D A [(o, .inr (3, [.ref o_in, .ref o_into, .int o_next, .int o_failed, .int o_repeated, .int o_pfd, .int o_pfx, .int o_opcode, .int o_form])), (o_in, .inr (2, [.ref o_in_row, .int o_in_count])), (o_in_row, .inl (cI, 16, .inl o_in_row_f)), (o_into, .inr (0, [.int o_into_op, .int o_into_size, .int o_into_cond, .long (1 : Int64), .ref o_into_kinds, .ref o_into_regs, .ref o_into_memory]))] := hD
    refine lv_goto (tgt := 38) hx hb dX3_readNumber_14 (by decide) ?_
    exact J9 o_next o_failed (1 : Int64) ls _ _ E (lv_sub hl [0, 1] rfl) hP hD hS
def f_X3_readRegister_J4 (o_into_kinds_f : (Nat → Int32)) (o_into_regs_f : (Nat → Int32)) (p1 : Int32) (p2 : Int32) (x3 : Int32) : Int32 × (Nat → Int32) × (Nat → Int32) := (match (f_X0_setOperand o_into_kinds_f o_into_regs_f p1 (1 : Int32) p2) with | (y5, y6) => (x3, y5, y6))
def f_X3_readRegister (o_failed : Int32) (o_pfd : Int32) (o_into_size : Int32) (o_into_kinds_f : (Nat → Int32)) (o_into_regs_f : (Nat → Int32)) (p0 : Int32) (p1 : Int32) (p2 : Int32) : Int32 × (Nat → Int32) × (Nat → Int32) := ((if o_pfd = 0 then (if (f_X4_needsAnyPrefix p0 o_into_size p2) = 0 then (f_X3_readRegister_J4 o_into_kinds_f o_into_regs_f p1 p2 o_failed) else (f_X3_readRegister_J4 o_into_kinds_f o_into_regs_f p1 p2 (1 : Int32))) else (f_X3_readRegister_J4 o_into_kinds_f o_into_regs_f p1 p2 o_failed)))
set_option maxHeartbeats 4000000 in
set_option maxRecDepth 100000 in
theorem c_X3_readRegister (l : Launch) (D : va_G) (cI : ClassId) (tT : Nat) (o : Nat) (o_in : Nat) (o_into : Nat) (o_into_kinds : Nat) (o_into_regs : Nat) (o_into_memory : Nat) (o_next : Int32) (o_failed : Int32) (o_repeated : Int32) (o_pfd : Int32) (o_pfx : Int32) (o_opcode : Int32) (o_form : Int32) (o_into_op : Int32) (o_into_size : Int32) (o_into_cond : Int32) (o_into_number : Int64) (o_into_kinds_f : (Nat → Int32)) (o_into_regs_f : (Nat → Int32)) (p0 : Int32) (p1 : Int32) (p2 : Int32) (o_failed_o : Int32) (o_into_kinds_f_o : (Nat → Int32)) (o_into_regs_f_o : (Nat → Int32)) (hq : f_X3_readRegister o_failed o_pfd o_into_size o_into_kinds_f o_into_regs_f p0 p1 p2 = (o_failed_o, o_into_kinds_f_o, o_into_regs_f_o)) : qM l yX3_readRegister wsX3_readRegister (qr 1 23) (qX tT) D vwCl [(cI, .int)] [(o, .inr (3, [.ref o_in, .ref o_into, .int o_next, .int o_failed, .int o_repeated, .int o_pfd, .int o_pfx, .int o_opcode, .int o_form])), (o_into, .inr (0, [.int o_into_op, .int o_into_size, .int o_into_cond, .long o_into_number, .ref o_into_kinds, .ref o_into_regs, .ref o_into_memory])), (o_into_kinds, .inl (cI, 3, .inl o_into_kinds_f)), (o_into_regs, .inl (cI, 3, .inl o_into_regs_f))] [.ref o, .int p0, .int p1, .int p2] none [(o, .inr (3, [.ref o_in, .ref o_into, .int o_next, .int o_failed_o, .int o_repeated, .int o_pfd, .int o_pfx, .int o_opcode, .int o_form])), (o_into, .inr (0, [.int o_into_op, .int o_into_size, .int o_into_cond, .long o_into_number, .ref o_into_kinds, .ref o_into_regs, .ref o_into_memory])), (o_into_kinds, .inl (cI, 3, .inl o_into_kinds_f_o)), (o_into_regs, .inl (cI, 3, .inl o_into_regs_f_o))] := by
  refine qM_of (cc := cX3_readRegister) (maxL := 4) (ret := none) (by decide) rfl (Nat.le_of_ble_eq_true rfl) ?_
  intro p e s m args below meth c A ls Z hx hb hml hr hts hown hlk hK hA hXs hP hD hS hl hZ
  have hown : s.vm.findClass RX3 = some m.cls := hown
  have hl : lv_has ls 4 [(0, .ref o), (1, .int p0), (2, .int p1), (3, .int p2)] := hl
  have hi_X0 : ∀ w ∈ wsX00, w ∈ wsX3_readRegister := by decide +kernel
  have hi_X3 : ∀ w ∈ wsX30, w ∈ wsX3_readRegister := by decide +kernel
  have lk135 := va_Nw.use (A := args) rfl (hXs.2.2 (.fieldLinkNest RX3 135 "InstructionCoder$Fields" "size" "I" "InstructionCoder") (by decide +kernel))
  have lk21 := hts (.fieldLink RX3 21 "InstructionCoder$Reader" "into" "LInstructionCoder$Fields;") (by decide +kernel)
  have lk29 := hts (.fieldLink RX3 29 "InstructionCoder$Reader" "failed" "Z") (by decide +kernel)
  have lk51 := hts (.fieldLink RX3 51 "InstructionCoder$Reader" "prefixed" "Z") (by decide +kernel)
  have hXg := qX_ok tT
  have E := hq
  rw [f_X3_readRegister] at E
  refine lv_aload_n hx hb dX3_readRegister_0 rfl (lv_at hl 0 rfl) ?_
  refine va_get (D := D) (ci := 3) (v := .int o_pfd) (C := RX3) (T := TX3) (N := 9) hx hb hts hi_X3 hown hK hP 0 rfl rfl 5 (by decide) lk51 (fun _ h9 => h9) rfl dX3_readRegister_1 ?_
  have J4 : ∀ (x3 : Int32) (ls : Array Slot) (H : Heap) (locs : List Loc), f_X3_readRegister_J4 o_into_kinds_f o_into_regs_f p1 p2 x3 = (o_failed_o, o_into_kinds_f_o, o_into_regs_f_o) → lv_has ls 4 [(0, .ref o), (1, .int p0), (2, .int p1), (3, .int p2)] → va_P D vwCl [(o, .inr (3, [.ref o_in, .ref o_into, .int o_next, .int x3, .int o_repeated, .int o_pfd, .int o_pfx, .int o_opcode, .int o_form])), (o_into, .inr (0, [.int o_into_op, .int o_into_size, .int o_into_cond, .long o_into_number, .ref o_into_kinds, .ref o_into_regs, .ref o_into_memory])), (o_into_kinds, .inl (cI, 3, .inl o_into_kinds_f)), (o_into_regs, .inl (cI, 3, .inl o_into_regs_f))] H → va_D A [(o, .inr (3, [.ref o_in, .ref o_into, .int o_next, .int x3, .int o_repeated, .int o_pfd, .int o_pfx, .int o_opcode, .int o_form])), (o_into, .inr (0, [.int o_into_op, .int o_into_size, .int o_into_cond, .long o_into_number, .ref o_into_kinds, .ref o_into_regs, .ref o_into_memory])), (o_into_kinds, .inl (cI, 3, .inl o_into_kinds_f)), (o_into_regs, .inl (cI, 3, .inl o_into_regs_f))] → va_S A s.heap H locs → W p l e (qr 1 23) s m args below meth c H locs 0 0 Z (F0 m 27 ls []) := by
    intro x3 ls H locs E hl hP hD hS
    rw [f_X3_readRegister_J4] at E
    refine lv_aload_n hx hb dX3_readRegister_27 rfl (lv_at hl 0 rfl) ?_
    refine va_get (D := D) (ci := 3) (v := .ref o_into) (C := RX3) (T := TX3) (N := 9) hx hb hts hi_X3 hown hK hP 0 rfl rfl 1 (by decide) lk21 (fun _ h9 => h9) rfl dX3_readRegister_28 ?_
    refine lv_iload_n hx hb dX3_readRegister_31 rfl (lv_at hl 2 rfl) ?_
    refine lv_iconst (v := (1 : Int32)) hx hb dX3_readRegister_32 (by decide) ?_
    refine lv_iload_n hx hb dX3_readRegister_33 rfl (lv_at hl 3 rfl) ?_
    obtain ⟨y5, y6, q7⟩ : ∃ y5 y6, (f_X0_setOperand o_into_kinds_f o_into_regs_f p1 (1 : Int32) p2) = (y5, y6) := ⟨_, _, rfl⟩
    rw [q7] at E
    dsimp only at E
    refine qw_callV (As := [.int p1, .int (1 : Int32), .int p2]) (rest := []) (ws' := [(o, .inr (3, [.ref o_in, .ref o_into, .int o_next, .int x3, .int o_repeated, .int o_pfd, .int o_pfx, .int o_opcode, .int o_form])), (o_into, .inr (0, [.int o_into_op, .int o_into_size, .int o_into_cond, .long o_into_number, .ref o_into_kinds, .ref o_into_regs, .ref o_into_memory])), (o_into_kinds, .inl (cI, 3, .inl y5)), (o_into_regs, .inl (cI, 3, .inl y6))]) (st1 := []) ⟨hx, hb, hml, hown, hts⟩ (c_X0_setOperand l D cI tT o_into o_into_kinds o_into_regs o_into_memory o_into_op o_into_size o_into_cond o_into_number o_into_kinds_f o_into_regs_f p1 (1 : Int32) p2 y5 y6 q7) (cwV 3 hts gX3_readRegister_X0_setOperand rfl rfl rfl (by decide +kernel) ⟨Nat.le_of_ble_eq_true rfl, Nat.le_of_ble_eq_true rfl⟩) hXg hK hP hD hS hA hXs [1, 2, 3] rfl rfl  rfl rfl rfl rfl rfl rfl hl.1 rfl (Nat.le_of_ble_eq_true rfl) rfl ⟨Nat.zero_le _, Nat.zero_le _⟩ dX3_readRegister_34 (fun H locs hP hD hS => ?_)
    cases E
    rw [hZ]
    exact qw_vret hx hb hr hlk hP hD hS dX3_readRegister_37
  refine lv_if_ne (tgt := 27) hx hb dX3_readRegister_4 (by decide) (fun c1 => ?_) (fun c1 => ?_)
  · rw [if_neg c1] at E
    exact J4 o_failed ls _ _ E (lv_sub hl [0, 1, 2, 3] rfl) hP hD hS
  · rw [if_pos c1] at E
    refine lv_iload_n hx hb dX3_readRegister_7 rfl (lv_at hl 1 rfl) ?_
    refine lv_aload_n hx hb dX3_readRegister_8 rfl (lv_at hl 0 rfl) ?_
    refine va_get (D := D) (ci := 3) (v := .ref o_into) (C := RX3) (T := TX3) (N := 9) hx hb hts hi_X3 hown hK hP 0 rfl rfl 1 (by decide) lk21 (fun _ h9 => h9) rfl dX3_readRegister_9 ?_
    refine va_getN (D := D) (ci := 0) (v := .int o_into_size) (C := RX0) (T := TX0) (N := 7) hx hb hts hi_X0 hown hK hP 1 rfl rfl 1 (by decide) lk135 (fun _ h9 => h9) rfl dX3_readRegister_12 ?_
    refine lv_iload_n hx hb dX3_readRegister_15 rfl (lv_at hl 3 rfl) ?_
    refine qw_callS (As := [.int p0, .int o_into_size, .int p2]) (rest := []) (ws' := [(o, .inr (3, [.ref o_in, .ref o_into, .int o_next, .int o_failed, .int o_repeated, .int o_pfd, .int o_pfx, .int o_opcode, .int o_form])), (o_into, .inr (0, [.int o_into_op, .int o_into_size, .int o_into_cond, .long o_into_number, .ref o_into_kinds, .ref o_into_regs, .ref o_into_memory])), (o_into_kinds, .inl (cI, 3, .inl o_into_kinds_f)), (o_into_regs, .inl (cI, 3, .inl o_into_regs_f))]) (st1 := [.int (f_X4_needsAnyPrefix p0 o_into_size p2)]) ⟨hx, hb, hml, hown, hts⟩ (c_X4_needsAnyPrefix l D cI tT p0 o_into_size p2 (f_X4_needsAnyPrefix p0 o_into_size p2) rfl) (va_cwS 3 hts gX3_readRegister_X4_needsAnyPrefix rfl rfl rfl (by decide +kernel) ⟨Nat.le_of_ble_eq_true rfl, Nat.le_of_ble_eq_true rfl⟩) hXg hK hP hD hS hA hXs [] rfl rfl  rfl rfl rfl hl.1 rfl (Nat.le_of_ble_eq_true rfl) rfl ⟨Nat.zero_le _, Nat.zero_le _⟩ dX3_readRegister_16 (fun H locs hP hD hS => ?_)
    refine lv_if_eq (tgt := 27) hx hb dX3_readRegister_19 (by decide) (fun c2 => ?_) (fun c2 => ?_)
    · rw [if_pos c2] at E
      exact J4 o_failed ls _ _ E (lv_sub hl [0, 1, 2, 3] rfl) hP hD hS
    · rw [if_neg c2] at E
      refine lv_aload_n hx hb dX3_readRegister_22 rfl (lv_at hl 0 rfl) ?_
      refine lv_iconst (v := (1 : Int32)) hx hb dX3_readRegister_23 (by decide) ?_
      refine va_put (D := D) (ci := 3) (v := .int (1 : Int32)) (ty := .boolean) (C := RX3) (T := TX3) (N := 9) hx hb hts hi_X3 tyX3 tyX3_ok nmX3 hown hK hP hD hS 0 rfl rfl 3 (by decide) lk29 (fun _ h9 => h9) rfl (by decide +kernel) rfl rfl (Nat.le_of_ble_eq_true rfl) dX3_readRegister_24 (fun H locs hP hD hS => ?_)
      have hP : va_P D vwCl [(o, .inr (3, [.ref o_in, .ref o_into, .int o_next, .int (1 : Int32), .int o_repeated, .int o_pfd, .int o_pfx, .int o_opcode, .int o_form])), (o_into, .inr (0, [.int o_into_op, .int o_into_size, .int o_into_cond, .long o_into_number, .ref o_into_kinds, .ref o_into_regs, .ref o_into_memory])), (o_into_kinds, .inl (cI, 3, .inl o_into_kinds_f)), (o_into_regs, .inl (cI, 3, .inl o_into_regs_f))] H := hP
      have hD : va_D A [(o, .inr (3, [.ref o_in, .ref o_into, .int o_next, .int (1 : Int32), .int o_repeated, .int o_pfd, .int o_pfx, .int o_opcode, .int o_form])), (o_into, .inr (0, [.int o_into_op, .int o_into_size, .int o_into_cond, .long o_into_number, .ref o_into_kinds, .ref o_into_regs, .ref o_into_memory])), (o_into_kinds, .inl (cI, 3, .inl o_into_kinds_f)), (o_into_regs, .inl (cI, 3, .inl o_into_regs_f))] := hD
      exact J4 (1 : Int32) ls _ _ E (lv_sub hl [0, 1, 2, 3] rfl) hP hD hS
def f_X3_readFormOperand_J13 (x10 : Int32) (x11 : (Nat → Int32)) (x12 : (Nat → Int32)) : Int32 × (Nat → Int32) × (Nat → Int32) := ((x10, x11, x12))
def f_X3_readFormOperand (o_failed : Int32) (o_pfd : Int32) (o_pfx : Int32) (o_form : Int32) (o_into_size : Int32) (o_into_kinds_f : (Nat → Int32)) (o_into_regs_f : (Nat → Int32)) (p0 : Int32) (p1 : Int32) : Int32 × (Nat → Int32) × (Nat → Int32) := ((if (f_X3_formMod o_form) = (3 : Int32) then (if p0 = (4 : Int32) then (f_X3_readFormOperand_J13 (1 : Int32) o_into_kinds_f o_into_regs_f) else (match (f_X3_readRegister o_failed o_pfd o_into_size o_into_kinds_f o_into_regs_f p0 p1 ((f_X3_high o_pfx (1 : Int32)) + (o_form &&& (7 : Int32)))) with | (y3, y4, y5) => f_X3_readFormOperand_J13 y3 y4 y5)) else (match (f_X0_setOperand o_into_kinds_f o_into_regs_f p1 (2 : Int32) (0 : Int32)) with | (y7, y8) => f_X3_readFormOperand_J13 o_failed y7 y8)))
set_option maxHeartbeats 4000000 in
set_option maxRecDepth 100000 in
theorem c_X3_readFormOperand (l : Launch) (D : va_G) (cI : ClassId) (tT : Nat) (o : Nat) (o_in : Nat) (o_into : Nat) (o_into_kinds : Nat) (o_into_regs : Nat) (o_into_memory : Nat) (o_next : Int32) (o_failed : Int32) (o_repeated : Int32) (o_pfd : Int32) (o_pfx : Int32) (o_opcode : Int32) (o_form : Int32) (o_into_op : Int32) (o_into_size : Int32) (o_into_cond : Int32) (o_into_number : Int64) (o_into_kinds_f : (Nat → Int32)) (o_into_regs_f : (Nat → Int32)) (p0 : Int32) (p1 : Int32) (o_failed_o : Int32) (o_into_kinds_f_o : (Nat → Int32)) (o_into_regs_f_o : (Nat → Int32)) (hq : f_X3_readFormOperand o_failed o_pfd o_pfx o_form o_into_size o_into_kinds_f o_into_regs_f p0 p1 = (o_failed_o, o_into_kinds_f_o, o_into_regs_f_o)) : qM l yX3_readFormOperand wsX3_readFormOperand (qr 2 46) (qX tT) D vwCl [(cI, .int)] [(o, .inr (3, [.ref o_in, .ref o_into, .int o_next, .int o_failed, .int o_repeated, .int o_pfd, .int o_pfx, .int o_opcode, .int o_form])), (o_into, .inr (0, [.int o_into_op, .int o_into_size, .int o_into_cond, .long o_into_number, .ref o_into_kinds, .ref o_into_regs, .ref o_into_memory])), (o_into_kinds, .inl (cI, 3, .inl o_into_kinds_f)), (o_into_regs, .inl (cI, 3, .inl o_into_regs_f))] [.ref o, .int p0, .int p1] none [(o, .inr (3, [.ref o_in, .ref o_into, .int o_next, .int o_failed_o, .int o_repeated, .int o_pfd, .int o_pfx, .int o_opcode, .int o_form])), (o_into, .inr (0, [.int o_into_op, .int o_into_size, .int o_into_cond, .long o_into_number, .ref o_into_kinds, .ref o_into_regs, .ref o_into_memory])), (o_into_kinds, .inl (cI, 3, .inl o_into_kinds_f_o)), (o_into_regs, .inl (cI, 3, .inl o_into_regs_f_o))] := by
  refine qM_of (cc := cX3_readFormOperand) (maxL := 3) (ret := none) (by decide) rfl (Nat.le_of_ble_eq_true rfl) ?_
  intro p e s m args below meth c A ls Z hx hb hml hr hts hown hlk hK hA hXs hP hD hS hl hZ
  have hown : s.vm.findClass RX3 = some m.cls := hown
  have hl : lv_has ls 3 [(0, .ref o), (1, .int p0), (2, .int p1)] := hl
  have hi_X3 : ∀ w ∈ wsX30, w ∈ wsX3_readFormOperand := by decide +kernel
  have lk118 := hts (.fieldLink RX3 118 "InstructionCoder$Reader" "form" "I") (by decide +kernel)
  have lk21 := hts (.fieldLink RX3 21 "InstructionCoder$Reader" "into" "LInstructionCoder$Fields;") (by decide +kernel)
  have lk29 := hts (.fieldLink RX3 29 "InstructionCoder$Reader" "failed" "Z") (by decide +kernel)
  have hXg := qX_ok tT
  have E := hq
  rw [f_X3_readFormOperand] at E
  refine lv_aload_n hx hb dX3_readFormOperand_0 rfl (lv_at hl 0 rfl) ?_
  refine qw_callV (As := []) (rest := []) (ws' := [(o, .inr (3, [.ref o_in, .ref o_into, .int o_next, .int o_failed, .int o_repeated, .int o_pfd, .int o_pfx, .int o_opcode, .int o_form])), (o_into, .inr (0, [.int o_into_op, .int o_into_size, .int o_into_cond, .long o_into_number, .ref o_into_kinds, .ref o_into_regs, .ref o_into_memory])), (o_into_kinds, .inl (cI, 3, .inl o_into_kinds_f)), (o_into_regs, .inl (cI, 3, .inl o_into_regs_f))]) (st1 := [.int (f_X3_formMod o_form)]) ⟨hx, hb, hml, hown, hts⟩ (c_X3_formMod l D cI tT o o_in o_into o_next o_failed o_repeated o_pfd o_pfx o_opcode o_form (f_X3_formMod o_form) rfl) (cwV 0 hts gX3_readFormOperand_X3_formMod rfl rfl rfl (by decide +kernel) ⟨Nat.le_of_ble_eq_true rfl, Nat.le_of_ble_eq_true rfl⟩) hXg hK hP hD hS hA hXs [0] rfl rfl  rfl rfl rfl rfl rfl rfl hl.1 rfl (Nat.le_of_ble_eq_true rfl) rfl ⟨Nat.zero_le _, Nat.zero_le _⟩ dX3_readFormOperand_1 (fun H locs hP hD hS => ?_)
  refine lv_iconst (v := (3 : Int32)) hx hb dX3_readFormOperand_4 (by decide) ?_
  have J13 : ∀ (x10 : Int32) (x11 : (Nat → Int32)) (x12 : (Nat → Int32)) (ls : Array Slot) (H : Heap) (locs : List Loc), f_X3_readFormOperand_J13 x10 x11 x12 = (o_failed_o, o_into_kinds_f_o, o_into_regs_f_o) → lv_has ls 3 [(0, .ref o), (1, .int p0), (2, .int p1)] → va_P D vwCl [(o, .inr (3, [.ref o_in, .ref o_into, .int o_next, .int x10, .int o_repeated, .int o_pfd, .int o_pfx, .int o_opcode, .int o_form])), (o_into, .inr (0, [.int o_into_op, .int o_into_size, .int o_into_cond, .long o_into_number, .ref o_into_kinds, .ref o_into_regs, .ref o_into_memory])), (o_into_kinds, .inl (cI, 3, .inl x11)), (o_into_regs, .inl (cI, 3, .inl x12))] H → va_D A [(o, .inr (3, [.ref o_in, .ref o_into, .int o_next, .int x10, .int o_repeated, .int o_pfd, .int o_pfx, .int o_opcode, .int o_form])), (o_into, .inr (0, [.int o_into_op, .int o_into_size, .int o_into_cond, .long o_into_number, .ref o_into_kinds, .ref o_into_regs, .ref o_into_memory])), (o_into_kinds, .inl (cI, 3, .inl x11)), (o_into_regs, .inl (cI, 3, .inl x12))] → va_S A s.heap H locs → W p l e (qr 2 46) s m args below meth c H locs 0 0 Z (F0 m 53 ls []) := by
    intro x10 x11 x12 ls H locs E hl hP hD hS
    rw [f_X3_readFormOperand_J13] at E
    cases E
    rw [hZ]
    exact qw_vret hx hb hr hlk hP hD hS dX3_readFormOperand_53
  refine lv_icmp_eq (tgt := 21) hx hb dX3_readFormOperand_5 (by decide) (fun c1 => ?_) (fun c1 => ?_)
  · rw [if_pos c1] at E
    refine lv_iload_n hx hb dX3_readFormOperand_21 rfl (lv_at hl 1 rfl) ?_
    refine lv_iconst (v := (4 : Int32)) hx hb dX3_readFormOperand_22 (by decide) ?_
    refine lv_icmp_ne (tgt := 34) hx hb dX3_readFormOperand_23 (by decide) (fun c2 => ?_) (fun c2 => ?_)
    · rw [if_neg c2] at E
      refine lv_aload_n hx hb dX3_readFormOperand_34 rfl (lv_at hl 0 rfl) ?_
      refine lv_iload_n hx hb dX3_readFormOperand_35 rfl (lv_at hl 1 rfl) ?_
      refine lv_iload_n hx hb dX3_readFormOperand_36 rfl (lv_at hl 2 rfl) ?_
      refine lv_aload_n hx hb dX3_readFormOperand_37 rfl (lv_at hl 0 rfl) ?_
      refine lv_iconst (v := (1 : Int32)) hx hb dX3_readFormOperand_38 (by decide) ?_
      refine qw_callV (As := [.int (1 : Int32)]) (rest := [.int p1, .int p0, .ref o]) (ws' := [(o, .inr (3, [.ref o_in, .ref o_into, .int o_next, .int o_failed, .int o_repeated, .int o_pfd, .int o_pfx, .int o_opcode, .int o_form])), (o_into, .inr (0, [.int o_into_op, .int o_into_size, .int o_into_cond, .long o_into_number, .ref o_into_kinds, .ref o_into_regs, .ref o_into_memory])), (o_into_kinds, .inl (cI, 3, .inl o_into_kinds_f)), (o_into_regs, .inl (cI, 3, .inl o_into_regs_f))]) (st1 := [.int (f_X3_high o_pfx (1 : Int32)), .int p1, .int p0, .ref o]) ⟨hx, hb, hml, hown, hts⟩ (c_X3_high l D cI tT o o_in o_into o_next o_failed o_repeated o_pfd o_pfx o_opcode o_form (1 : Int32) (f_X3_high o_pfx (1 : Int32)) rfl) (cwV 1 hts gX3_readFormOperand_X3_high rfl rfl rfl (by decide +kernel) ⟨Nat.le_of_ble_eq_true rfl, Nat.le_of_ble_eq_true rfl⟩) hXg hK hP hD hS hA hXs [0] rfl rfl  rfl rfl rfl rfl rfl rfl hl.1 rfl (Nat.le_of_ble_eq_true rfl) rfl ⟨Nat.zero_le _, Nat.zero_le _⟩ dX3_readFormOperand_39 (fun H locs hP hD hS => ?_)
      refine lv_aload_n hx hb dX3_readFormOperand_42 rfl (lv_at hl 0 rfl) ?_
      refine va_get (D := D) (ci := 3) (v := .int o_form) (C := RX3) (T := TX3) (N := 9) hx hb hts hi_X3 hown hK hP 0 rfl rfl 8 (by decide) lk118 (fun _ h9 => h9) rfl dX3_readFormOperand_43 ?_
      refine lv_bipush (v := (7 : Int32)) hx hb dX3_readFormOperand_46 (by decide) ?_
      refine lv_iand hx hb dX3_readFormOperand_48 ?_
      refine lv_iadd hx hb dX3_readFormOperand_49 ?_
      obtain ⟨y3, y4, y5, q6⟩ : ∃ y3 y4 y5, (f_X3_readRegister o_failed o_pfd o_into_size o_into_kinds_f o_into_regs_f p0 p1 ((f_X3_high o_pfx (1 : Int32)) + (o_form &&& (7 : Int32)))) = (y3, y4, y5) := ⟨_, _, _, rfl⟩
      rw [q6] at E
      dsimp only at E
      refine qw_callV (As := [.int p0, .int p1, .int ((f_X3_high o_pfx (1 : Int32)) + (o_form &&& (7 : Int32)))]) (rest := []) (ws' := [(o, .inr (3, [.ref o_in, .ref o_into, .int o_next, .int y3, .int o_repeated, .int o_pfd, .int o_pfx, .int o_opcode, .int o_form])), (o_into, .inr (0, [.int o_into_op, .int o_into_size, .int o_into_cond, .long o_into_number, .ref o_into_kinds, .ref o_into_regs, .ref o_into_memory])), (o_into_kinds, .inl (cI, 3, .inl y4)), (o_into_regs, .inl (cI, 3, .inl y5))]) (st1 := []) ⟨hx, hb, hml, hown, hts⟩ (c_X3_readRegister l D cI tT o o_in o_into o_into_kinds o_into_regs o_into_memory o_next o_failed o_repeated o_pfd o_pfx o_opcode o_form o_into_op o_into_size o_into_cond o_into_number o_into_kinds_f o_into_regs_f p0 p1 ((f_X3_high o_pfx (1 : Int32)) + (o_form &&& (7 : Int32))) y3 y4 y5 q6) (cwV 3 hts gX3_readFormOperand_X3_readRegister rfl rfl rfl (by decide +kernel) ⟨Nat.le_of_ble_eq_true rfl, Nat.le_of_ble_eq_true rfl⟩) hXg hK hP hD hS hA hXs [0, 1, 2, 3] rfl rfl  rfl rfl rfl rfl rfl rfl hl.1 rfl (Nat.le_of_ble_eq_true rfl) rfl ⟨Nat.zero_le _, Nat.zero_le _⟩ dX3_readFormOperand_50 (fun H locs hP hD hS => ?_)
      exact J13 y3 y4 y5 ls _ _ E (lv_sub hl [0, 1, 2] rfl) hP hD hS
    · rw [if_pos c2] at E
      refine lv_aload_n hx hb dX3_readFormOperand_26 rfl (lv_at hl 0 rfl) ?_
      refine lv_iconst (v := (1 : Int32)) hx hb dX3_readFormOperand_27 (by decide) ?_
      refine va_put (D := D) (ci := 3) (v := .int (1 : Int32)) (ty := .boolean) (C := RX3) (T := TX3) (N := 9) hx hb hts hi_X3 tyX3 tyX3_ok nmX3 hown hK hP hD hS 0 rfl rfl 3 (by decide) lk29 (fun _ h9 => h9) rfl (by decide +kernel) rfl rfl (Nat.le_of_ble_eq_true rfl) dX3_readFormOperand_28 (fun H locs hP hD hS => ?_)
      have hP : va_P D vwCl [(o, .inr (3, [.ref o_in, .ref o_into, .int o_next, .int (1 : Int32), .int o_repeated, .int o_pfd, .int o_pfx, .int o_opcode, .int o_form])), (o_into, .inr (0, [.int o_into_op, .int o_into_size, .int o_into_cond, .long o_into_number, .ref o_into_kinds, .ref o_into_regs, .ref o_into_memory])), (o_into_kinds, .inl (cI, 3, .inl o_into_kinds_f)), (o_into_regs, .inl (cI, 3, .inl o_into_regs_f))] H := hP
      have hD : va_D A [(o, .inr (3, [.ref o_in, .ref o_into, .int o_next, .int (1 : Int32), .int o_repeated, .int o_pfd, .int o_pfx, .int o_opcode, .int o_form])), (o_into, .inr (0, [.int o_into_op, .int o_into_size, .int o_into_cond, .long o_into_number, .ref o_into_kinds, .ref o_into_regs, .ref o_into_memory])), (o_into_kinds, .inl (cI, 3, .inl o_into_kinds_f)), (o_into_regs, .inl (cI, 3, .inl o_into_regs_f))] := hD
      refine lv_goto (tgt := 53) hx hb dX3_readFormOperand_31 (by decide) ?_
      exact J13 (1 : Int32) o_into_kinds_f o_into_regs_f ls _ _ E (lv_sub hl [0, 1, 2] rfl) hP hD hS
  · rw [if_neg c1] at E
    refine lv_aload_n hx hb dX3_readFormOperand_8 rfl (lv_at hl 0 rfl) ?_
    refine va_get (D := D) (ci := 3) (v := .ref o_into) (C := RX3) (T := TX3) (N := 9) hx hb hts hi_X3 hown hK hP 0 rfl rfl 1 (by decide) lk21 (fun _ h9 => h9) rfl dX3_readFormOperand_9 ?_
    refine lv_iload_n hx hb dX3_readFormOperand_12 rfl (lv_at hl 2 rfl) ?_
    refine lv_iconst (v := (2 : Int32)) hx hb dX3_readFormOperand_13 (by decide) ?_
    refine lv_iconst (v := (0 : Int32)) hx hb dX3_readFormOperand_14 (by decide) ?_
    obtain ⟨y7, y8, q9⟩ : ∃ y7 y8, (f_X0_setOperand o_into_kinds_f o_into_regs_f p1 (2 : Int32) (0 : Int32)) = (y7, y8) := ⟨_, _, rfl⟩
    rw [q9] at E
    dsimp only at E
    refine qw_callV (As := [.int p1, .int (2 : Int32), .int (0 : Int32)]) (rest := []) (ws' := [(o, .inr (3, [.ref o_in, .ref o_into, .int o_next, .int o_failed, .int o_repeated, .int o_pfd, .int o_pfx, .int o_opcode, .int o_form])), (o_into, .inr (0, [.int o_into_op, .int o_into_size, .int o_into_cond, .long o_into_number, .ref o_into_kinds, .ref o_into_regs, .ref o_into_memory])), (o_into_kinds, .inl (cI, 3, .inl y7)), (o_into_regs, .inl (cI, 3, .inl y8))]) (st1 := []) ⟨hx, hb, hml, hown, hts⟩ (c_X0_setOperand l D cI tT o_into o_into_kinds o_into_regs o_into_memory o_into_op o_into_size o_into_cond o_into_number o_into_kinds_f o_into_regs_f p1 (2 : Int32) (0 : Int32) y7 y8 q9) (cwV 3 hts gX3_readFormOperand_X0_setOperand rfl rfl rfl (by decide +kernel) ⟨Nat.le_of_ble_eq_true rfl, Nat.le_of_ble_eq_true rfl⟩) hXg hK hP hD hS hA hXs [1, 2, 3] rfl rfl  rfl rfl rfl rfl rfl rfl hl.1 rfl (Nat.le_of_ble_eq_true rfl) rfl ⟨Nat.zero_le _, Nat.zero_le _⟩ dX3_readFormOperand_15 (fun H locs hP hD hS => ?_)
    refine lv_goto (tgt := 53) hx hb dX3_readFormOperand_18 (by decide) ?_
    exact J13 o_failed y7 y8 ls _ _ E (lv_sub hl [0, 1, 2] rfl) hP hD hS
def f_X3_readOperand_J41 (x38 : Int32) (x39 : (Nat → Int32)) (x40 : (Nat → Int32)) : Int32 × (Nat → Int32) × (Nat → Int32) := ((x38, x39, x40))
def f_X3_readOperand (o_failed : Int32) (o_pfd : Int32) (o_pfx : Int32) (o_opcode : Int32) (o_form : Int32) (o_into_size : Int32) (o_into_kinds_f : (Nat → Int32)) (o_into_regs_f : (Nat → Int32)) (p0 : Int32) (p1 : Int32) : Int32 × (Nat → Int32) × (Nat → Int32) := ((if p0 = (1 : Int32) then (match (f_X3_readRegister o_failed o_pfd o_into_size o_into_kinds_f o_into_regs_f p0 p1 ((f_X3_high o_pfx (4 : Int32)) + ((o_form >>> ((3 : Int32) &&& 31)) &&& (7 : Int32)))) with | (y9, y10, y11) => f_X3_readOperand_J41 y9 y10 y11) else (if p0 = (2 : Int32) then (match (f_X3_readFormOperand o_failed o_pfd o_pfx o_form o_into_size o_into_kinds_f o_into_regs_f p0 p1) with | (y13, y14, y15) => f_X3_readOperand_J41 y13 y14 y15) else (if p0 = (3 : Int32) then (match (f_X3_readFormOperand o_failed o_pfd o_pfx o_form o_into_size o_into_kinds_f o_into_regs_f p0 p1) with | (y17, y18, y19) => f_X3_readOperand_J41 y17 y18 y19) else (if p0 = (4 : Int32) then (match (f_X3_readFormOperand o_failed o_pfd o_pfx o_form o_into_size o_into_kinds_f o_into_regs_f p0 p1) with | (y21, y22, y23) => f_X3_readOperand_J41 y21 y22 y23) else (if p0 = (5 : Int32) then (match (f_X3_readRegister o_failed o_pfd o_into_size o_into_kinds_f o_into_regs_f p0 p1 ((f_X3_high o_pfx (1 : Int32)) + (o_opcode &&& (7 : Int32)))) with | (y25, y26, y27) => f_X3_readOperand_J41 y25 y26 y27) else (if p0 = (6 : Int32) then (match (f_X0_setOperand o_into_kinds_f o_into_regs_f p1 (1 : Int32) (0 : Int32)) with | (y29, y30) => f_X3_readOperand_J41 o_failed y29 y30) else (if p0 = (7 : Int32) then (match (f_X0_setOperand o_into_kinds_f o_into_regs_f p1 (1 : Int32) (1 : Int32)) with | (y32, y33) => f_X3_readOperand_J41 o_failed y32 y33) else (if p0 = (8 : Int32) then (match (f_X0_setOperand o_into_kinds_f o_into_regs_f p1 (3 : Int32) (0 : Int32)) with | (y35, y36) => f_X3_readOperand_J41 o_failed y35 y36) else (f_X3_readOperand_J41 o_failed o_into_kinds_f o_into_regs_f))))))))))
set_option maxHeartbeats 4000000 in
set_option maxRecDepth 100000 in
theorem c_X3_readOperand (l : Launch) (D : va_G) (cI : ClassId) (tT : Nat) (o : Nat) (o_in : Nat) (o_into : Nat) (o_into_kinds : Nat) (o_into_regs : Nat) (o_into_memory : Nat) (o_next : Int32) (o_failed : Int32) (o_repeated : Int32) (o_pfd : Int32) (o_pfx : Int32) (o_opcode : Int32) (o_form : Int32) (o_into_op : Int32) (o_into_size : Int32) (o_into_cond : Int32) (o_into_number : Int64) (o_into_kinds_f : (Nat → Int32)) (o_into_regs_f : (Nat → Int32)) (p0 : Int32) (p1 : Int32) (o_failed_o : Int32) (o_into_kinds_f_o : (Nat → Int32)) (o_into_regs_f_o : (Nat → Int32)) (hq : f_X3_readOperand o_failed o_pfd o_pfx o_opcode o_form o_into_size o_into_kinds_f o_into_regs_f p0 p1 = (o_failed_o, o_into_kinds_f_o, o_into_regs_f_o)) : qM l yX3_readOperand wsX3_readOperand (qr 3 68) (qX tT) D vwCl [(cI, .int)] [(o, .inr (3, [.ref o_in, .ref o_into, .int o_next, .int o_failed, .int o_repeated, .int o_pfd, .int o_pfx, .int o_opcode, .int o_form])), (o_into, .inr (0, [.int o_into_op, .int o_into_size, .int o_into_cond, .long o_into_number, .ref o_into_kinds, .ref o_into_regs, .ref o_into_memory])), (o_into_kinds, .inl (cI, 3, .inl o_into_kinds_f)), (o_into_regs, .inl (cI, 3, .inl o_into_regs_f))] [.ref o, .int p0, .int p1] none [(o, .inr (3, [.ref o_in, .ref o_into, .int o_next, .int o_failed_o, .int o_repeated, .int o_pfd, .int o_pfx, .int o_opcode, .int o_form])), (o_into, .inr (0, [.int o_into_op, .int o_into_size, .int o_into_cond, .long o_into_number, .ref o_into_kinds, .ref o_into_regs, .ref o_into_memory])), (o_into_kinds, .inl (cI, 3, .inl o_into_kinds_f_o)), (o_into_regs, .inl (cI, 3, .inl o_into_regs_f_o))] := by
  refine qM_of (cc := cX3_readOperand) (maxL := 3) (ret := none) (by decide) rfl (Nat.le_of_ble_eq_true rfl) ?_
  intro p e s m args below meth c A ls Z hx hb hml hr hts hown hlk hK hA hXs hP hD hS hl hZ
  have hown : s.vm.findClass RX3 = some m.cls := hown
  have hl : lv_has ls 3 [(0, .ref o), (1, .int p0), (2, .int p1)] := hl
  have hi_X3 : ∀ w ∈ wsX30, w ∈ wsX3_readOperand := by decide +kernel
  have lk118 := hts (.fieldLink RX3 118 "InstructionCoder$Reader" "form" "I") (by decide +kernel)
  have lk21 := hts (.fieldLink RX3 21 "InstructionCoder$Reader" "into" "LInstructionCoder$Fields;") (by decide +kernel)
  have lk60 := hts (.fieldLink RX3 60 "InstructionCoder$Reader" "opcode" "I") (by decide +kernel)
  have hXg := qX_ok tT
  have E := hq
  rw [f_X3_readOperand] at E
  refine lv_iload_n hx hb dX3_readOperand_0 rfl (lv_at hl 1 rfl) ?_
  have J41 : ∀ (x38 : Int32) (x39 : (Nat → Int32)) (x40 : (Nat → Int32)) (ls : Array Slot) (H : Heap) (locs : List Loc), f_X3_readOperand_J41 x38 x39 x40 = (o_failed_o, o_into_kinds_f_o, o_into_regs_f_o) → lv_has ls 3 [(0, .ref o), (1, .int p0), (2, .int p1)] → va_P D vwCl [(o, .inr (3, [.ref o_in, .ref o_into, .int o_next, .int x38, .int o_repeated, .int o_pfd, .int o_pfx, .int o_opcode, .int o_form])), (o_into, .inr (0, [.int o_into_op, .int o_into_size, .int o_into_cond, .long o_into_number, .ref o_into_kinds, .ref o_into_regs, .ref o_into_memory])), (o_into_kinds, .inl (cI, 3, .inl x39)), (o_into_regs, .inl (cI, 3, .inl x40))] H → va_D A [(o, .inr (3, [.ref o_in, .ref o_into, .int o_next, .int x38, .int o_repeated, .int o_pfd, .int o_pfx, .int o_opcode, .int o_form])), (o_into, .inr (0, [.int o_into_op, .int o_into_size, .int o_into_cond, .long o_into_number, .ref o_into_kinds, .ref o_into_regs, .ref o_into_memory])), (o_into_kinds, .inl (cI, 3, .inl x39)), (o_into_regs, .inl (cI, 3, .inl x40))] → va_S A s.heap H locs → W p l e (qr 3 68) s m args below meth c H locs 0 0 Z (F0 m 142 ls []) := by
    intro x38 x39 x40 ls H locs E hl hP hD hS
    rw [f_X3_readOperand_J41] at E
    cases E
    rw [hZ]
    exact qw_vret hx hb hr hlk hP hD hS dX3_readOperand_142
  by_cases c1 : p0 = (1 : Int32)
  · rw [if_pos c1] at E
    refine lv_tableIn (off := (47 : Int)) (tgt := 48) hx hb dX3_readOperand_1 (by rw [c1]; decide) (by rw [c1]; decide) (by rw [c1]; rfl) (by decide) ?_
    refine lv_aload_n hx hb dX3_readOperand_48 rfl (lv_at hl 0 rfl) ?_
    refine lv_iload_n hx hb dX3_readOperand_49 rfl (lv_at hl 1 rfl) ?_
    refine lv_iload_n hx hb dX3_readOperand_50 rfl (lv_at hl 2 rfl) ?_
    refine lv_aload_n hx hb dX3_readOperand_51 rfl (lv_at hl 0 rfl) ?_
    refine lv_iconst (v := (4 : Int32)) hx hb dX3_readOperand_52 (by decide) ?_
    refine qw_callV (As := [.int (4 : Int32)]) (rest := [.int p1, .int p0, .ref o]) (ws' := [(o, .inr (3, [.ref o_in, .ref o_into, .int o_next, .int o_failed, .int o_repeated, .int o_pfd, .int o_pfx, .int o_opcode, .int o_form])), (o_into, .inr (0, [.int o_into_op, .int o_into_size, .int o_into_cond, .long o_into_number, .ref o_into_kinds, .ref o_into_regs, .ref o_into_memory])), (o_into_kinds, .inl (cI, 3, .inl o_into_kinds_f)), (o_into_regs, .inl (cI, 3, .inl o_into_regs_f))]) (st1 := [.int (f_X3_high o_pfx (4 : Int32)), .int p1, .int p0, .ref o]) ⟨hx, hb, hml, hown, hts⟩ (c_X3_high l D cI tT o o_in o_into o_next o_failed o_repeated o_pfd o_pfx o_opcode o_form (4 : Int32) (f_X3_high o_pfx (4 : Int32)) rfl) (cwV 1 hts gX3_readOperand_X3_high rfl rfl rfl (by decide +kernel) ⟨Nat.le_of_ble_eq_true rfl, Nat.le_of_ble_eq_true rfl⟩) hXg hK hP hD hS hA hXs [0] rfl rfl  rfl rfl rfl rfl rfl rfl hl.1 rfl (Nat.le_of_ble_eq_true rfl) rfl ⟨Nat.zero_le _, Nat.zero_le _⟩ dX3_readOperand_53 (fun H locs hP hD hS => ?_)
    refine lv_aload_n hx hb dX3_readOperand_56 rfl (lv_at hl 0 rfl) ?_
    refine va_get (D := D) (ci := 3) (v := .int o_form) (C := RX3) (T := TX3) (N := 9) hx hb hts hi_X3 hown hK hP 0 rfl rfl 8 (by decide) lk118 (fun _ h9 => h9) rfl dX3_readOperand_57 ?_
    refine lv_iconst (v := (3 : Int32)) hx hb dX3_readOperand_60 (by decide) ?_
    refine lv_ishr hx hb dX3_readOperand_61 ?_
    refine lv_bipush (v := (7 : Int32)) hx hb dX3_readOperand_62 (by decide) ?_
    refine lv_iand hx hb dX3_readOperand_64 ?_
    refine lv_iadd hx hb dX3_readOperand_65 ?_
    obtain ⟨y9, y10, y11, q12⟩ : ∃ y9 y10 y11, (f_X3_readRegister o_failed o_pfd o_into_size o_into_kinds_f o_into_regs_f p0 p1 ((f_X3_high o_pfx (4 : Int32)) + ((o_form >>> ((3 : Int32) &&& 31)) &&& (7 : Int32)))) = (y9, y10, y11) := ⟨_, _, _, rfl⟩
    rw [q12] at E
    dsimp only at E
    refine qw_callV (As := [.int p0, .int p1, .int ((f_X3_high o_pfx (4 : Int32)) + ((o_form >>> ((3 : Int32) &&& 31)) &&& (7 : Int32)))]) (rest := []) (ws' := [(o, .inr (3, [.ref o_in, .ref o_into, .int o_next, .int y9, .int o_repeated, .int o_pfd, .int o_pfx, .int o_opcode, .int o_form])), (o_into, .inr (0, [.int o_into_op, .int o_into_size, .int o_into_cond, .long o_into_number, .ref o_into_kinds, .ref o_into_regs, .ref o_into_memory])), (o_into_kinds, .inl (cI, 3, .inl y10)), (o_into_regs, .inl (cI, 3, .inl y11))]) (st1 := []) ⟨hx, hb, hml, hown, hts⟩ (c_X3_readRegister l D cI tT o o_in o_into o_into_kinds o_into_regs o_into_memory o_next o_failed o_repeated o_pfd o_pfx o_opcode o_form o_into_op o_into_size o_into_cond o_into_number o_into_kinds_f o_into_regs_f p0 p1 ((f_X3_high o_pfx (4 : Int32)) + ((o_form >>> ((3 : Int32) &&& 31)) &&& (7 : Int32))) y9 y10 y11 q12) (cwV 3 hts gX3_readOperand_X3_readRegister rfl rfl rfl (by decide +kernel) ⟨Nat.le_of_ble_eq_true rfl, Nat.le_of_ble_eq_true rfl⟩) hXg hK hP hD hS hA hXs [0, 1, 2, 3] rfl rfl  rfl rfl rfl rfl rfl rfl hl.1 rfl (Nat.le_of_ble_eq_true rfl) rfl ⟨Nat.zero_le _, Nat.zero_le _⟩ dX3_readOperand_66 (fun H locs hP hD hS => ?_)
    refine lv_goto (tgt := 142) hx hb dX3_readOperand_69 (by decide) ?_
    exact J41 y9 y10 y11 ls _ _ E (lv_sub hl [0, 1, 2] rfl) hP hD hS
  · rw [if_neg c1] at E
    by_cases c2 : p0 = (2 : Int32)
    · rw [if_pos c2] at E
      refine lv_tableIn (off := (93 : Int)) (tgt := 94) hx hb dX3_readOperand_1 (by rw [c2]; decide) (by rw [c2]; decide) (by rw [c2]; rfl) (by decide) ?_
      refine lv_aload_n hx hb dX3_readOperand_94 rfl (lv_at hl 0 rfl) ?_
      refine lv_iload_n hx hb dX3_readOperand_95 rfl (lv_at hl 1 rfl) ?_
      refine lv_iload_n hx hb dX3_readOperand_96 rfl (lv_at hl 2 rfl) ?_
      obtain ⟨y13, y14, y15, q16⟩ : ∃ y13 y14 y15, (f_X3_readFormOperand o_failed o_pfd o_pfx o_form o_into_size o_into_kinds_f o_into_regs_f p0 p1) = (y13, y14, y15) := ⟨_, _, _, rfl⟩
      rw [q16] at E
      dsimp only at E
      refine qw_callV (As := [.int p0, .int p1]) (rest := []) (ws' := [(o, .inr (3, [.ref o_in, .ref o_into, .int o_next, .int y13, .int o_repeated, .int o_pfd, .int o_pfx, .int o_opcode, .int o_form])), (o_into, .inr (0, [.int o_into_op, .int o_into_size, .int o_into_cond, .long o_into_number, .ref o_into_kinds, .ref o_into_regs, .ref o_into_memory])), (o_into_kinds, .inl (cI, 3, .inl y14)), (o_into_regs, .inl (cI, 3, .inl y15))]) (st1 := []) ⟨hx, hb, hml, hown, hts⟩ (c_X3_readFormOperand l D cI tT o o_in o_into o_into_kinds o_into_regs o_into_memory o_next o_failed o_repeated o_pfd o_pfx o_opcode o_form o_into_op o_into_size o_into_cond o_into_number o_into_kinds_f o_into_regs_f p0 p1 y13 y14 y15 q16) (cwV 2 hts gX3_readOperand_X3_readFormOperand rfl rfl rfl (by decide +kernel) ⟨Nat.le_of_ble_eq_true rfl, Nat.le_of_ble_eq_true rfl⟩) hXg hK hP hD hS hA hXs [0, 1, 2, 3] rfl rfl  rfl rfl rfl rfl rfl rfl hl.1 rfl (Nat.le_of_ble_eq_true rfl) rfl ⟨Nat.zero_le _, Nat.zero_le _⟩ dX3_readOperand_97 (fun H locs hP hD hS => ?_)
      refine lv_goto (tgt := 142) hx hb dX3_readOperand_100 (by decide) ?_
      exact J41 y13 y14 y15 ls _ _ E (lv_sub hl [0, 1, 2] rfl) hP hD hS
    · rw [if_neg c2] at E
      by_cases c3 : p0 = (3 : Int32)
      · rw [if_pos c3] at E
        refine lv_tableIn (off := (93 : Int)) (tgt := 94) hx hb dX3_readOperand_1 (by rw [c3]; decide) (by rw [c3]; decide) (by rw [c3]; rfl) (by decide) ?_
        refine lv_aload_n hx hb dX3_readOperand_94 rfl (lv_at hl 0 rfl) ?_
        refine lv_iload_n hx hb dX3_readOperand_95 rfl (lv_at hl 1 rfl) ?_
        refine lv_iload_n hx hb dX3_readOperand_96 rfl (lv_at hl 2 rfl) ?_
        obtain ⟨y17, y18, y19, q20⟩ : ∃ y17 y18 y19, (f_X3_readFormOperand o_failed o_pfd o_pfx o_form o_into_size o_into_kinds_f o_into_regs_f p0 p1) = (y17, y18, y19) := ⟨_, _, _, rfl⟩
        rw [q20] at E
        dsimp only at E
        refine qw_callV (As := [.int p0, .int p1]) (rest := []) (ws' := [(o, .inr (3, [.ref o_in, .ref o_into, .int o_next, .int y17, .int o_repeated, .int o_pfd, .int o_pfx, .int o_opcode, .int o_form])), (o_into, .inr (0, [.int o_into_op, .int o_into_size, .int o_into_cond, .long o_into_number, .ref o_into_kinds, .ref o_into_regs, .ref o_into_memory])), (o_into_kinds, .inl (cI, 3, .inl y18)), (o_into_regs, .inl (cI, 3, .inl y19))]) (st1 := []) ⟨hx, hb, hml, hown, hts⟩ (c_X3_readFormOperand l D cI tT o o_in o_into o_into_kinds o_into_regs o_into_memory o_next o_failed o_repeated o_pfd o_pfx o_opcode o_form o_into_op o_into_size o_into_cond o_into_number o_into_kinds_f o_into_regs_f p0 p1 y17 y18 y19 q20) (cwV 2 hts gX3_readOperand_X3_readFormOperand rfl rfl rfl (by decide +kernel) ⟨Nat.le_of_ble_eq_true rfl, Nat.le_of_ble_eq_true rfl⟩) hXg hK hP hD hS hA hXs [0, 1, 2, 3] rfl rfl  rfl rfl rfl rfl rfl rfl hl.1 rfl (Nat.le_of_ble_eq_true rfl) rfl ⟨Nat.zero_le _, Nat.zero_le _⟩ dX3_readOperand_97 (fun H locs hP hD hS => ?_)
        refine lv_goto (tgt := 142) hx hb dX3_readOperand_100 (by decide) ?_
        exact J41 y17 y18 y19 ls _ _ E (lv_sub hl [0, 1, 2] rfl) hP hD hS
      · rw [if_neg c3] at E
        by_cases c4 : p0 = (4 : Int32)
        · rw [if_pos c4] at E
          refine lv_tableIn (off := (93 : Int)) (tgt := 94) hx hb dX3_readOperand_1 (by rw [c4]; decide) (by rw [c4]; decide) (by rw [c4]; rfl) (by decide) ?_
          refine lv_aload_n hx hb dX3_readOperand_94 rfl (lv_at hl 0 rfl) ?_
          refine lv_iload_n hx hb dX3_readOperand_95 rfl (lv_at hl 1 rfl) ?_
          refine lv_iload_n hx hb dX3_readOperand_96 rfl (lv_at hl 2 rfl) ?_
          obtain ⟨y21, y22, y23, q24⟩ : ∃ y21 y22 y23, (f_X3_readFormOperand o_failed o_pfd o_pfx o_form o_into_size o_into_kinds_f o_into_regs_f p0 p1) = (y21, y22, y23) := ⟨_, _, _, rfl⟩
          rw [q24] at E
          dsimp only at E
          refine qw_callV (As := [.int p0, .int p1]) (rest := []) (ws' := [(o, .inr (3, [.ref o_in, .ref o_into, .int o_next, .int y21, .int o_repeated, .int o_pfd, .int o_pfx, .int o_opcode, .int o_form])), (o_into, .inr (0, [.int o_into_op, .int o_into_size, .int o_into_cond, .long o_into_number, .ref o_into_kinds, .ref o_into_regs, .ref o_into_memory])), (o_into_kinds, .inl (cI, 3, .inl y22)), (o_into_regs, .inl (cI, 3, .inl y23))]) (st1 := []) ⟨hx, hb, hml, hown, hts⟩ (c_X3_readFormOperand l D cI tT o o_in o_into o_into_kinds o_into_regs o_into_memory o_next o_failed o_repeated o_pfd o_pfx o_opcode o_form o_into_op o_into_size o_into_cond o_into_number o_into_kinds_f o_into_regs_f p0 p1 y21 y22 y23 q24) (cwV 2 hts gX3_readOperand_X3_readFormOperand rfl rfl rfl (by decide +kernel) ⟨Nat.le_of_ble_eq_true rfl, Nat.le_of_ble_eq_true rfl⟩) hXg hK hP hD hS hA hXs [0, 1, 2, 3] rfl rfl  rfl rfl rfl rfl rfl rfl hl.1 rfl (Nat.le_of_ble_eq_true rfl) rfl ⟨Nat.zero_le _, Nat.zero_le _⟩ dX3_readOperand_97 (fun H locs hP hD hS => ?_)
          refine lv_goto (tgt := 142) hx hb dX3_readOperand_100 (by decide) ?_
          exact J41 y21 y22 y23 ls _ _ E (lv_sub hl [0, 1, 2] rfl) hP hD hS
        · rw [if_neg c4] at E
          by_cases c5 : p0 = (5 : Int32)
          · rw [if_pos c5] at E
            refine lv_tableIn (off := (71 : Int)) (tgt := 72) hx hb dX3_readOperand_1 (by rw [c5]; decide) (by rw [c5]; decide) (by rw [c5]; rfl) (by decide) ?_
            refine lv_aload_n hx hb dX3_readOperand_72 rfl (lv_at hl 0 rfl) ?_
            refine lv_iload_n hx hb dX3_readOperand_73 rfl (lv_at hl 1 rfl) ?_
            refine lv_iload_n hx hb dX3_readOperand_74 rfl (lv_at hl 2 rfl) ?_
            refine lv_aload_n hx hb dX3_readOperand_75 rfl (lv_at hl 0 rfl) ?_
            refine lv_iconst (v := (1 : Int32)) hx hb dX3_readOperand_76 (by decide) ?_
            refine qw_callV (As := [.int (1 : Int32)]) (rest := [.int p1, .int p0, .ref o]) (ws' := [(o, .inr (3, [.ref o_in, .ref o_into, .int o_next, .int o_failed, .int o_repeated, .int o_pfd, .int o_pfx, .int o_opcode, .int o_form])), (o_into, .inr (0, [.int o_into_op, .int o_into_size, .int o_into_cond, .long o_into_number, .ref o_into_kinds, .ref o_into_regs, .ref o_into_memory])), (o_into_kinds, .inl (cI, 3, .inl o_into_kinds_f)), (o_into_regs, .inl (cI, 3, .inl o_into_regs_f))]) (st1 := [.int (f_X3_high o_pfx (1 : Int32)), .int p1, .int p0, .ref o]) ⟨hx, hb, hml, hown, hts⟩ (c_X3_high l D cI tT o o_in o_into o_next o_failed o_repeated o_pfd o_pfx o_opcode o_form (1 : Int32) (f_X3_high o_pfx (1 : Int32)) rfl) (cwV 1 hts gX3_readOperand_X3_high rfl rfl rfl (by decide +kernel) ⟨Nat.le_of_ble_eq_true rfl, Nat.le_of_ble_eq_true rfl⟩) hXg hK hP hD hS hA hXs [0] rfl rfl  rfl rfl rfl rfl rfl rfl hl.1 rfl (Nat.le_of_ble_eq_true rfl) rfl ⟨Nat.zero_le _, Nat.zero_le _⟩ dX3_readOperand_77 (fun H locs hP hD hS => ?_)
            refine lv_aload_n hx hb dX3_readOperand_80 rfl (lv_at hl 0 rfl) ?_
            refine va_get (D := D) (ci := 3) (v := .int o_opcode) (C := RX3) (T := TX3) (N := 9) hx hb hts hi_X3 hown hK hP 0 rfl rfl 7 (by decide) lk60 (fun _ h9 => h9) rfl dX3_readOperand_81 ?_
            refine lv_bipush (v := (7 : Int32)) hx hb dX3_readOperand_84 (by decide) ?_
            refine lv_iand hx hb dX3_readOperand_86 ?_
            refine lv_iadd hx hb dX3_readOperand_87 ?_
            obtain ⟨y25, y26, y27, q28⟩ : ∃ y25 y26 y27, (f_X3_readRegister o_failed o_pfd o_into_size o_into_kinds_f o_into_regs_f p0 p1 ((f_X3_high o_pfx (1 : Int32)) + (o_opcode &&& (7 : Int32)))) = (y25, y26, y27) := ⟨_, _, _, rfl⟩
            rw [q28] at E
            dsimp only at E
            refine qw_callV (As := [.int p0, .int p1, .int ((f_X3_high o_pfx (1 : Int32)) + (o_opcode &&& (7 : Int32)))]) (rest := []) (ws' := [(o, .inr (3, [.ref o_in, .ref o_into, .int o_next, .int y25, .int o_repeated, .int o_pfd, .int o_pfx, .int o_opcode, .int o_form])), (o_into, .inr (0, [.int o_into_op, .int o_into_size, .int o_into_cond, .long o_into_number, .ref o_into_kinds, .ref o_into_regs, .ref o_into_memory])), (o_into_kinds, .inl (cI, 3, .inl y26)), (o_into_regs, .inl (cI, 3, .inl y27))]) (st1 := []) ⟨hx, hb, hml, hown, hts⟩ (c_X3_readRegister l D cI tT o o_in o_into o_into_kinds o_into_regs o_into_memory o_next o_failed o_repeated o_pfd o_pfx o_opcode o_form o_into_op o_into_size o_into_cond o_into_number o_into_kinds_f o_into_regs_f p0 p1 ((f_X3_high o_pfx (1 : Int32)) + (o_opcode &&& (7 : Int32))) y25 y26 y27 q28) (cwV 3 hts gX3_readOperand_X3_readRegister rfl rfl rfl (by decide +kernel) ⟨Nat.le_of_ble_eq_true rfl, Nat.le_of_ble_eq_true rfl⟩) hXg hK hP hD hS hA hXs [0, 1, 2, 3] rfl rfl  rfl rfl rfl rfl rfl rfl hl.1 rfl (Nat.le_of_ble_eq_true rfl) rfl ⟨Nat.zero_le _, Nat.zero_le _⟩ dX3_readOperand_88 (fun H locs hP hD hS => ?_)
            refine lv_goto (tgt := 142) hx hb dX3_readOperand_91 (by decide) ?_
            exact J41 y25 y26 y27 ls _ _ E (lv_sub hl [0, 1, 2] rfl) hP hD hS
          · rw [if_neg c5] at E
            by_cases c6 : p0 = (6 : Int32)
            · rw [if_pos c6] at E
              refine lv_tableIn (off := (102 : Int)) (tgt := 103) hx hb dX3_readOperand_1 (by rw [c6]; decide) (by rw [c6]; decide) (by rw [c6]; rfl) (by decide) ?_
              refine lv_aload_n hx hb dX3_readOperand_103 rfl (lv_at hl 0 rfl) ?_
              refine va_get (D := D) (ci := 3) (v := .ref o_into) (C := RX3) (T := TX3) (N := 9) hx hb hts hi_X3 hown hK hP 0 rfl rfl 1 (by decide) lk21 (fun _ h9 => h9) rfl dX3_readOperand_104 ?_
              refine lv_iload_n hx hb dX3_readOperand_107 rfl (lv_at hl 2 rfl) ?_
              refine lv_iconst (v := (1 : Int32)) hx hb dX3_readOperand_108 (by decide) ?_
              refine lv_iconst (v := (0 : Int32)) hx hb dX3_readOperand_109 (by decide) ?_
              obtain ⟨y29, y30, q31⟩ : ∃ y29 y30, (f_X0_setOperand o_into_kinds_f o_into_regs_f p1 (1 : Int32) (0 : Int32)) = (y29, y30) := ⟨_, _, rfl⟩
              rw [q31] at E
              dsimp only at E
              refine qw_callV (As := [.int p1, .int (1 : Int32), .int (0 : Int32)]) (rest := []) (ws' := [(o, .inr (3, [.ref o_in, .ref o_into, .int o_next, .int o_failed, .int o_repeated, .int o_pfd, .int o_pfx, .int o_opcode, .int o_form])), (o_into, .inr (0, [.int o_into_op, .int o_into_size, .int o_into_cond, .long o_into_number, .ref o_into_kinds, .ref o_into_regs, .ref o_into_memory])), (o_into_kinds, .inl (cI, 3, .inl y29)), (o_into_regs, .inl (cI, 3, .inl y30))]) (st1 := []) ⟨hx, hb, hml, hown, hts⟩ (c_X0_setOperand l D cI tT o_into o_into_kinds o_into_regs o_into_memory o_into_op o_into_size o_into_cond o_into_number o_into_kinds_f o_into_regs_f p1 (1 : Int32) (0 : Int32) y29 y30 q31) (cwV 3 hts gX3_readOperand_X0_setOperand rfl rfl rfl (by decide +kernel) ⟨Nat.le_of_ble_eq_true rfl, Nat.le_of_ble_eq_true rfl⟩) hXg hK hP hD hS hA hXs [1, 2, 3] rfl rfl  rfl rfl rfl rfl rfl rfl hl.1 rfl (Nat.le_of_ble_eq_true rfl) rfl ⟨Nat.zero_le _, Nat.zero_le _⟩ dX3_readOperand_110 (fun H locs hP hD hS => ?_)
              refine lv_goto (tgt := 142) hx hb dX3_readOperand_113 (by decide) ?_
              exact J41 o_failed y29 y30 ls _ _ E (lv_sub hl [0, 1, 2] rfl) hP hD hS
            · rw [if_neg c6] at E
              by_cases c7 : p0 = (7 : Int32)
              · rw [if_pos c7] at E
                refine lv_tableIn (off := (115 : Int)) (tgt := 116) hx hb dX3_readOperand_1 (by rw [c7]; decide) (by rw [c7]; decide) (by rw [c7]; rfl) (by decide) ?_
                refine lv_aload_n hx hb dX3_readOperand_116 rfl (lv_at hl 0 rfl) ?_
                refine va_get (D := D) (ci := 3) (v := .ref o_into) (C := RX3) (T := TX3) (N := 9) hx hb hts hi_X3 hown hK hP 0 rfl rfl 1 (by decide) lk21 (fun _ h9 => h9) rfl dX3_readOperand_117 ?_
                refine lv_iload_n hx hb dX3_readOperand_120 rfl (lv_at hl 2 rfl) ?_
                refine lv_iconst (v := (1 : Int32)) hx hb dX3_readOperand_121 (by decide) ?_
                refine lv_iconst (v := (1 : Int32)) hx hb dX3_readOperand_122 (by decide) ?_
                obtain ⟨y32, y33, q34⟩ : ∃ y32 y33, (f_X0_setOperand o_into_kinds_f o_into_regs_f p1 (1 : Int32) (1 : Int32)) = (y32, y33) := ⟨_, _, rfl⟩
                rw [q34] at E
                dsimp only at E
                refine qw_callV (As := [.int p1, .int (1 : Int32), .int (1 : Int32)]) (rest := []) (ws' := [(o, .inr (3, [.ref o_in, .ref o_into, .int o_next, .int o_failed, .int o_repeated, .int o_pfd, .int o_pfx, .int o_opcode, .int o_form])), (o_into, .inr (0, [.int o_into_op, .int o_into_size, .int o_into_cond, .long o_into_number, .ref o_into_kinds, .ref o_into_regs, .ref o_into_memory])), (o_into_kinds, .inl (cI, 3, .inl y32)), (o_into_regs, .inl (cI, 3, .inl y33))]) (st1 := []) ⟨hx, hb, hml, hown, hts⟩ (c_X0_setOperand l D cI tT o_into o_into_kinds o_into_regs o_into_memory o_into_op o_into_size o_into_cond o_into_number o_into_kinds_f o_into_regs_f p1 (1 : Int32) (1 : Int32) y32 y33 q34) (cwV 3 hts gX3_readOperand_X0_setOperand rfl rfl rfl (by decide +kernel) ⟨Nat.le_of_ble_eq_true rfl, Nat.le_of_ble_eq_true rfl⟩) hXg hK hP hD hS hA hXs [1, 2, 3] rfl rfl  rfl rfl rfl rfl rfl rfl hl.1 rfl (Nat.le_of_ble_eq_true rfl) rfl ⟨Nat.zero_le _, Nat.zero_le _⟩ dX3_readOperand_123 (fun H locs hP hD hS => ?_)
                refine lv_goto (tgt := 142) hx hb dX3_readOperand_126 (by decide) ?_
                exact J41 o_failed y32 y33 ls _ _ E (lv_sub hl [0, 1, 2] rfl) hP hD hS
              · rw [if_neg c7] at E
                by_cases c8 : p0 = (8 : Int32)
                · rw [if_pos c8] at E
                  refine lv_tableIn (off := (128 : Int)) (tgt := 129) hx hb dX3_readOperand_1 (by rw [c8]; decide) (by rw [c8]; decide) (by rw [c8]; rfl) (by decide) ?_
                  refine lv_aload_n hx hb dX3_readOperand_129 rfl (lv_at hl 0 rfl) ?_
                  refine va_get (D := D) (ci := 3) (v := .ref o_into) (C := RX3) (T := TX3) (N := 9) hx hb hts hi_X3 hown hK hP 0 rfl rfl 1 (by decide) lk21 (fun _ h9 => h9) rfl dX3_readOperand_130 ?_
                  refine lv_iload_n hx hb dX3_readOperand_133 rfl (lv_at hl 2 rfl) ?_
                  refine lv_iconst (v := (3 : Int32)) hx hb dX3_readOperand_134 (by decide) ?_
                  refine lv_iconst (v := (0 : Int32)) hx hb dX3_readOperand_135 (by decide) ?_
                  obtain ⟨y35, y36, q37⟩ : ∃ y35 y36, (f_X0_setOperand o_into_kinds_f o_into_regs_f p1 (3 : Int32) (0 : Int32)) = (y35, y36) := ⟨_, _, rfl⟩
                  rw [q37] at E
                  dsimp only at E
                  refine qw_callV (As := [.int p1, .int (3 : Int32), .int (0 : Int32)]) (rest := []) (ws' := [(o, .inr (3, [.ref o_in, .ref o_into, .int o_next, .int o_failed, .int o_repeated, .int o_pfd, .int o_pfx, .int o_opcode, .int o_form])), (o_into, .inr (0, [.int o_into_op, .int o_into_size, .int o_into_cond, .long o_into_number, .ref o_into_kinds, .ref o_into_regs, .ref o_into_memory])), (o_into_kinds, .inl (cI, 3, .inl y35)), (o_into_regs, .inl (cI, 3, .inl y36))]) (st1 := []) ⟨hx, hb, hml, hown, hts⟩ (c_X0_setOperand l D cI tT o_into o_into_kinds o_into_regs o_into_memory o_into_op o_into_size o_into_cond o_into_number o_into_kinds_f o_into_regs_f p1 (3 : Int32) (0 : Int32) y35 y36 q37) (cwV 3 hts gX3_readOperand_X0_setOperand rfl rfl rfl (by decide +kernel) ⟨Nat.le_of_ble_eq_true rfl, Nat.le_of_ble_eq_true rfl⟩) hXg hK hP hD hS hA hXs [1, 2, 3] rfl rfl  rfl rfl rfl rfl rfl rfl hl.1 rfl (Nat.le_of_ble_eq_true rfl) rfl ⟨Nat.zero_le _, Nat.zero_le _⟩ dX3_readOperand_136 (fun H locs hP hD hS => ?_)
                  refine lv_goto (tgt := 142) hx hb dX3_readOperand_139 (by decide) ?_
                  exact J41 o_failed y35 y36 ls _ _ E (lv_sub hl [0, 1, 2] rfl) hP hD hS
                · rw [if_neg c8] at E
                  refine lv_tableOut (tgt := 142) hx hb dX3_readOperand_1 (by have nc1 := lv_neT c1 (a := 1) rfl; have nc2 := lv_neT c2 (a := 2) rfl; have nc3 := lv_neT c3 (a := 3) rfl; have nc4 := lv_neT c4 (a := 4) rfl; have nc5 := lv_neT c5 (a := 5) rfl; have nc6 := lv_neT c6 (a := 6) rfl; have nc7 := lv_neT c7 (a := 7) rfl; have nc8 := lv_neT c8 (a := 8) rfl; omega) (by decide) ?_
                  exact J41 o_failed o_into_kinds_f o_into_regs_f ls _ _ E (lv_sub hl [0, 1, 2] rfl) hP hD hS
def f_X3_readMemory_J30 (o_in_count : Int32) (o_in_row_f : (Nat → Int32)) (x16 : Int32) (x17 : Int32) (x18 : Int32) (x19 : Int32) (x20 : Int32) (x29 : Int32) : Int32 × Int32 × Int32 × Int32 × Int32 × Int32 := (match (f_X3_nextNumber x19 x20 o_in_count o_in_row_f x29 (1 : Int32)) with | (y31, y32, y33) => match (f_X1_become x18 x17 x16 ((y31).toInt32)) with | (y35, y36, y37, y38) => (y32, y33, y35, y36, y37, y38))
def f_X3_readMemory_J26 (o_form : Int32) (o_in_count : Int32) (o_in_row_f : (Nat → Int32)) (x16 : Int32) (x17 : Int32) (x18 : Int32) (x19 : Int32) (x20 : Int32) (x25 : Int32) : Int32 × Int32 × Int32 × Int32 × Int32 × Int32 := ((if x25 = 0 then (if (f_X3_formMod o_form) = (1 : Int32) then (f_X3_readMemory_J30 o_in_count o_in_row_f x16 x17 x18 x19 x20 (1 : Int32)) else (f_X3_readMemory_J30 o_in_count o_in_row_f x16 x17 x18 x19 x20 (0 : Int32))) else (f_X3_readMemory_J30 o_in_count o_in_row_f x16 x17 x18 x19 x20 (4 : Int32))))
def f_X3_readMemory_J21 (o_form : Int32) (o_in_count : Int32) (o_in_row_f : (Nat → Int32)) (x16 : Int32) (x17 : Int32) (x18 : Int32) (x19 : Int32) (x20 : Int32) : Int32 × Int32 × Int32 × Int32 × Int32 × Int32 := ((if (f_X3_formMod o_form) = (2 : Int32) then (f_X3_readMemory_J26 o_form o_in_count o_in_row_f x16 x17 x18 x19 x20 (1 : Int32)) else (if x18 = (-1 : Int32) then (f_X3_readMemory_J26 o_form o_in_count o_in_row_f x16 x17 x18 x19 x20 (1 : Int32)) else (if x18 = (16 : Int32) then (f_X3_readMemory_J26 o_form o_in_count o_in_row_f x16 x17 x18 x19 x20 (1 : Int32)) else (f_X3_readMemory_J26 o_form o_in_count o_in_row_f x16 x17 x18 x19 x20 (0 : Int32))))))
def f_X3_readMemory_J15 (o_form : Int32) (o_in_count : Int32) (o_in_row_f : (Nat → Int32)) (y5 : Int32) (y6 : Int32) (x9 : Int32) (x10 : Int32) (x14 : Int32) : Int32 × Int32 × Int32 × Int32 × Int32 × Int32 := (f_X3_readMemory_J21 o_form o_in_count o_in_row_f x9 x10 x14 y5 y6)
def f_X3_readMemory_J11 (o_pfx : Int32) (o_form : Int32) (o_in_count : Int32) (o_in_row_f : (Nat → Int32)) (y4 : Int32) (y5 : Int32) (y6 : Int32) (x9 : Int32) (x10 : Int32) : Int32 × Int32 × Int32 × Int32 × Int32 × Int32 := ((if (f_X3_formMod o_form) = 0 then (if (y4 &&& (7 : Int32)) = (5 : Int32) then (f_X3_readMemory_J15 o_form o_in_count o_in_row_f y5 y6 x9 x10 (-1 : Int32)) else (f_X3_readMemory_J15 o_form o_in_count o_in_row_f y5 y6 x9 x10 ((f_X3_high o_pfx (1 : Int32)) + (y4 &&& (7 : Int32))))) else (f_X3_readMemory_J15 o_form o_in_count o_in_row_f y5 y6 x9 x10 ((f_X3_high o_pfx (1 : Int32)) + (y4 &&& (7 : Int32))))))
def f_X3_readMemory (o_next : Int32) (o_failed : Int32) (o_pfx : Int32) (o_form : Int32) (o_in_count : Int32) (o_in_row_f : (Nat → Int32)) : Int32 × Int32 × Int32 × Int32 × Int32 × Int32 := ((if (o_form &&& (7 : Int32)) = (4 : Int32) then (match (f_X3_nextOctet o_next o_failed o_in_count o_in_row_f) with | (y4, y5, y6) => (if ((f_X3_high o_pfx (2 : Int32)) + ((y4 >>> ((3 : Int32) &&& 31)) &&& (7 : Int32))) = (4 : Int32) then (f_X3_readMemory_J11 o_pfx o_form o_in_count o_in_row_f y4 y5 y6 (1 : Int32) (-1 : Int32)) else (f_X3_readMemory_J11 o_pfx o_form o_in_count o_in_row_f y4 y5 y6 ((1 : Int32) <<< ((y4 >>> ((6 : Int32) &&& 31)) &&& 31)) ((f_X3_high o_pfx (2 : Int32)) + ((y4 >>> ((3 : Int32) &&& 31)) &&& (7 : Int32)))))) else (if (o_form &&& (7 : Int32)) = (5 : Int32) then (if (f_X3_formMod o_form) = 0 then (f_X3_readMemory_J21 o_form o_in_count o_in_row_f (1 : Int32) (-1 : Int32) (16 : Int32) o_next o_failed) else (f_X3_readMemory_J21 o_form o_in_count o_in_row_f (1 : Int32) (-1 : Int32) ((f_X3_high o_pfx (1 : Int32)) + (o_form &&& (7 : Int32))) o_next o_failed)) else (f_X3_readMemory_J21 o_form o_in_count o_in_row_f (1 : Int32) (-1 : Int32) ((f_X3_high o_pfx (1 : Int32)) + (o_form &&& (7 : Int32))) o_next o_failed))))
set_option maxHeartbeats 4000000 in
set_option maxRecDepth 100000 in
theorem c_X3_readMemory (l : Launch) (D : va_G) (cI : ClassId) (tT : Nat) (o : Nat) (o_in : Nat) (o_into : Nat) (o_in_row : Nat) (o_into_kinds : Nat) (o_into_regs : Nat) (o_into_memory : Nat) (o_next : Int32) (o_failed : Int32) (o_repeated : Int32) (o_pfd : Int32) (o_pfx : Int32) (o_opcode : Int32) (o_form : Int32) (o_in_count : Int32) (o_in_row_f : (Nat → Int32)) (o_into_op : Int32) (o_into_size : Int32) (o_into_cond : Int32) (o_into_number : Int64) (o_into_memory_base : Int32) (o_into_memory_index : Int32) (o_into_memory_scale : Int32) (o_into_memory_disp : Int32) (o_next_o : Int32) (o_failed_o : Int32) (o_into_memory_base_o : Int32) (o_into_memory_index_o : Int32) (o_into_memory_scale_o : Int32) (o_into_memory_disp_o : Int32) (hq : f_X3_readMemory o_next o_failed o_pfx o_form o_in_count o_in_row_f = (o_next_o, o_failed_o, o_into_memory_base_o, o_into_memory_index_o, o_into_memory_scale_o, o_into_memory_disp_o)) : qM l yX3_readMemory wsX3_readMemory (qr 3 67) (qX tT) D vwCl [(cI, .int)] [(o, .inr (3, [.ref o_in, .ref o_into, .int o_next, .int o_failed, .int o_repeated, .int o_pfd, .int o_pfx, .int o_opcode, .int o_form])), (o_in, .inr (2, [.ref o_in_row, .int o_in_count])), (o_in_row, .inl (cI, 16, .inl o_in_row_f)), (o_into, .inr (0, [.int o_into_op, .int o_into_size, .int o_into_cond, .long o_into_number, .ref o_into_kinds, .ref o_into_regs, .ref o_into_memory])), (o_into_memory, .inr (1, [.int o_into_memory_base, .int o_into_memory_index, .int o_into_memory_scale, .int o_into_memory_disp]))] [.ref o] none [(o, .inr (3, [.ref o_in, .ref o_into, .int o_next_o, .int o_failed_o, .int o_repeated, .int o_pfd, .int o_pfx, .int o_opcode, .int o_form])), (o_in, .inr (2, [.ref o_in_row, .int o_in_count])), (o_in_row, .inl (cI, 16, .inl o_in_row_f)), (o_into, .inr (0, [.int o_into_op, .int o_into_size, .int o_into_cond, .long o_into_number, .ref o_into_kinds, .ref o_into_regs, .ref o_into_memory])), (o_into_memory, .inr (1, [.int o_into_memory_base_o, .int o_into_memory_index_o, .int o_into_memory_scale_o, .int o_into_memory_disp_o]))] := by
  refine qM_of (cc := cX3_readMemory) (maxL := 8) (ret := none) (by decide) rfl (Nat.le_of_ble_eq_true rfl) ?_
  intro p e s m args below meth c A ls Z hx hb hml hr hts hown hlk hK hA hXs hP hD hS hl hZ
  have hown : s.vm.findClass RX3 = some m.cls := hown
  have hl : lv_has ls 8 [(0, .ref o)] := hl
  have hi_X0 : ∀ w ∈ wsX00, w ∈ wsX3_readMemory := by decide +kernel
  have hi_X3 : ∀ w ∈ wsX30, w ∈ wsX3_readMemory := by decide +kernel
  have lk106 := va_Nw.use (A := args) rfl (hXs.2.2 (.fieldLinkNest RX3 106 "InstructionCoder$Fields" "memory" "LInstructionCoder$Memory;" "InstructionCoder") (by decide +kernel))
  have lk118 := hts (.fieldLink RX3 118 "InstructionCoder$Reader" "form" "I") (by decide +kernel)
  have lk21 := hts (.fieldLink RX3 21 "InstructionCoder$Reader" "into" "LInstructionCoder$Fields;") (by decide +kernel)
  have hXg := qX_ok tT
  have E := hq
  rw [f_X3_readMemory] at E
  refine lv_aload_n hx hb dX3_readMemory_0 rfl (lv_at hl 0 rfl) ?_
  refine qw_callV (As := []) (rest := []) (ws' := [(o, .inr (3, [.ref o_in, .ref o_into, .int o_next, .int o_failed, .int o_repeated, .int o_pfd, .int o_pfx, .int o_opcode, .int o_form])), (o_in, .inr (2, [.ref o_in_row, .int o_in_count])), (o_in_row, .inl (cI, 16, .inl o_in_row_f)), (o_into, .inr (0, [.int o_into_op, .int o_into_size, .int o_into_cond, .long o_into_number, .ref o_into_kinds, .ref o_into_regs, .ref o_into_memory])), (o_into_memory, .inr (1, [.int o_into_memory_base, .int o_into_memory_index, .int o_into_memory_scale, .int o_into_memory_disp]))]) (st1 := [.int (f_X3_formMod o_form)]) ⟨hx, hb, hml, hown, hts⟩ (c_X3_formMod l D cI tT o o_in o_into o_next o_failed o_repeated o_pfd o_pfx o_opcode o_form (f_X3_formMod o_form) rfl) (cwV 0 hts gX3_readMemory_X3_formMod rfl rfl rfl (by decide +kernel) ⟨Nat.le_of_ble_eq_true rfl, Nat.le_of_ble_eq_true rfl⟩) hXg hK hP hD hS hA hXs [0] rfl rfl  rfl rfl rfl rfl rfl rfl hl.1 rfl (Nat.le_of_ble_eq_true rfl) rfl ⟨Nat.zero_le _, Nat.zero_le _⟩ dX3_readMemory_1 (fun H locs hP hD hS => ?_)
  refine lv_istore_n (lv' := [(1, .int (f_X3_formMod o_form)), (0, .ref o)]) hx hb dX3_readMemory_4 rfl hl (by decide) rfl (fun ls hl => ?_)
  refine lv_aload_n hx hb dX3_readMemory_5 rfl (lv_at hl 1 rfl) ?_
  refine va_get (D := D) (ci := 3) (v := .int o_form) (C := RX3) (T := TX3) (N := 9) hx hb hts hi_X3 hown hK hP 0 rfl rfl 8 (by decide) lk118 (fun _ h9 => h9) rfl dX3_readMemory_6 ?_
  refine lv_bipush (v := (7 : Int32)) hx hb dX3_readMemory_9 (by decide) ?_
  refine lv_iand hx hb dX3_readMemory_11 ?_
  refine lv_istore_n (lv' := [(2, .int (o_form &&& (7 : Int32))), (1, .int (f_X3_formMod o_form)), (0, .ref o)]) hx hb dX3_readMemory_12 rfl hl (by decide) rfl (fun ls hl => ?_)
  refine lv_aload_n hx hb dX3_readMemory_13 rfl (lv_at hl 2 rfl) ?_
  refine lv_iconst (v := (1 : Int32)) hx hb dX3_readMemory_14 (by decide) ?_
  refine qw_callV (As := [.int (1 : Int32)]) (rest := []) (ws' := [(o, .inr (3, [.ref o_in, .ref o_into, .int o_next, .int o_failed, .int o_repeated, .int o_pfd, .int o_pfx, .int o_opcode, .int o_form])), (o_in, .inr (2, [.ref o_in_row, .int o_in_count])), (o_in_row, .inl (cI, 16, .inl o_in_row_f)), (o_into, .inr (0, [.int o_into_op, .int o_into_size, .int o_into_cond, .long o_into_number, .ref o_into_kinds, .ref o_into_regs, .ref o_into_memory])), (o_into_memory, .inr (1, [.int o_into_memory_base, .int o_into_memory_index, .int o_into_memory_scale, .int o_into_memory_disp]))]) (st1 := [.int (f_X3_high o_pfx (1 : Int32))]) ⟨hx, hb, hml, hown, hts⟩ (c_X3_high l D cI tT o o_in o_into o_next o_failed o_repeated o_pfd o_pfx o_opcode o_form (1 : Int32) (f_X3_high o_pfx (1 : Int32)) rfl) (cwV 1 hts gX3_readMemory_X3_high rfl rfl rfl (by decide +kernel) ⟨Nat.le_of_ble_eq_true rfl, Nat.le_of_ble_eq_true rfl⟩) hXg hK hP hD hS hA hXs [0] rfl rfl  rfl rfl rfl rfl rfl rfl hl.1 rfl (Nat.le_of_ble_eq_true rfl) rfl ⟨Nat.zero_le _, Nat.zero_le _⟩ dX3_readMemory_15 (fun H locs hP hD hS => ?_)
  refine lv_iload_n hx hb dX3_readMemory_18 rfl (lv_at hl 0 rfl) ?_
  refine lv_iadd hx hb dX3_readMemory_19 ?_
  refine lv_istore_n (lv' := [(3, .int ((f_X3_high o_pfx (1 : Int32)) + (o_form &&& (7 : Int32)))), (2, .int (o_form &&& (7 : Int32))), (1, .int (f_X3_formMod o_form)), (0, .ref o)]) hx hb dX3_readMemory_20 rfl hl (by decide) rfl (fun ls hl => ?_)
  refine lv_iconst (v := (-1 : Int32)) hx hb dX3_readMemory_21 (by decide) ?_
  refine lv_istore (lv' := [(4, .int (-1 : Int32)), (3, .int ((f_X3_high o_pfx (1 : Int32)) + (o_form &&& (7 : Int32)))), (2, .int (o_form &&& (7 : Int32))), (1, .int (f_X3_formMod o_form)), (0, .ref o)]) hx hb dX3_readMemory_22 hl (by decide) rfl (fun ls hl => ?_)
  refine lv_iconst (v := (1 : Int32)) hx hb dX3_readMemory_24 (by decide) ?_
  refine lv_istore (lv' := [(5, .int (1 : Int32)), (4, .int (-1 : Int32)), (3, .int ((f_X3_high o_pfx (1 : Int32)) + (o_form &&& (7 : Int32)))), (2, .int (o_form &&& (7 : Int32))), (1, .int (f_X3_formMod o_form)), (0, .ref o)]) hx hb dX3_readMemory_25 hl (by decide) rfl (fun ls hl => ?_)
  refine lv_iload_n hx hb dX3_readMemory_27 rfl (lv_at hl 3 rfl) ?_
  refine lv_iconst (v := (4 : Int32)) hx hb dX3_readMemory_28 (by decide) ?_
  have J21 : ∀ (x16 : Int32) (x17 : Int32) (x18 : Int32) (x19 : Int32) (x20 : Int32) (ls : Array Slot) (H : Heap) (locs : List Loc), f_X3_readMemory_J21 o_form o_in_count o_in_row_f x16 x17 x18 x19 x20 = (o_next_o, o_failed_o, o_into_memory_base_o, o_into_memory_index_o, o_into_memory_scale_o, o_into_memory_disp_o) → lv_has ls 8 [(5, .int x16), (4, .int x17), (3, .int x18), (2, .int (o_form &&& (7 : Int32))), (1, .int (f_X3_formMod o_form)), (0, .ref o)] → va_P D vwCl [(o, .inr (3, [.ref o_in, .ref o_into, .int x19, .int x20, .int o_repeated, .int o_pfd, .int o_pfx, .int o_opcode, .int o_form])), (o_in, .inr (2, [.ref o_in_row, .int o_in_count])), (o_in_row, .inl (cI, 16, .inl o_in_row_f)), (o_into, .inr (0, [.int o_into_op, .int o_into_size, .int o_into_cond, .long o_into_number, .ref o_into_kinds, .ref o_into_regs, .ref o_into_memory])), (o_into_memory, .inr (1, [.int o_into_memory_base, .int o_into_memory_index, .int o_into_memory_scale, .int o_into_memory_disp]))] H → va_D A [(o, .inr (3, [.ref o_in, .ref o_into, .int x19, .int x20, .int o_repeated, .int o_pfd, .int o_pfx, .int o_opcode, .int o_form])), (o_in, .inr (2, [.ref o_in_row, .int o_in_count])), (o_in_row, .inl (cI, 16, .inl o_in_row_f)), (o_into, .inr (0, [.int o_into_op, .int o_into_size, .int o_into_cond, .long o_into_number, .ref o_into_kinds, .ref o_into_regs, .ref o_into_memory])), (o_into_memory, .inr (1, [.int o_into_memory_base, .int o_into_memory_index, .int o_into_memory_scale, .int o_into_memory_disp]))] → va_S A s.heap H locs → W p l e (qr 3 67) s m args below meth c H locs 0 0 Z (F0 m 116 ls []) := by
    intro x16 x17 x18 x19 x20 ls H locs E hl hP hD hS
    rw [f_X3_readMemory_J21] at E
    refine lv_iload_n hx hb dX3_readMemory_116 rfl (lv_at hl 4 rfl) ?_
    refine lv_iconst (v := (2 : Int32)) hx hb dX3_readMemory_117 (by decide) ?_
    have J26 : ∀ (x25 : Int32) (hb_x25 : x25 = 0 ∨ x25 = 1) (ls : Array Slot) (H : Heap) (locs : List Loc), f_X3_readMemory_J26 o_form o_in_count o_in_row_f x16 x17 x18 x19 x20 x25 = (o_next_o, o_failed_o, o_into_memory_base_o, o_into_memory_index_o, o_into_memory_scale_o, o_into_memory_disp_o) → lv_has ls 8 [(5, .int x16), (4, .int x17), (3, .int x18), (2, .int (o_form &&& (7 : Int32))), (1, .int (f_X3_formMod o_form)), (0, .ref o)] → va_P D vwCl [(o, .inr (3, [.ref o_in, .ref o_into, .int x19, .int x20, .int o_repeated, .int o_pfd, .int o_pfx, .int o_opcode, .int o_form])), (o_in, .inr (2, [.ref o_in_row, .int o_in_count])), (o_in_row, .inl (cI, 16, .inl o_in_row_f)), (o_into, .inr (0, [.int o_into_op, .int o_into_size, .int o_into_cond, .long o_into_number, .ref o_into_kinds, .ref o_into_regs, .ref o_into_memory])), (o_into_memory, .inr (1, [.int o_into_memory_base, .int o_into_memory_index, .int o_into_memory_scale, .int o_into_memory_disp]))] H → va_D A [(o, .inr (3, [.ref o_in, .ref o_into, .int x19, .int x20, .int o_repeated, .int o_pfd, .int o_pfx, .int o_opcode, .int o_form])), (o_in, .inr (2, [.ref o_in_row, .int o_in_count])), (o_in_row, .inl (cI, 16, .inl o_in_row_f)), (o_into, .inr (0, [.int o_into_op, .int o_into_size, .int o_into_cond, .long o_into_number, .ref o_into_kinds, .ref o_into_regs, .ref o_into_memory])), (o_into_memory, .inr (1, [.int o_into_memory_base, .int o_into_memory_index, .int o_into_memory_scale, .int o_into_memory_disp]))] → va_S A s.heap H locs → W p l e (qr 3 67) s m args below meth c H locs 0 0 Z (F0 m 137 ls [.int x25]) := by
      intro x25 hb_x25 ls H locs E hl hP hD hS
      rw [f_X3_readMemory_J26] at E
      refine lv_istore (lv' := [(6, .int x25), (5, .int x16), (4, .int x17), (3, .int x18), (2, .int (o_form &&& (7 : Int32))), (1, .int (f_X3_formMod o_form)), (0, .ref o)]) hx hb dX3_readMemory_137 hl (by decide) rfl (fun ls hl => ?_)
      refine lv_iload hx hb dX3_readMemory_139 (lv_at hl 0 rfl) ?_
      have J30 : ∀ (x29 : Int32) (ls : Array Slot) (H : Heap) (locs : List Loc), f_X3_readMemory_J30 o_in_count o_in_row_f x16 x17 x18 x19 x20 x29 = (o_next_o, o_failed_o, o_into_memory_base_o, o_into_memory_index_o, o_into_memory_scale_o, o_into_memory_disp_o) → lv_has ls 8 [(6, .int x25), (5, .int x16), (4, .int x17), (3, .int x18), (2, .int (o_form &&& (7 : Int32))), (1, .int (f_X3_formMod o_form)), (0, .ref o)] → va_P D vwCl [(o, .inr (3, [.ref o_in, .ref o_into, .int x19, .int x20, .int o_repeated, .int o_pfd, .int o_pfx, .int o_opcode, .int o_form])), (o_in, .inr (2, [.ref o_in_row, .int o_in_count])), (o_in_row, .inl (cI, 16, .inl o_in_row_f)), (o_into, .inr (0, [.int o_into_op, .int o_into_size, .int o_into_cond, .long o_into_number, .ref o_into_kinds, .ref o_into_regs, .ref o_into_memory])), (o_into_memory, .inr (1, [.int o_into_memory_base, .int o_into_memory_index, .int o_into_memory_scale, .int o_into_memory_disp]))] H → va_D A [(o, .inr (3, [.ref o_in, .ref o_into, .int x19, .int x20, .int o_repeated, .int o_pfd, .int o_pfx, .int o_opcode, .int o_form])), (o_in, .inr (2, [.ref o_in_row, .int o_in_count])), (o_in_row, .inl (cI, 16, .inl o_in_row_f)), (o_into, .inr (0, [.int o_into_op, .int o_into_size, .int o_into_cond, .long o_into_number, .ref o_into_kinds, .ref o_into_regs, .ref o_into_memory])), (o_into_memory, .inr (1, [.int o_into_memory_base, .int o_into_memory_index, .int o_into_memory_scale, .int o_into_memory_disp]))] → va_S A s.heap H locs → W p l e (qr 3 67) s m args below meth c H locs 0 0 Z (F0 m 158 ls [.int x29]) := by
        intro x29 ls H locs E hl hP hD hS
        rw [f_X3_readMemory_J30] at E
        refine lv_istore (lv' := [(7, .int x29), (6, .int x25), (5, .int x16), (4, .int x17), (3, .int x18), (2, .int (o_form &&& (7 : Int32))), (1, .int (f_X3_formMod o_form)), (0, .ref o)]) hx hb dX3_readMemory_158 hl (by decide) rfl (fun ls hl => ?_)
        refine lv_aload_n hx hb dX3_readMemory_160 rfl (lv_at hl 7 rfl) ?_
        refine va_get (D := D) (ci := 3) (v := .ref o_into) (C := RX3) (T := TX3) (N := 9) hx hb hts hi_X3 hown hK hP 0 rfl rfl 1 (by decide) lk21 (fun _ h9 => h9) rfl dX3_readMemory_161 ?_
        refine va_getN (D := D) (ci := 0) (v := .ref o_into_memory) (C := RX0) (T := TX0) (N := 7) hx hb hts hi_X0 hown hK hP 3 rfl rfl 6 (by decide) lk106 (fun _ h9 => h9) rfl dX3_readMemory_164 ?_
        refine lv_iload_n hx hb dX3_readMemory_167 rfl (lv_at hl 4 rfl) ?_
        refine lv_iload hx hb dX3_readMemory_168 (lv_at hl 3 rfl) ?_
        refine lv_iload hx hb dX3_readMemory_170 (lv_at hl 2 rfl) ?_
        refine lv_aload_n hx hb dX3_readMemory_172 rfl (lv_at hl 7 rfl) ?_
        refine lv_iload hx hb dX3_readMemory_173 (lv_at hl 0 rfl) ?_
        refine lv_iconst (v := (1 : Int32)) hx hb dX3_readMemory_175 (by decide) ?_
        obtain ⟨y31, y32, y33, q34⟩ : ∃ y31 y32 y33, (f_X3_nextNumber x19 x20 o_in_count o_in_row_f x29 (1 : Int32)) = (y31, y32, y33) := ⟨_, _, _, rfl⟩
        rw [q34] at E
        dsimp only at E
        refine qw_callV (As := [.int x29, .int (1 : Int32)]) (rest := [.int x16, .int x17, .int x18, .ref o_into_memory]) (ws' := [(o, .inr (3, [.ref o_in, .ref o_into, .int y32, .int y33, .int o_repeated, .int o_pfd, .int o_pfx, .int o_opcode, .int o_form])), (o_in, .inr (2, [.ref o_in_row, .int o_in_count])), (o_in_row, .inl (cI, 16, .inl o_in_row_f)), (o_into, .inr (0, [.int o_into_op, .int o_into_size, .int o_into_cond, .long o_into_number, .ref o_into_kinds, .ref o_into_regs, .ref o_into_memory])), (o_into_memory, .inr (1, [.int o_into_memory_base, .int o_into_memory_index, .int o_into_memory_scale, .int o_into_memory_disp]))]) (st1 := [.long y31, .int x16, .int x17, .int x18, .ref o_into_memory]) ⟨hx, hb, hml, hown, hts⟩ (c_X3_nextNumber l D cI tT o o_in o_into o_in_row x19 x20 o_repeated o_pfd o_pfx o_opcode o_form o_in_count o_in_row_f x29 (1 : Int32) y31 y32 y33 q34) (cwV 2 hts gX3_readMemory_X3_nextNumber rfl rfl rfl (by decide +kernel) ⟨Nat.le_of_ble_eq_true rfl, Nat.le_of_ble_eq_true rfl⟩) hXg hK hP hD hS hA hXs [0, 1, 2] rfl rfl  rfl rfl rfl rfl rfl rfl hl.1 rfl (Nat.le_of_ble_eq_true rfl) rfl ⟨Nat.zero_le _, Nat.zero_le _⟩ dX3_readMemory_176 (fun H locs hP hD hS => ?_)
        refine lv_l2i (v := (y31).toInt32) hx hb dX3_readMemory_179 rfl ?_
        obtain ⟨y35, y36, y37, y38, q39⟩ : ∃ y35 y36 y37 y38, (f_X1_become x18 x17 x16 ((y31).toInt32)) = (y35, y36, y37, y38) := ⟨_, _, _, _, rfl⟩
        rw [q39] at E
        dsimp only at E
        refine qw_callV (As := [.int x18, .int x17, .int x16, .int ((y31).toInt32)]) (rest := []) (ws' := [(o, .inr (3, [.ref o_in, .ref o_into, .int y32, .int y33, .int o_repeated, .int o_pfd, .int o_pfx, .int o_opcode, .int o_form])), (o_in, .inr (2, [.ref o_in_row, .int o_in_count])), (o_in_row, .inl (cI, 16, .inl o_in_row_f)), (o_into, .inr (0, [.int o_into_op, .int o_into_size, .int o_into_cond, .long o_into_number, .ref o_into_kinds, .ref o_into_regs, .ref o_into_memory])), (o_into_memory, .inr (1, [.int y35, .int y36, .int y37, .int y38]))]) (st1 := []) ⟨hx, hb, hml, hown, hts⟩ (c_X1_become l D cI tT o_into_memory o_into_memory_base o_into_memory_index o_into_memory_scale o_into_memory_disp x18 x17 x16 ((y31).toInt32) y35 y36 y37 y38 q39) (cwV 4 hts gX3_readMemory_X1_become rfl rfl rfl (by decide +kernel) ⟨Nat.le_of_ble_eq_true rfl, Nat.le_of_ble_eq_true rfl⟩) hXg hK hP hD hS hA hXs [4] rfl rfl  rfl rfl rfl rfl rfl rfl hl.1 rfl (Nat.le_of_ble_eq_true rfl) rfl ⟨Nat.zero_le _, Nat.zero_le _⟩ dX3_readMemory_180 (fun H locs hP hD hS => ?_)
        cases E
        rw [hZ]
        exact qw_vret hx hb hr hlk hP hD hS dX3_readMemory_183
      refine lv_if_eq (tgt := 148) hx hb dX3_readMemory_141 (by decide) (fun c27 => ?_) (fun c27 => ?_)
      · rw [if_pos c27] at E
        refine lv_iload_n hx hb dX3_readMemory_148 rfl (lv_at hl 5 rfl) ?_
        refine lv_iconst (v := (1 : Int32)) hx hb dX3_readMemory_149 (by decide) ?_
        refine lv_icmp_ne (tgt := 157) hx hb dX3_readMemory_150 (by decide) (fun c28 => ?_) (fun c28 => ?_)
        · rw [if_neg c28] at E
          refine lv_iconst (v := (0 : Int32)) hx hb dX3_readMemory_157 (by decide) ?_
          exact J30 (0 : Int32) ls _ _ E (lv_sub hl [0, 1, 2, 3, 4, 5, 6] rfl) hP hD hS
        · rw [if_pos c28] at E
          refine lv_iconst (v := (1 : Int32)) hx hb dX3_readMemory_153 (by decide) ?_
          refine lv_goto (tgt := 158) hx hb dX3_readMemory_154 (by decide) ?_
          exact J30 (1 : Int32) ls _ _ E (lv_sub hl [0, 1, 2, 3, 4, 5, 6] rfl) hP hD hS
      · rw [if_neg c27] at E
        refine lv_iconst (v := (4 : Int32)) hx hb dX3_readMemory_144 (by decide) ?_
        refine lv_goto (tgt := 158) hx hb dX3_readMemory_145 (by decide) ?_
        exact J30 (4 : Int32) ls _ _ E (lv_sub hl [0, 1, 2, 3, 4, 5, 6] rfl) hP hD hS
    refine lv_icmp_eq (tgt := 132) hx hb dX3_readMemory_118 (by decide) (fun c22 => ?_) (fun c22 => ?_)
    · rw [if_pos c22] at E
      refine lv_iconst (v := (1 : Int32)) hx hb dX3_readMemory_132 (by decide) ?_
      refine lv_goto (tgt := 137) hx hb dX3_readMemory_133 (by decide) ?_
      exact J26 (1 : Int32) (Or.inr rfl) ls _ _ E (lv_sub hl [0, 1, 2, 3, 4, 5] rfl) hP hD hS
    · rw [if_neg c22] at E
      refine lv_iload_n hx hb dX3_readMemory_121 rfl (lv_at hl 2 rfl) ?_
      refine lv_iconst (v := (-1 : Int32)) hx hb dX3_readMemory_122 (by decide) ?_
      refine lv_icmp_eq (tgt := 132) hx hb dX3_readMemory_123 (by decide) (fun c23 => ?_) (fun c23 => ?_)
      · rw [if_pos c23] at E
        refine lv_iconst (v := (1 : Int32)) hx hb dX3_readMemory_132 (by decide) ?_
        refine lv_goto (tgt := 137) hx hb dX3_readMemory_133 (by decide) ?_
        exact J26 (1 : Int32) (Or.inr rfl) ls _ _ E (lv_sub hl [0, 1, 2, 3, 4, 5] rfl) hP hD hS
      · rw [if_neg c23] at E
        refine lv_iload_n hx hb dX3_readMemory_126 rfl (lv_at hl 2 rfl) ?_
        refine lv_bipush (v := (16 : Int32)) hx hb dX3_readMemory_127 (by decide) ?_
        refine lv_icmp_ne (tgt := 136) hx hb dX3_readMemory_129 (by decide) (fun c24 => ?_) (fun c24 => ?_)
        · rw [if_neg c24] at E
          refine lv_iconst (v := (0 : Int32)) hx hb dX3_readMemory_136 (by decide) ?_
          exact J26 (0 : Int32) (Or.inl rfl) ls _ _ E (lv_sub hl [0, 1, 2, 3, 4, 5] rfl) hP hD hS
        · rw [if_pos c24] at E
          refine lv_iconst (v := (1 : Int32)) hx hb dX3_readMemory_132 (by decide) ?_
          refine lv_goto (tgt := 137) hx hb dX3_readMemory_133 (by decide) ?_
          exact J26 (1 : Int32) (Or.inr rfl) ls _ _ E (lv_sub hl [0, 1, 2, 3, 4, 5] rfl) hP hD hS
  refine lv_icmp_ne (tgt := 104) hx hb dX3_readMemory_29 (by decide) (fun c1 => ?_) (fun c1 => ?_)
  · rw [if_neg c1] at E
    refine lv_iload_n hx hb dX3_readMemory_104 rfl (lv_at hl 3 rfl) ?_
    refine lv_iconst (v := (5 : Int32)) hx hb dX3_readMemory_105 (by decide) ?_
    refine lv_icmp_ne (tgt := 116) hx hb dX3_readMemory_106 (by decide) (fun c2 => ?_) (fun c2 => ?_)
    · rw [if_neg c2] at E
      exact J21 (1 : Int32) (-1 : Int32) ((f_X3_high o_pfx (1 : Int32)) + (o_form &&& (7 : Int32))) o_next o_failed ls _ _ E (lv_sub hl [0, 1, 2, 3, 4, 5] rfl) hP hD hS
    · rw [if_pos c2] at E
      refine lv_iload_n hx hb dX3_readMemory_109 rfl (lv_at hl 4 rfl) ?_
      refine lv_if_ne (tgt := 116) hx hb dX3_readMemory_110 (by decide) (fun c3 => ?_) (fun c3 => ?_)
      · rw [if_neg c3] at E
        exact J21 (1 : Int32) (-1 : Int32) ((f_X3_high o_pfx (1 : Int32)) + (o_form &&& (7 : Int32))) o_next o_failed ls _ _ E (lv_sub hl [0, 1, 2, 3, 4, 5] rfl) hP hD hS
      · rw [if_pos c3] at E
        refine lv_bipush (v := (16 : Int32)) hx hb dX3_readMemory_113 (by decide) ?_
        refine lv_istore_n (lv' := [(3, .int (16 : Int32)), (5, .int (1 : Int32)), (4, .int (-1 : Int32)), (2, .int (o_form &&& (7 : Int32))), (1, .int (f_X3_formMod o_form)), (0, .ref o)]) hx hb dX3_readMemory_115 rfl hl (by decide) rfl (fun ls hl => ?_)
        exact J21 (1 : Int32) (-1 : Int32) (16 : Int32) o_next o_failed ls _ _ E (lv_sub hl [1, 2, 0, 3, 4, 5] rfl) hP hD hS
  · rw [if_pos c1] at E
    refine lv_aload_n hx hb dX3_readMemory_32 rfl (lv_at hl 5 rfl) ?_
    obtain ⟨y4, y5, y6, q7⟩ : ∃ y4 y5 y6, (f_X3_nextOctet o_next o_failed o_in_count o_in_row_f) = (y4, y5, y6) := ⟨_, _, _, rfl⟩
    rw [q7] at E
    dsimp only at E
    refine qw_callV (As := []) (rest := []) (ws' := [(o, .inr (3, [.ref o_in, .ref o_into, .int y5, .int y6, .int o_repeated, .int o_pfd, .int o_pfx, .int o_opcode, .int o_form])), (o_in, .inr (2, [.ref o_in_row, .int o_in_count])), (o_in_row, .inl (cI, 16, .inl o_in_row_f)), (o_into, .inr (0, [.int o_into_op, .int o_into_size, .int o_into_cond, .long o_into_number, .ref o_into_kinds, .ref o_into_regs, .ref o_into_memory])), (o_into_memory, .inr (1, [.int o_into_memory_base, .int o_into_memory_index, .int o_into_memory_scale, .int o_into_memory_disp]))]) (st1 := [.int y4]) ⟨hx, hb, hml, hown, hts⟩ (c_X3_nextOctet l D cI tT o o_in o_into o_in_row o_next o_failed o_repeated o_pfd o_pfx o_opcode o_form o_in_count o_in_row_f y4 y5 y6 q7) (cwV 0 hts gX3_readMemory_X3_nextOctet rfl rfl rfl (by decide +kernel) ⟨Nat.le_of_ble_eq_true rfl, Nat.le_of_ble_eq_true rfl⟩) hXg hK hP hD hS hA hXs [0, 1, 2] rfl rfl  rfl rfl rfl rfl rfl rfl hl.1 rfl (Nat.le_of_ble_eq_true rfl) rfl ⟨Nat.zero_le _, Nat.zero_le _⟩ dX3_readMemory_33 (fun H locs hP hD hS => ?_)
    refine lv_istore (lv' := [(6, .int y4), (5, .int (1 : Int32)), (4, .int (-1 : Int32)), (3, .int ((f_X3_high o_pfx (1 : Int32)) + (o_form &&& (7 : Int32)))), (2, .int (o_form &&& (7 : Int32))), (1, .int (f_X3_formMod o_form)), (0, .ref o)]) hx hb dX3_readMemory_36 hl (by decide) rfl (fun ls hl => ?_)
    refine lv_aload_n hx hb dX3_readMemory_38 rfl (lv_at hl 6 rfl) ?_
    refine lv_iconst (v := (2 : Int32)) hx hb dX3_readMemory_39 (by decide) ?_
    refine qw_callV (As := [.int (2 : Int32)]) (rest := []) (ws' := [(o, .inr (3, [.ref o_in, .ref o_into, .int y5, .int y6, .int o_repeated, .int o_pfd, .int o_pfx, .int o_opcode, .int o_form])), (o_in, .inr (2, [.ref o_in_row, .int o_in_count])), (o_in_row, .inl (cI, 16, .inl o_in_row_f)), (o_into, .inr (0, [.int o_into_op, .int o_into_size, .int o_into_cond, .long o_into_number, .ref o_into_kinds, .ref o_into_regs, .ref o_into_memory])), (o_into_memory, .inr (1, [.int o_into_memory_base, .int o_into_memory_index, .int o_into_memory_scale, .int o_into_memory_disp]))]) (st1 := [.int (f_X3_high o_pfx (2 : Int32))]) ⟨hx, hb, hml, hown, hts⟩ (c_X3_high l D cI tT o o_in o_into y5 y6 o_repeated o_pfd o_pfx o_opcode o_form (2 : Int32) (f_X3_high o_pfx (2 : Int32)) rfl) (cwV 1 hts gX3_readMemory_X3_high rfl rfl rfl (by decide +kernel) ⟨Nat.le_of_ble_eq_true rfl, Nat.le_of_ble_eq_true rfl⟩) hXg hK hP hD hS hA hXs [0] rfl rfl  rfl rfl rfl rfl rfl rfl hl.1 rfl (Nat.le_of_ble_eq_true rfl) rfl ⟨Nat.zero_le _, Nat.zero_le _⟩ dX3_readMemory_40 (fun H locs hP hD hS => ?_)
    refine lv_iload hx hb dX3_readMemory_43 (lv_at hl 0 rfl) ?_
    refine lv_iconst (v := (3 : Int32)) hx hb dX3_readMemory_45 (by decide) ?_
    refine lv_ishr hx hb dX3_readMemory_46 ?_
    refine lv_bipush (v := (7 : Int32)) hx hb dX3_readMemory_47 (by decide) ?_
    refine lv_iand hx hb dX3_readMemory_49 ?_
    refine lv_iadd hx hb dX3_readMemory_50 ?_
    refine lv_istore (lv' := [(7, .int ((f_X3_high o_pfx (2 : Int32)) + ((y4 >>> ((3 : Int32) &&& 31)) &&& (7 : Int32)))), (6, .int y4), (5, .int (1 : Int32)), (4, .int (-1 : Int32)), (3, .int ((f_X3_high o_pfx (1 : Int32)) + (o_form &&& (7 : Int32)))), (2, .int (o_form &&& (7 : Int32))), (1, .int (f_X3_formMod o_form)), (0, .ref o)]) hx hb dX3_readMemory_51 hl (by decide) rfl (fun ls hl => ?_)
    refine lv_iload hx hb dX3_readMemory_53 (lv_at hl 0 rfl) ?_
    refine lv_iconst (v := (4 : Int32)) hx hb dX3_readMemory_55 (by decide) ?_
    have J11 : ∀ (x9 : Int32) (x10 : Int32) (ls : Array Slot) (H : Heap) (locs : List Loc), f_X3_readMemory_J11 o_pfx o_form o_in_count o_in_row_f y4 y5 y6 x9 x10 = (o_next_o, o_failed_o, o_into_memory_base_o, o_into_memory_index_o, o_into_memory_scale_o, o_into_memory_disp_o) → lv_has ls 8 [(7, .int ((f_X3_high o_pfx (2 : Int32)) + ((y4 >>> ((3 : Int32) &&& 31)) &&& (7 : Int32)))), (6, .int y4), (5, .int x9), (4, .int x10), (3, .int ((f_X3_high o_pfx (1 : Int32)) + (o_form &&& (7 : Int32)))), (2, .int (o_form &&& (7 : Int32))), (1, .int (f_X3_formMod o_form)), (0, .ref o)] → va_P D vwCl [(o, .inr (3, [.ref o_in, .ref o_into, .int y5, .int y6, .int o_repeated, .int o_pfd, .int o_pfx, .int o_opcode, .int o_form])), (o_in, .inr (2, [.ref o_in_row, .int o_in_count])), (o_in_row, .inl (cI, 16, .inl o_in_row_f)), (o_into, .inr (0, [.int o_into_op, .int o_into_size, .int o_into_cond, .long o_into_number, .ref o_into_kinds, .ref o_into_regs, .ref o_into_memory])), (o_into_memory, .inr (1, [.int o_into_memory_base, .int o_into_memory_index, .int o_into_memory_scale, .int o_into_memory_disp]))] H → va_D A [(o, .inr (3, [.ref o_in, .ref o_into, .int y5, .int y6, .int o_repeated, .int o_pfd, .int o_pfx, .int o_opcode, .int o_form])), (o_in, .inr (2, [.ref o_in_row, .int o_in_count])), (o_in_row, .inl (cI, 16, .inl o_in_row_f)), (o_into, .inr (0, [.int o_into_op, .int o_into_size, .int o_into_cond, .long o_into_number, .ref o_into_kinds, .ref o_into_regs, .ref o_into_memory])), (o_into_memory, .inr (1, [.int o_into_memory_base, .int o_into_memory_index, .int o_into_memory_scale, .int o_into_memory_disp]))] → va_S A s.heap H locs → W p l e (qr 3 67) s m args below meth c H locs 0 0 Z (F0 m 72 ls []) := by
      intro x9 x10 ls H locs E hl hP hD hS
      rw [f_X3_readMemory_J11] at E
      refine lv_iload_n hx hb dX3_readMemory_72 rfl (lv_at hl 6 rfl) ?_
      have J15 : ∀ (x14 : Int32) (ls : Array Slot) (H : Heap) (locs : List Loc), f_X3_readMemory_J15 o_form o_in_count o_in_row_f y5 y6 x9 x10 x14 = (o_next_o, o_failed_o, o_into_memory_base_o, o_into_memory_index_o, o_into_memory_scale_o, o_into_memory_disp_o) → lv_has ls 8 [(7, .int ((f_X3_high o_pfx (2 : Int32)) + ((y4 >>> ((3 : Int32) &&& 31)) &&& (7 : Int32)))), (6, .int y4), (5, .int x9), (4, .int x10), (3, .int ((f_X3_high o_pfx (1 : Int32)) + (o_form &&& (7 : Int32)))), (2, .int (o_form &&& (7 : Int32))), (1, .int (f_X3_formMod o_form)), (0, .ref o)] → va_P D vwCl [(o, .inr (3, [.ref o_in, .ref o_into, .int y5, .int y6, .int o_repeated, .int o_pfd, .int o_pfx, .int o_opcode, .int o_form])), (o_in, .inr (2, [.ref o_in_row, .int o_in_count])), (o_in_row, .inl (cI, 16, .inl o_in_row_f)), (o_into, .inr (0, [.int o_into_op, .int o_into_size, .int o_into_cond, .long o_into_number, .ref o_into_kinds, .ref o_into_regs, .ref o_into_memory])), (o_into_memory, .inr (1, [.int o_into_memory_base, .int o_into_memory_index, .int o_into_memory_scale, .int o_into_memory_disp]))] H → va_D A [(o, .inr (3, [.ref o_in, .ref o_into, .int y5, .int y6, .int o_repeated, .int o_pfd, .int o_pfx, .int o_opcode, .int o_form])), (o_in, .inr (2, [.ref o_in_row, .int o_in_count])), (o_in_row, .inl (cI, 16, .inl o_in_row_f)), (o_into, .inr (0, [.int o_into_op, .int o_into_size, .int o_into_cond, .long o_into_number, .ref o_into_kinds, .ref o_into_regs, .ref o_into_memory])), (o_into_memory, .inr (1, [.int o_into_memory_base, .int o_into_memory_index, .int o_into_memory_scale, .int o_into_memory_disp]))] → va_S A s.heap H locs → W p l e (qr 3 67) s m args below meth c H locs 0 0 Z (F0 m 100 ls [.int x14]) := by
        intro x14 ls H locs E hl hP hD hS
        rw [f_X3_readMemory_J15] at E
        refine lv_istore_n (lv' := [(3, .int x14), (7, .int ((f_X3_high o_pfx (2 : Int32)) + ((y4 >>> ((3 : Int32) &&& 31)) &&& (7 : Int32)))), (6, .int y4), (5, .int x9), (4, .int x10), (2, .int (o_form &&& (7 : Int32))), (1, .int (f_X3_formMod o_form)), (0, .ref o)]) hx hb dX3_readMemory_100 rfl hl (by decide) rfl (fun ls hl => ?_)
        refine lv_goto (tgt := 116) hx hb dX3_readMemory_101 (by decide) ?_
        exact J21 x9 x10 x14 y5 y6 ls _ _ E (lv_sub hl [3, 4, 0, 5, 6, 7] rfl) hP hD hS
      refine lv_if_ne (tgt := 89) hx hb dX3_readMemory_73 (by decide) (fun c12 => ?_) (fun c12 => ?_)
      · rw [if_neg c12] at E
        refine lv_aload_n hx hb dX3_readMemory_89 rfl (lv_at hl 7 rfl) ?_
        refine lv_iconst (v := (1 : Int32)) hx hb dX3_readMemory_90 (by decide) ?_
        refine qw_callV (As := [.int (1 : Int32)]) (rest := []) (ws' := [(o, .inr (3, [.ref o_in, .ref o_into, .int y5, .int y6, .int o_repeated, .int o_pfd, .int o_pfx, .int o_opcode, .int o_form])), (o_in, .inr (2, [.ref o_in_row, .int o_in_count])), (o_in_row, .inl (cI, 16, .inl o_in_row_f)), (o_into, .inr (0, [.int o_into_op, .int o_into_size, .int o_into_cond, .long o_into_number, .ref o_into_kinds, .ref o_into_regs, .ref o_into_memory])), (o_into_memory, .inr (1, [.int o_into_memory_base, .int o_into_memory_index, .int o_into_memory_scale, .int o_into_memory_disp]))]) (st1 := [.int (f_X3_high o_pfx (1 : Int32))]) ⟨hx, hb, hml, hown, hts⟩ (c_X3_high l D cI tT o o_in o_into y5 y6 o_repeated o_pfd o_pfx o_opcode o_form (1 : Int32) (f_X3_high o_pfx (1 : Int32)) rfl) (cwV 1 hts gX3_readMemory_X3_high rfl rfl rfl (by decide +kernel) ⟨Nat.le_of_ble_eq_true rfl, Nat.le_of_ble_eq_true rfl⟩) hXg hK hP hD hS hA hXs [0] rfl rfl  rfl rfl rfl rfl rfl rfl hl.1 rfl (Nat.le_of_ble_eq_true rfl) rfl ⟨Nat.zero_le _, Nat.zero_le _⟩ dX3_readMemory_91 (fun H locs hP hD hS => ?_)
        refine lv_iload hx hb dX3_readMemory_94 (lv_at hl 1 rfl) ?_
        refine lv_bipush (v := (7 : Int32)) hx hb dX3_readMemory_96 (by decide) ?_
        refine lv_iand hx hb dX3_readMemory_98 ?_
        refine lv_iadd hx hb dX3_readMemory_99 ?_
        exact J15 ((f_X3_high o_pfx (1 : Int32)) + (y4 &&& (7 : Int32))) ls _ _ E (lv_sub hl [0, 1, 2, 3, 4, 5, 6, 7] rfl) hP hD hS
      · rw [if_pos c12] at E
        refine lv_iload hx hb dX3_readMemory_76 (lv_at hl 1 rfl) ?_
        refine lv_bipush (v := (7 : Int32)) hx hb dX3_readMemory_78 (by decide) ?_
        refine lv_iand hx hb dX3_readMemory_80 ?_
        refine lv_iconst (v := (5 : Int32)) hx hb dX3_readMemory_81 (by decide) ?_
        refine lv_icmp_ne (tgt := 89) hx hb dX3_readMemory_82 (by decide) (fun c13 => ?_) (fun c13 => ?_)
        · rw [if_neg c13] at E
          refine lv_aload_n hx hb dX3_readMemory_89 rfl (lv_at hl 7 rfl) ?_
          refine lv_iconst (v := (1 : Int32)) hx hb dX3_readMemory_90 (by decide) ?_
          refine qw_callV (As := [.int (1 : Int32)]) (rest := []) (ws' := [(o, .inr (3, [.ref o_in, .ref o_into, .int y5, .int y6, .int o_repeated, .int o_pfd, .int o_pfx, .int o_opcode, .int o_form])), (o_in, .inr (2, [.ref o_in_row, .int o_in_count])), (o_in_row, .inl (cI, 16, .inl o_in_row_f)), (o_into, .inr (0, [.int o_into_op, .int o_into_size, .int o_into_cond, .long o_into_number, .ref o_into_kinds, .ref o_into_regs, .ref o_into_memory])), (o_into_memory, .inr (1, [.int o_into_memory_base, .int o_into_memory_index, .int o_into_memory_scale, .int o_into_memory_disp]))]) (st1 := [.int (f_X3_high o_pfx (1 : Int32))]) ⟨hx, hb, hml, hown, hts⟩ (c_X3_high l D cI tT o o_in o_into y5 y6 o_repeated o_pfd o_pfx o_opcode o_form (1 : Int32) (f_X3_high o_pfx (1 : Int32)) rfl) (cwV 1 hts gX3_readMemory_X3_high rfl rfl rfl (by decide +kernel) ⟨Nat.le_of_ble_eq_true rfl, Nat.le_of_ble_eq_true rfl⟩) hXg hK hP hD hS hA hXs [0] rfl rfl  rfl rfl rfl rfl rfl rfl hl.1 rfl (Nat.le_of_ble_eq_true rfl) rfl ⟨Nat.zero_le _, Nat.zero_le _⟩ dX3_readMemory_91 (fun H locs hP hD hS => ?_)
          refine lv_iload hx hb dX3_readMemory_94 (lv_at hl 1 rfl) ?_
          refine lv_bipush (v := (7 : Int32)) hx hb dX3_readMemory_96 (by decide) ?_
          refine lv_iand hx hb dX3_readMemory_98 ?_
          refine lv_iadd hx hb dX3_readMemory_99 ?_
          exact J15 ((f_X3_high o_pfx (1 : Int32)) + (y4 &&& (7 : Int32))) ls _ _ E (lv_sub hl [0, 1, 2, 3, 4, 5, 6, 7] rfl) hP hD hS
        · rw [if_pos c13] at E
          refine lv_iconst (v := (-1 : Int32)) hx hb dX3_readMemory_85 (by decide) ?_
          refine lv_goto (tgt := 100) hx hb dX3_readMemory_86 (by decide) ?_
          exact J15 (-1 : Int32) ls _ _ E (lv_sub hl [0, 1, 2, 3, 4, 5, 6, 7] rfl) hP hD hS
    refine lv_icmp_eq (tgt := 72) hx hb dX3_readMemory_56 (by decide) (fun c8 => ?_) (fun c8 => ?_)
    · rw [if_pos c8] at E
      exact J11 (1 : Int32) (-1 : Int32) ls _ _ E (lv_sub hl [0, 1, 2, 3, 4, 5, 6, 7] rfl) hP hD hS
    · rw [if_neg c8] at E
      refine lv_iload hx hb dX3_readMemory_59 (lv_at hl 0 rfl) ?_
      refine lv_istore (lv' := [(4, .int ((f_X3_high o_pfx (2 : Int32)) + ((y4 >>> ((3 : Int32) &&& 31)) &&& (7 : Int32)))), (7, .int ((f_X3_high o_pfx (2 : Int32)) + ((y4 >>> ((3 : Int32) &&& 31)) &&& (7 : Int32)))), (6, .int y4), (5, .int (1 : Int32)), (3, .int ((f_X3_high o_pfx (1 : Int32)) + (o_form &&& (7 : Int32)))), (2, .int (o_form &&& (7 : Int32))), (1, .int (f_X3_formMod o_form)), (0, .ref o)]) hx hb dX3_readMemory_61 hl (by decide) rfl (fun ls hl => ?_)
      refine lv_iconst (v := (1 : Int32)) hx hb dX3_readMemory_63 (by decide) ?_
      refine lv_iload hx hb dX3_readMemory_64 (lv_at hl 2 rfl) ?_
      refine lv_bipush (v := (6 : Int32)) hx hb dX3_readMemory_66 (by decide) ?_
      refine lv_ishr hx hb dX3_readMemory_68 ?_
      refine lv_ishl hx hb dX3_readMemory_69 ?_
      refine lv_istore (lv' := [(5, .int ((1 : Int32) <<< ((y4 >>> ((6 : Int32) &&& 31)) &&& 31))), (4, .int ((f_X3_high o_pfx (2 : Int32)) + ((y4 >>> ((3 : Int32) &&& 31)) &&& (7 : Int32)))), (7, .int ((f_X3_high o_pfx (2 : Int32)) + ((y4 >>> ((3 : Int32) &&& 31)) &&& (7 : Int32)))), (6, .int y4), (3, .int ((f_X3_high o_pfx (1 : Int32)) + (o_form &&& (7 : Int32)))), (2, .int (o_form &&& (7 : Int32))), (1, .int (f_X3_formMod o_form)), (0, .ref o)]) hx hb dX3_readMemory_70 hl (by decide) rfl (fun ls hl => ?_)
      exact J11 ((1 : Int32) <<< ((y4 >>> ((6 : Int32) &&& 31)) &&& 31)) ((f_X3_high o_pfx (2 : Int32)) + ((y4 >>> ((3 : Int32) &&& 31)) &&& (7 : Int32))) ls _ _ E (lv_sub hl [2, 3, 0, 1, 4, 5, 6, 7] rfl) hP hD hS
def f_X3_readLine_J35 (o_pfd : Int32) (o_pfx : Int32) (o_opcode : Int32) (o_in_count : Int32) (o_in_row_f : (Nat → Int32)) (p0 : Int32) (y4 : Int32) (y5 : Int32) (y6 : Int32) (y7 : (Nat → Int32)) (y8 : (Nat → Int32)) (x28 : Int32) (x29 : Int32) (x30 : Int32) (x31 : Int32) (x32 : Int32) (x33 : Int32) (x34 : Int32) : Int32 × Int32 × Int32 × Int32 × Int32 × Int32 × Int64 × (Nat → Int32) × (Nat → Int32) × Int32 × Int32 × Int32 × Int32 := (match (f_X3_readOperand x29 o_pfd o_pfx o_opcode x30 y5 y7 y8 (f_X4_roleOf p0 (0 : Int32)) (0 : Int32)) with | (y36, y37, y38) => match (f_X3_readOperand y36 o_pfd o_pfx o_opcode x30 y5 y37 y38 (f_X4_roleOf p0 (1 : Int32)) (1 : Int32)) with | (y40, y41, y42) => match (f_X3_readOperand y40 o_pfd o_pfx o_opcode x30 y5 y41 y42 (f_X4_roleOf p0 (2 : Int32)) (2 : Int32)) with | (y44, y45, y46) => match (f_X3_readNumber x28 y44 o_in_count o_in_row_f (f_X4_numberOf p0 y5)) with | (y48, y49, y50) => (y48, y49, x30, y4, y5, y6, y50, y45, y46, x31, x32, x33, x34))
def f_X3_readLine_J3 (o_next : Int32) (o_failed : Int32) (o_pfd : Int32) (o_pfx : Int32) (o_opcode : Int32) (o_form : Int32) (o_in_count : Int32) (o_in_row_f : (Nat → Int32)) (o_into_kinds_f : (Nat → Int32)) (o_into_regs_f : (Nat → Int32)) (p0 : Int32) (x2 : Int32) : Int32 × Int32 × Int32 × Int32 × Int32 × Int32 × Int64 × (Nat → Int32) × (Nat → Int32) × Int32 × Int32 × Int32 × Int32 := (match (f_X0_begin o_into_kinds_f o_into_regs_f (f_X4_opOf p0) (f_X4_sizeTold p0 (o_opcode - (f_X4_opcodeOf p0)) (f_X3_hasBit o_pfx (8 : Int32))) x2) with | (y4, y5, y6, y7, y8) => match f_X1_becomeNone with | (y10, y11, y12, y13) => (if (f_X4_hasForm p0) = 0 then (f_X3_readLine_J35 o_pfd o_pfx o_opcode o_in_count o_in_row_f p0 y4 y5 y6 y7 y8 o_next o_failed o_form y10 y11 y12 y13) else (match (f_X3_nextOctet o_next o_failed o_in_count o_in_row_f) with | (y16, y17, y18) => if (f_X3_formMod y16) = (3 : Int32) then (f_X3_readLine_J35 o_pfd o_pfx o_opcode o_in_count o_in_row_f p0 y4 y5 y6 y7 y8 y17 y18 y16 y10 y11 y12 y13) else (match (f_X3_readMemory y17 y18 o_pfx y16 o_in_count o_in_row_f) with | (y21, y22, y23, y24, y25, y26) => f_X3_readLine_J35 o_pfd o_pfx o_opcode o_in_count o_in_row_f p0 y4 y5 y6 y7 y8 y21 y22 y16 y23 y24 y25 y26))))
def f_X3_readLine (o_next : Int32) (o_failed : Int32) (o_pfd : Int32) (o_pfx : Int32) (o_opcode : Int32) (o_form : Int32) (o_in_count : Int32) (o_in_row_f : (Nat → Int32)) (o_into_kinds_f : (Nat → Int32)) (o_into_regs_f : (Nat → Int32)) (p0 : Int32) : Int32 × Int32 × Int32 × Int32 × Int32 × Int32 × Int64 × (Nat → Int32) × (Nat → Int32) × Int32 × Int32 × Int32 × Int32 := ((if (f_X4_hasCondition p0) = 0 then (f_X3_readLine_J3 o_next o_failed o_pfd o_pfx o_opcode o_form o_in_count o_in_row_f o_into_kinds_f o_into_regs_f p0 (0 : Int32)) else (f_X3_readLine_J3 o_next o_failed o_pfd o_pfx o_opcode o_form o_in_count o_in_row_f o_into_kinds_f o_into_regs_f p0 (o_opcode - (f_X4_opcodeOf p0)))))
set_option maxHeartbeats 4000000 in
set_option maxRecDepth 100000 in
theorem c_X3_readLine (l : Launch) (D : va_G) (cI : ClassId) (tT : Nat) (o : Nat) (o_in : Nat) (o_into : Nat) (o_in_row : Nat) (o_into_kinds : Nat) (o_into_regs : Nat) (o_into_memory : Nat) (o_next : Int32) (o_failed : Int32) (o_repeated : Int32) (o_pfd : Int32) (o_pfx : Int32) (o_opcode : Int32) (o_form : Int32) (o_in_count : Int32) (o_in_row_f : (Nat → Int32)) (o_into_op : Int32) (o_into_size : Int32) (o_into_cond : Int32) (o_into_number : Int64) (o_into_kinds_f : (Nat → Int32)) (o_into_regs_f : (Nat → Int32)) (o_into_memory_base : Int32) (o_into_memory_index : Int32) (o_into_memory_scale : Int32) (o_into_memory_disp : Int32) (p0 : Int32) (o_next_o : Int32) (o_failed_o : Int32) (o_form_o : Int32) (o_into_op_o : Int32) (o_into_size_o : Int32) (o_into_cond_o : Int32) (o_into_number_o : Int64) (o_into_kinds_f_o : (Nat → Int32)) (o_into_regs_f_o : (Nat → Int32)) (o_into_memory_base_o : Int32) (o_into_memory_index_o : Int32) (o_into_memory_scale_o : Int32) (o_into_memory_disp_o : Int32) (hq : f_X3_readLine o_next o_failed o_pfd o_pfx o_opcode o_form o_in_count o_in_row_f o_into_kinds_f o_into_regs_f p0 = (o_next_o, o_failed_o, o_form_o, o_into_op_o, o_into_size_o, o_into_cond_o, o_into_number_o, o_into_kinds_f_o, o_into_regs_f_o, o_into_memory_base_o, o_into_memory_index_o, o_into_memory_scale_o, o_into_memory_disp_o)) : qM l yX3_readLine wsX3_readLine (qr 4 94) (qX tT) D vwCl [(cI, .int)] [(o, .inr (3, [.ref o_in, .ref o_into, .int o_next, .int o_failed, .int o_repeated, .int o_pfd, .int o_pfx, .int o_opcode, .int o_form])), (o_in, .inr (2, [.ref o_in_row, .int o_in_count])), (o_in_row, .inl (cI, 16, .inl o_in_row_f)), (o_into, .inr (0, [.int o_into_op, .int o_into_size, .int o_into_cond, .long o_into_number, .ref o_into_kinds, .ref o_into_regs, .ref o_into_memory])), (o_into_kinds, .inl (cI, 3, .inl o_into_kinds_f)), (o_into_regs, .inl (cI, 3, .inl o_into_regs_f)), (o_into_memory, .inr (1, [.int o_into_memory_base, .int o_into_memory_index, .int o_into_memory_scale, .int o_into_memory_disp]))] [.ref o, .int p0] none [(o, .inr (3, [.ref o_in, .ref o_into, .int o_next_o, .int o_failed_o, .int o_repeated, .int o_pfd, .int o_pfx, .int o_opcode, .int o_form_o])), (o_in, .inr (2, [.ref o_in_row, .int o_in_count])), (o_in_row, .inl (cI, 16, .inl o_in_row_f)), (o_into, .inr (0, [.int o_into_op_o, .int o_into_size_o, .int o_into_cond_o, .long o_into_number_o, .ref o_into_kinds, .ref o_into_regs, .ref o_into_memory])), (o_into_kinds, .inl (cI, 3, .inl o_into_kinds_f_o)), (o_into_regs, .inl (cI, 3, .inl o_into_regs_f_o)), (o_into_memory, .inr (1, [.int o_into_memory_base_o, .int o_into_memory_index_o, .int o_into_memory_scale_o, .int o_into_memory_disp_o]))] := by
  refine qM_of (cc := cX3_readLine) (maxL := 4) (ret := none) (by decide) rfl (Nat.le_of_ble_eq_true rfl) ?_
  intro p e s m args below meth c A ls Z hx hb hml hr hts hown hlk hK hA hXs hP hD hS hl hZ
  have hown : s.vm.findClass RX3 = some m.cls := hown
  have hl : lv_has ls 4 [(0, .ref o), (1, .int p0)] := hl
  have hi_X0 : ∀ w ∈ wsX00, w ∈ wsX3_readLine := by decide +kernel
  have hi_X3 : ∀ w ∈ wsX30, w ∈ wsX3_readLine := by decide +kernel
  have lk106 := va_Nw.use (A := args) rfl (hXs.2.2 (.fieldLinkNest RX3 106 "InstructionCoder$Fields" "memory" "LInstructionCoder$Memory;" "InstructionCoder") (by decide +kernel))
  have lk118 := hts (.fieldLink RX3 118 "InstructionCoder$Reader" "form" "I") (by decide +kernel)
  have lk135 := va_Nw.use (A := args) rfl (hXs.2.2 (.fieldLinkNest RX3 135 "InstructionCoder$Fields" "size" "I" "InstructionCoder") (by decide +kernel))
  have lk21 := hts (.fieldLink RX3 21 "InstructionCoder$Reader" "into" "LInstructionCoder$Fields;") (by decide +kernel)
  have lk60 := hts (.fieldLink RX3 60 "InstructionCoder$Reader" "opcode" "I") (by decide +kernel)
  have hXg := qX_ok tT
  have E := hq
  rw [f_X3_readLine] at E
  refine lv_aload_n hx hb dX3_readLine_0 rfl (lv_at hl 0 rfl) ?_
  refine va_get (D := D) (ci := 3) (v := .int o_opcode) (C := RX3) (T := TX3) (N := 9) hx hb hts hi_X3 hown hK hP 0 rfl rfl 7 (by decide) lk60 (fun _ h9 => h9) rfl dX3_readLine_1 ?_
  refine lv_iload_n hx hb dX3_readLine_4 rfl (lv_at hl 1 rfl) ?_
  refine qw_callS (As := [.int p0]) (rest := [.int o_opcode]) (ws' := [(o, .inr (3, [.ref o_in, .ref o_into, .int o_next, .int o_failed, .int o_repeated, .int o_pfd, .int o_pfx, .int o_opcode, .int o_form])), (o_in, .inr (2, [.ref o_in_row, .int o_in_count])), (o_in_row, .inl (cI, 16, .inl o_in_row_f)), (o_into, .inr (0, [.int o_into_op, .int o_into_size, .int o_into_cond, .long o_into_number, .ref o_into_kinds, .ref o_into_regs, .ref o_into_memory])), (o_into_kinds, .inl (cI, 3, .inl o_into_kinds_f)), (o_into_regs, .inl (cI, 3, .inl o_into_regs_f)), (o_into_memory, .inr (1, [.int o_into_memory_base, .int o_into_memory_index, .int o_into_memory_scale, .int o_into_memory_disp]))]) (st1 := [.int (f_X4_opcodeOf p0), .int o_opcode]) ⟨hx, hb, hml, hown, hts⟩ (c_X4_opcodeOf l D cI tT p0 (f_X4_opcodeOf p0) rfl) (va_cwS 1 hts gX3_readLine_X4_opcodeOf rfl rfl rfl (by decide +kernel) ⟨Nat.le_of_ble_eq_true rfl, Nat.le_of_ble_eq_true rfl⟩) hXg hK hP hD hS hA hXs [] rfl rfl  rfl rfl rfl hl.1 rfl (Nat.le_of_ble_eq_true rfl) rfl ⟨Nat.zero_le _, Nat.zero_le _⟩ dX3_readLine_5 (fun H locs hP hD hS => ?_)
  refine lv_isub hx hb dX3_readLine_8 ?_
  refine lv_istore_n (lv' := [(2, .int (o_opcode - (f_X4_opcodeOf p0))), (0, .ref o), (1, .int p0)]) hx hb dX3_readLine_9 rfl hl (by decide) rfl (fun ls hl => ?_)
  refine lv_aload_n hx hb dX3_readLine_10 rfl (lv_at hl 1 rfl) ?_
  refine va_get (D := D) (ci := 3) (v := .ref o_into) (C := RX3) (T := TX3) (N := 9) hx hb hts hi_X3 hown hK hP 0 rfl rfl 1 (by decide) lk21 (fun _ h9 => h9) rfl dX3_readLine_11 ?_
  refine lv_iload_n hx hb dX3_readLine_14 rfl (lv_at hl 2 rfl) ?_
  refine qw_callS (As := [.int p0]) (rest := [.ref o_into]) (ws' := [(o, .inr (3, [.ref o_in, .ref o_into, .int o_next, .int o_failed, .int o_repeated, .int o_pfd, .int o_pfx, .int o_opcode, .int o_form])), (o_in, .inr (2, [.ref o_in_row, .int o_in_count])), (o_in_row, .inl (cI, 16, .inl o_in_row_f)), (o_into, .inr (0, [.int o_into_op, .int o_into_size, .int o_into_cond, .long o_into_number, .ref o_into_kinds, .ref o_into_regs, .ref o_into_memory])), (o_into_kinds, .inl (cI, 3, .inl o_into_kinds_f)), (o_into_regs, .inl (cI, 3, .inl o_into_regs_f)), (o_into_memory, .inr (1, [.int o_into_memory_base, .int o_into_memory_index, .int o_into_memory_scale, .int o_into_memory_disp]))]) (st1 := [.int (f_X4_opOf p0), .ref o_into]) ⟨hx, hb, hml, hown, hts⟩ (c_X4_opOf l D cI tT p0 (f_X4_opOf p0) rfl) (va_cwS 1 hts gX3_readLine_X4_opOf rfl rfl rfl (by decide +kernel) ⟨Nat.le_of_ble_eq_true rfl, Nat.le_of_ble_eq_true rfl⟩) hXg hK hP hD hS hA hXs [] rfl rfl  rfl rfl rfl hl.1 rfl (Nat.le_of_ble_eq_true rfl) rfl ⟨Nat.zero_le _, Nat.zero_le _⟩ dX3_readLine_15 (fun H locs hP hD hS => ?_)
  refine lv_iload_n hx hb dX3_readLine_18 rfl (lv_at hl 2 rfl) ?_
  refine lv_iload_n hx hb dX3_readLine_19 rfl (lv_at hl 0 rfl) ?_
  refine lv_aload_n hx hb dX3_readLine_20 rfl (lv_at hl 1 rfl) ?_
  refine lv_bipush (v := (8 : Int32)) hx hb dX3_readLine_21 (by decide) ?_
  refine qw_callV (As := [.int (8 : Int32)]) (rest := [.int (o_opcode - (f_X4_opcodeOf p0)), .int p0, .int (f_X4_opOf p0), .ref o_into]) (ws' := [(o, .inr (3, [.ref o_in, .ref o_into, .int o_next, .int o_failed, .int o_repeated, .int o_pfd, .int o_pfx, .int o_opcode, .int o_form])), (o_in, .inr (2, [.ref o_in_row, .int o_in_count])), (o_in_row, .inl (cI, 16, .inl o_in_row_f)), (o_into, .inr (0, [.int o_into_op, .int o_into_size, .int o_into_cond, .long o_into_number, .ref o_into_kinds, .ref o_into_regs, .ref o_into_memory])), (o_into_kinds, .inl (cI, 3, .inl o_into_kinds_f)), (o_into_regs, .inl (cI, 3, .inl o_into_regs_f)), (o_into_memory, .inr (1, [.int o_into_memory_base, .int o_into_memory_index, .int o_into_memory_scale, .int o_into_memory_disp]))]) (st1 := [.int (f_X3_hasBit o_pfx (8 : Int32)), .int (o_opcode - (f_X4_opcodeOf p0)), .int p0, .int (f_X4_opOf p0), .ref o_into]) ⟨hx, hb, hml, hown, hts⟩ (c_X3_hasBit l D cI tT o o_in o_into o_next o_failed o_repeated o_pfd o_pfx o_opcode o_form (8 : Int32) (f_X3_hasBit o_pfx (8 : Int32)) rfl) (cwV 1 hts gX3_readLine_X3_hasBit rfl rfl rfl (by decide +kernel) ⟨Nat.le_of_ble_eq_true rfl, Nat.le_of_ble_eq_true rfl⟩) hXg hK hP hD hS hA hXs [0] rfl rfl  rfl rfl rfl rfl rfl rfl hl.1 rfl (Nat.le_of_ble_eq_true rfl) rfl ⟨Nat.zero_le _, Nat.zero_le _⟩ dX3_readLine_23 (fun H locs hP hD hS => ?_)
  refine qw_callS (As := [.int p0, .int (o_opcode - (f_X4_opcodeOf p0)), .int (f_X3_hasBit o_pfx (8 : Int32))]) (rest := [.int (f_X4_opOf p0), .ref o_into]) (ws' := [(o, .inr (3, [.ref o_in, .ref o_into, .int o_next, .int o_failed, .int o_repeated, .int o_pfd, .int o_pfx, .int o_opcode, .int o_form])), (o_in, .inr (2, [.ref o_in_row, .int o_in_count])), (o_in_row, .inl (cI, 16, .inl o_in_row_f)), (o_into, .inr (0, [.int o_into_op, .int o_into_size, .int o_into_cond, .long o_into_number, .ref o_into_kinds, .ref o_into_regs, .ref o_into_memory])), (o_into_kinds, .inl (cI, 3, .inl o_into_kinds_f)), (o_into_regs, .inl (cI, 3, .inl o_into_regs_f)), (o_into_memory, .inr (1, [.int o_into_memory_base, .int o_into_memory_index, .int o_into_memory_scale, .int o_into_memory_disp]))]) (st1 := [.int (f_X4_sizeTold p0 (o_opcode - (f_X4_opcodeOf p0)) (f_X3_hasBit o_pfx (8 : Int32))), .int (f_X4_opOf p0), .ref o_into]) ⟨hx, hb, hml, hown, hts⟩ (c_X4_sizeTold l D cI tT p0 (o_opcode - (f_X4_opcodeOf p0)) (f_X3_hasBit o_pfx (8 : Int32)) (f_X4_sizeTold p0 (o_opcode - (f_X4_opcodeOf p0)) (f_X3_hasBit o_pfx (8 : Int32))) rfl) (va_cwS 3 hts gX3_readLine_X4_sizeTold rfl rfl rfl (by decide +kernel) ⟨Nat.le_of_ble_eq_true rfl, Nat.le_of_ble_eq_true rfl⟩) hXg hK hP hD hS hA hXs [] rfl rfl  rfl rfl rfl hl.1 rfl (Nat.le_of_ble_eq_true rfl) rfl ⟨Nat.zero_le _, Nat.zero_le _⟩ dX3_readLine_26 (fun H locs hP hD hS => ?_)
  refine lv_iload_n hx hb dX3_readLine_29 rfl (lv_at hl 2 rfl) ?_
  refine qw_callS (As := [.int p0]) (rest := [.int (f_X4_sizeTold p0 (o_opcode - (f_X4_opcodeOf p0)) (f_X3_hasBit o_pfx (8 : Int32))), .int (f_X4_opOf p0), .ref o_into]) (ws' := [(o, .inr (3, [.ref o_in, .ref o_into, .int o_next, .int o_failed, .int o_repeated, .int o_pfd, .int o_pfx, .int o_opcode, .int o_form])), (o_in, .inr (2, [.ref o_in_row, .int o_in_count])), (o_in_row, .inl (cI, 16, .inl o_in_row_f)), (o_into, .inr (0, [.int o_into_op, .int o_into_size, .int o_into_cond, .long o_into_number, .ref o_into_kinds, .ref o_into_regs, .ref o_into_memory])), (o_into_kinds, .inl (cI, 3, .inl o_into_kinds_f)), (o_into_regs, .inl (cI, 3, .inl o_into_regs_f)), (o_into_memory, .inr (1, [.int o_into_memory_base, .int o_into_memory_index, .int o_into_memory_scale, .int o_into_memory_disp]))]) (st1 := [.int (f_X4_hasCondition p0), .int (f_X4_sizeTold p0 (o_opcode - (f_X4_opcodeOf p0)) (f_X3_hasBit o_pfx (8 : Int32))), .int (f_X4_opOf p0), .ref o_into]) ⟨hx, hb, hml, hown, hts⟩ (c_X4_hasCondition l D cI tT p0 (f_X4_hasCondition p0) rfl) (va_cwS 1 hts gX3_readLine_X4_hasCondition rfl rfl rfl (by decide +kernel) ⟨Nat.le_of_ble_eq_true rfl, Nat.le_of_ble_eq_true rfl⟩) hXg hK hP hD hS hA hXs [] rfl rfl  rfl rfl rfl hl.1 rfl (Nat.le_of_ble_eq_true rfl) rfl ⟨Nat.zero_le _, Nat.zero_le _⟩ dX3_readLine_30 (fun H locs hP hD hS => ?_)
  have J3 : ∀ (x2 : Int32) (ls : Array Slot) (H : Heap) (locs : List Loc), f_X3_readLine_J3 o_next o_failed o_pfd o_pfx o_opcode o_form o_in_count o_in_row_f o_into_kinds_f o_into_regs_f p0 x2 = (o_next_o, o_failed_o, o_form_o, o_into_op_o, o_into_size_o, o_into_cond_o, o_into_number_o, o_into_kinds_f_o, o_into_regs_f_o, o_into_memory_base_o, o_into_memory_index_o, o_into_memory_scale_o, o_into_memory_disp_o) → lv_has ls 4 [(2, .int (o_opcode - (f_X4_opcodeOf p0))), (0, .ref o), (1, .int p0)] → va_P D vwCl [(o, .inr (3, [.ref o_in, .ref o_into, .int o_next, .int o_failed, .int o_repeated, .int o_pfd, .int o_pfx, .int o_opcode, .int o_form])), (o_in, .inr (2, [.ref o_in_row, .int o_in_count])), (o_in_row, .inl (cI, 16, .inl o_in_row_f)), (o_into, .inr (0, [.int o_into_op, .int o_into_size, .int o_into_cond, .long o_into_number, .ref o_into_kinds, .ref o_into_regs, .ref o_into_memory])), (o_into_kinds, .inl (cI, 3, .inl o_into_kinds_f)), (o_into_regs, .inl (cI, 3, .inl o_into_regs_f)), (o_into_memory, .inr (1, [.int o_into_memory_base, .int o_into_memory_index, .int o_into_memory_scale, .int o_into_memory_disp]))] H → va_D A [(o, .inr (3, [.ref o_in, .ref o_into, .int o_next, .int o_failed, .int o_repeated, .int o_pfd, .int o_pfx, .int o_opcode, .int o_form])), (o_in, .inr (2, [.ref o_in_row, .int o_in_count])), (o_in_row, .inl (cI, 16, .inl o_in_row_f)), (o_into, .inr (0, [.int o_into_op, .int o_into_size, .int o_into_cond, .long o_into_number, .ref o_into_kinds, .ref o_into_regs, .ref o_into_memory])), (o_into_kinds, .inl (cI, 3, .inl o_into_kinds_f)), (o_into_regs, .inl (cI, 3, .inl o_into_regs_f)), (o_into_memory, .inr (1, [.int o_into_memory_base, .int o_into_memory_index, .int o_into_memory_scale, .int o_into_memory_disp]))] → va_S A s.heap H locs → W p l e (qr 4 94) s m args below meth c H locs 0 0 Z (F0 m 41 ls [.int x2, .int (f_X4_sizeTold p0 (o_opcode - (f_X4_opcodeOf p0)) (f_X3_hasBit o_pfx (8 : Int32))), .int (f_X4_opOf p0), .ref o_into]) := by
    intro x2 ls H locs E hl hP hD hS
    rw [f_X3_readLine_J3] at E
    obtain ⟨y4, y5, y6, y7, y8, q9⟩ : ∃ y4 y5 y6 y7 y8, (f_X0_begin o_into_kinds_f o_into_regs_f (f_X4_opOf p0) (f_X4_sizeTold p0 (o_opcode - (f_X4_opcodeOf p0)) (f_X3_hasBit o_pfx (8 : Int32))) x2) = (y4, y5, y6, y7, y8) := ⟨_, _, _, _, _, rfl⟩
    rw [q9] at E
    dsimp only at E
    refine qw_callV (As := [.int (f_X4_opOf p0), .int (f_X4_sizeTold p0 (o_opcode - (f_X4_opcodeOf p0)) (f_X3_hasBit o_pfx (8 : Int32))), .int x2]) (rest := []) (ws' := [(o, .inr (3, [.ref o_in, .ref o_into, .int o_next, .int o_failed, .int o_repeated, .int o_pfd, .int o_pfx, .int o_opcode, .int o_form])), (o_in, .inr (2, [.ref o_in_row, .int o_in_count])), (o_in_row, .inl (cI, 16, .inl o_in_row_f)), (o_into, .inr (0, [.int y4, .int y5, .int y6, .long o_into_number, .ref o_into_kinds, .ref o_into_regs, .ref o_into_memory])), (o_into_kinds, .inl (cI, 3, .inl y7)), (o_into_regs, .inl (cI, 3, .inl y8)), (o_into_memory, .inr (1, [.int o_into_memory_base, .int o_into_memory_index, .int o_into_memory_scale, .int o_into_memory_disp]))]) (st1 := []) ⟨hx, hb, hml, hown, hts⟩ (c_X0_begin l D cI tT o_into o_into_kinds o_into_regs o_into_memory o_into_op o_into_size o_into_cond o_into_number o_into_kinds_f o_into_regs_f (f_X4_opOf p0) (f_X4_sizeTold p0 (o_opcode - (f_X4_opcodeOf p0)) (f_X3_hasBit o_pfx (8 : Int32))) x2 y4 y5 y6 y7 y8 q9) (cwV 3 hts gX3_readLine_X0_begin rfl rfl rfl (by decide +kernel) ⟨Nat.le_of_ble_eq_true rfl, Nat.le_of_ble_eq_true rfl⟩) hXg hK hP hD hS hA hXs [3, 4, 5] rfl rfl  rfl rfl rfl rfl rfl rfl hl.1 rfl (Nat.le_of_ble_eq_true rfl) rfl ⟨Nat.zero_le _, Nat.zero_le _⟩ dX3_readLine_41 (fun H locs hP hD hS => ?_)
    refine lv_aload_n hx hb dX3_readLine_44 rfl (lv_at hl 1 rfl) ?_
    refine va_get (D := D) (ci := 3) (v := .ref o_into) (C := RX3) (T := TX3) (N := 9) hx hb hts hi_X3 hown hK hP 0 rfl rfl 1 (by decide) lk21 (fun _ h9 => h9) rfl dX3_readLine_45 ?_
    refine va_getN (D := D) (ci := 0) (v := .ref o_into_memory) (C := RX0) (T := TX0) (N := 7) hx hb hts hi_X0 hown hK hP 3 rfl rfl 6 (by decide) lk106 (fun _ h9 => h9) rfl dX3_readLine_48 ?_
    obtain ⟨y10, y11, y12, y13, q14⟩ : ∃ y10 y11 y12 y13, f_X1_becomeNone = (y10, y11, y12, y13) := ⟨_, _, _, _, rfl⟩
    rw [q14] at E
    dsimp only at E
    refine qw_callV (As := []) (rest := []) (ws' := [(o, .inr (3, [.ref o_in, .ref o_into, .int o_next, .int o_failed, .int o_repeated, .int o_pfd, .int o_pfx, .int o_opcode, .int o_form])), (o_in, .inr (2, [.ref o_in_row, .int o_in_count])), (o_in_row, .inl (cI, 16, .inl o_in_row_f)), (o_into, .inr (0, [.int y4, .int y5, .int y6, .long o_into_number, .ref o_into_kinds, .ref o_into_regs, .ref o_into_memory])), (o_into_kinds, .inl (cI, 3, .inl y7)), (o_into_regs, .inl (cI, 3, .inl y8)), (o_into_memory, .inr (1, [.int y10, .int y11, .int y12, .int y13]))]) (st1 := []) ⟨hx, hb, hml, hown, hts⟩ (c_X1_becomeNone l D cI tT o_into_memory o_into_memory_base o_into_memory_index o_into_memory_scale o_into_memory_disp y10 y11 y12 y13 q14) (cwV 0 hts gX3_readLine_X1_becomeNone rfl rfl rfl (by decide +kernel) ⟨Nat.le_of_ble_eq_true rfl, Nat.le_of_ble_eq_true rfl⟩) hXg hK hP hD hS hA hXs [6] rfl rfl  rfl rfl rfl rfl rfl rfl hl.1 rfl (Nat.le_of_ble_eq_true rfl) rfl ⟨Nat.zero_le _, Nat.zero_le _⟩ dX3_readLine_51 (fun H locs hP hD hS => ?_)
    refine lv_iload_n hx hb dX3_readLine_54 rfl (lv_at hl 2 rfl) ?_
    refine qw_callS (As := [.int p0]) (rest := []) (ws' := [(o, .inr (3, [.ref o_in, .ref o_into, .int o_next, .int o_failed, .int o_repeated, .int o_pfd, .int o_pfx, .int o_opcode, .int o_form])), (o_in, .inr (2, [.ref o_in_row, .int o_in_count])), (o_in_row, .inl (cI, 16, .inl o_in_row_f)), (o_into, .inr (0, [.int y4, .int y5, .int y6, .long o_into_number, .ref o_into_kinds, .ref o_into_regs, .ref o_into_memory])), (o_into_kinds, .inl (cI, 3, .inl y7)), (o_into_regs, .inl (cI, 3, .inl y8)), (o_into_memory, .inr (1, [.int y10, .int y11, .int y12, .int y13]))]) (st1 := [.int (f_X4_hasForm p0)]) ⟨hx, hb, hml, hown, hts⟩ (c_X4_hasForm l D cI tT p0 (f_X4_hasForm p0) rfl) (va_cwS 1 hts gX3_readLine_X4_hasForm rfl rfl rfl (by decide +kernel) ⟨Nat.le_of_ble_eq_true rfl, Nat.le_of_ble_eq_true rfl⟩) hXg hK hP hD hS hA hXs [] rfl rfl  rfl rfl rfl hl.1 rfl (Nat.le_of_ble_eq_true rfl) rfl ⟨Nat.zero_le _, Nat.zero_le _⟩ dX3_readLine_55 (fun H locs hP hD hS => ?_)
    have J35 : ∀ (x28 : Int32) (x29 : Int32) (x30 : Int32) (x31 : Int32) (x32 : Int32) (x33 : Int32) (x34 : Int32) (ls : Array Slot) (H : Heap) (locs : List Loc), f_X3_readLine_J35 o_pfd o_pfx o_opcode o_in_count o_in_row_f p0 y4 y5 y6 y7 y8 x28 x29 x30 x31 x32 x33 x34 = (o_next_o, o_failed_o, o_form_o, o_into_op_o, o_into_size_o, o_into_cond_o, o_into_number_o, o_into_kinds_f_o, o_into_regs_f_o, o_into_memory_base_o, o_into_memory_index_o, o_into_memory_scale_o, o_into_memory_disp_o) → lv_has ls 4 [(2, .int (o_opcode - (f_X4_opcodeOf p0))), (0, .ref o), (1, .int p0)] → va_P D vwCl [(o, .inr (3, [.ref o_in, .ref o_into, .int x28, .int x29, .int o_repeated, .int o_pfd, .int o_pfx, .int o_opcode, .int x30])), (o_in, .inr (2, [.ref o_in_row, .int o_in_count])), (o_in_row, .inl (cI, 16, .inl o_in_row_f)), (o_into, .inr (0, [.int y4, .int y5, .int y6, .long o_into_number, .ref o_into_kinds, .ref o_into_regs, .ref o_into_memory])), (o_into_kinds, .inl (cI, 3, .inl y7)), (o_into_regs, .inl (cI, 3, .inl y8)), (o_into_memory, .inr (1, [.int x31, .int x32, .int x33, .int x34]))] H → va_D A [(o, .inr (3, [.ref o_in, .ref o_into, .int x28, .int x29, .int o_repeated, .int o_pfd, .int o_pfx, .int o_opcode, .int x30])), (o_in, .inr (2, [.ref o_in_row, .int o_in_count])), (o_in_row, .inl (cI, 16, .inl o_in_row_f)), (o_into, .inr (0, [.int y4, .int y5, .int y6, .long o_into_number, .ref o_into_kinds, .ref o_into_regs, .ref o_into_memory])), (o_into_kinds, .inl (cI, 3, .inl y7)), (o_into_regs, .inl (cI, 3, .inl y8)), (o_into_memory, .inr (1, [.int x31, .int x32, .int x33, .int x34]))] → va_S A s.heap H locs → W p l e (qr 4 94) s m args below meth c H locs 0 0 Z (F0 m 81 ls []) := by
      intro x28 x29 x30 x31 x32 x33 x34 ls H locs E hl hP hD hS
      rw [f_X3_readLine_J35] at E
      refine lv_iconst (v := (0 : Int32)) hx hb dX3_readLine_81 (by decide) ?_
      refine lv_istore_n (lv' := [(3, .int (0 : Int32)), (2, .int (o_opcode - (f_X4_opcodeOf p0))), (0, .ref o), (1, .int p0)]) hx hb dX3_readLine_82 rfl hl (by decide) rfl (fun ls hl => ?_)
      refine lv_iload_n hx hb dX3_readLine_83 rfl (lv_at hl 0 rfl) ?_
      refine lv_iconst (v := (3 : Int32)) hx hb dX3_readLine_84 (by decide) ?_
      refine lv_icmp_ge (tgt := 104) hx hb dX3_readLine_85 (by decide) (fun c9 => absurd c9 (by decide)) (fun _ => ?_)
      refine lv_aload_n hx hb dX3_readLine_88 rfl (lv_at hl 2 rfl) ?_
      refine lv_iload_n hx hb dX3_readLine_89 rfl (lv_at hl 3 rfl) ?_
      refine lv_iload_n hx hb dX3_readLine_90 rfl (lv_at hl 0 rfl) ?_
      refine qw_callS (As := [.int p0, .int (0 : Int32)]) (rest := [.ref o]) (ws' := [(o, .inr (3, [.ref o_in, .ref o_into, .int x28, .int x29, .int o_repeated, .int o_pfd, .int o_pfx, .int o_opcode, .int x30])), (o_in, .inr (2, [.ref o_in_row, .int o_in_count])), (o_in_row, .inl (cI, 16, .inl o_in_row_f)), (o_into, .inr (0, [.int y4, .int y5, .int y6, .long o_into_number, .ref o_into_kinds, .ref o_into_regs, .ref o_into_memory])), (o_into_kinds, .inl (cI, 3, .inl y7)), (o_into_regs, .inl (cI, 3, .inl y8)), (o_into_memory, .inr (1, [.int x31, .int x32, .int x33, .int x34]))]) (st1 := [.int (f_X4_roleOf p0 (0 : Int32)), .ref o]) ⟨hx, hb, hml, hown, hts⟩ (c_X4_roleOf l D cI tT p0 (0 : Int32) (f_X4_roleOf p0 (0 : Int32)) rfl) (va_cwS 2 hts gX3_readLine_X4_roleOf rfl rfl rfl (by decide +kernel) ⟨Nat.le_of_ble_eq_true rfl, Nat.le_of_ble_eq_true rfl⟩) hXg hK hP hD hS hA hXs [] rfl rfl  rfl rfl rfl hl.1 rfl (Nat.le_of_ble_eq_true rfl) rfl ⟨Nat.zero_le _, Nat.zero_le _⟩ dX3_readLine_91 (fun H locs hP hD hS => ?_)
      refine lv_iload_n hx hb dX3_readLine_94 rfl (lv_at hl 0 rfl) ?_
      obtain ⟨y36, y37, y38, q39⟩ : ∃ y36 y37 y38, (f_X3_readOperand x29 o_pfd o_pfx o_opcode x30 y5 y7 y8 (f_X4_roleOf p0 (0 : Int32)) (0 : Int32)) = (y36, y37, y38) := ⟨_, _, _, rfl⟩
      rw [q39] at E
      dsimp only at E
      refine qw_callV (As := [.int (f_X4_roleOf p0 (0 : Int32)), .int (0 : Int32)]) (rest := []) (ws' := [(o, .inr (3, [.ref o_in, .ref o_into, .int x28, .int y36, .int o_repeated, .int o_pfd, .int o_pfx, .int o_opcode, .int x30])), (o_in, .inr (2, [.ref o_in_row, .int o_in_count])), (o_in_row, .inl (cI, 16, .inl o_in_row_f)), (o_into, .inr (0, [.int y4, .int y5, .int y6, .long o_into_number, .ref o_into_kinds, .ref o_into_regs, .ref o_into_memory])), (o_into_kinds, .inl (cI, 3, .inl y37)), (o_into_regs, .inl (cI, 3, .inl y38)), (o_into_memory, .inr (1, [.int x31, .int x32, .int x33, .int x34]))]) (st1 := []) ⟨hx, hb, hml, hown, hts⟩ (c_X3_readOperand l D cI tT o o_in o_into o_into_kinds o_into_regs o_into_memory x28 x29 o_repeated o_pfd o_pfx o_opcode x30 y4 y5 y6 o_into_number y7 y8 (f_X4_roleOf p0 (0 : Int32)) (0 : Int32) y36 y37 y38 q39) (cwV 2 hts gX3_readLine_X3_readOperand rfl rfl rfl (by decide +kernel) ⟨Nat.le_of_ble_eq_true rfl, Nat.le_of_ble_eq_true rfl⟩) hXg hK hP hD hS hA hXs [0, 3, 4, 5] rfl rfl  rfl rfl rfl rfl rfl rfl hl.1 rfl (Nat.le_of_ble_eq_true rfl) rfl ⟨Nat.zero_le _, Nat.zero_le _⟩ dX3_readLine_95 (fun H locs hP hD hS => ?_)
      refine lv_iinc (v := (1 : Int32)) (lv' := [(3, .int (1 : Int32)), (2, .int (o_opcode - (f_X4_opcodeOf p0))), (0, .ref o), (1, .int p0)]) hx hb dX3_readLine_98 hl (k := 0) rfl (by first | rfl | decide) (by decide) rfl (fun ls hl => ?_)
      refine lv_goto (tgt := 83) hx hb dX3_readLine_101 (by decide) ?_
      refine lv_iload_n hx hb dX3_readLine_83 rfl (lv_at hl 0 rfl) ?_
      refine lv_iconst (v := (3 : Int32)) hx hb dX3_readLine_84 (by decide) ?_
      refine lv_icmp_ge (tgt := 104) hx hb dX3_readLine_85 (by decide) (fun c9 => absurd c9 (by decide)) (fun _ => ?_)
      refine lv_aload_n hx hb dX3_readLine_88 rfl (lv_at hl 2 rfl) ?_
      refine lv_iload_n hx hb dX3_readLine_89 rfl (lv_at hl 3 rfl) ?_
      refine lv_iload_n hx hb dX3_readLine_90 rfl (lv_at hl 0 rfl) ?_
      refine qw_callS (As := [.int p0, .int (1 : Int32)]) (rest := [.ref o]) (ws' := [(o, .inr (3, [.ref o_in, .ref o_into, .int x28, .int y36, .int o_repeated, .int o_pfd, .int o_pfx, .int o_opcode, .int x30])), (o_in, .inr (2, [.ref o_in_row, .int o_in_count])), (o_in_row, .inl (cI, 16, .inl o_in_row_f)), (o_into, .inr (0, [.int y4, .int y5, .int y6, .long o_into_number, .ref o_into_kinds, .ref o_into_regs, .ref o_into_memory])), (o_into_kinds, .inl (cI, 3, .inl y37)), (o_into_regs, .inl (cI, 3, .inl y38)), (o_into_memory, .inr (1, [.int x31, .int x32, .int x33, .int x34]))]) (st1 := [.int (f_X4_roleOf p0 (1 : Int32)), .ref o]) ⟨hx, hb, hml, hown, hts⟩ (c_X4_roleOf l D cI tT p0 (1 : Int32) (f_X4_roleOf p0 (1 : Int32)) rfl) (va_cwS 2 hts gX3_readLine_X4_roleOf rfl rfl rfl (by decide +kernel) ⟨Nat.le_of_ble_eq_true rfl, Nat.le_of_ble_eq_true rfl⟩) hXg hK hP hD hS hA hXs [] rfl rfl  rfl rfl rfl hl.1 rfl (Nat.le_of_ble_eq_true rfl) rfl ⟨Nat.zero_le _, Nat.zero_le _⟩ dX3_readLine_91 (fun H locs hP hD hS => ?_)
      refine lv_iload_n hx hb dX3_readLine_94 rfl (lv_at hl 0 rfl) ?_
      obtain ⟨y40, y41, y42, q43⟩ : ∃ y40 y41 y42, (f_X3_readOperand y36 o_pfd o_pfx o_opcode x30 y5 y37 y38 (f_X4_roleOf p0 (1 : Int32)) (1 : Int32)) = (y40, y41, y42) := ⟨_, _, _, rfl⟩
      rw [q43] at E
      dsimp only at E
      refine qw_callV (As := [.int (f_X4_roleOf p0 (1 : Int32)), .int (1 : Int32)]) (rest := []) (ws' := [(o, .inr (3, [.ref o_in, .ref o_into, .int x28, .int y40, .int o_repeated, .int o_pfd, .int o_pfx, .int o_opcode, .int x30])), (o_in, .inr (2, [.ref o_in_row, .int o_in_count])), (o_in_row, .inl (cI, 16, .inl o_in_row_f)), (o_into, .inr (0, [.int y4, .int y5, .int y6, .long o_into_number, .ref o_into_kinds, .ref o_into_regs, .ref o_into_memory])), (o_into_kinds, .inl (cI, 3, .inl y41)), (o_into_regs, .inl (cI, 3, .inl y42)), (o_into_memory, .inr (1, [.int x31, .int x32, .int x33, .int x34]))]) (st1 := []) ⟨hx, hb, hml, hown, hts⟩ (c_X3_readOperand l D cI tT o o_in o_into o_into_kinds o_into_regs o_into_memory x28 y36 o_repeated o_pfd o_pfx o_opcode x30 y4 y5 y6 o_into_number y37 y38 (f_X4_roleOf p0 (1 : Int32)) (1 : Int32) y40 y41 y42 q43) (cwV 2 hts gX3_readLine_X3_readOperand rfl rfl rfl (by decide +kernel) ⟨Nat.le_of_ble_eq_true rfl, Nat.le_of_ble_eq_true rfl⟩) hXg hK hP hD hS hA hXs [0, 3, 4, 5] rfl rfl  rfl rfl rfl rfl rfl rfl hl.1 rfl (Nat.le_of_ble_eq_true rfl) rfl ⟨Nat.zero_le _, Nat.zero_le _⟩ dX3_readLine_95 (fun H locs hP hD hS => ?_)
      refine lv_iinc (v := (2 : Int32)) (lv' := [(3, .int (2 : Int32)), (2, .int (o_opcode - (f_X4_opcodeOf p0))), (0, .ref o), (1, .int p0)]) hx hb dX3_readLine_98 hl (k := 0) rfl (by first | rfl | decide) (by decide) rfl (fun ls hl => ?_)
      refine lv_goto (tgt := 83) hx hb dX3_readLine_101 (by decide) ?_
      refine lv_iload_n hx hb dX3_readLine_83 rfl (lv_at hl 0 rfl) ?_
      refine lv_iconst (v := (3 : Int32)) hx hb dX3_readLine_84 (by decide) ?_
      refine lv_icmp_ge (tgt := 104) hx hb dX3_readLine_85 (by decide) (fun c9 => absurd c9 (by decide)) (fun _ => ?_)
      refine lv_aload_n hx hb dX3_readLine_88 rfl (lv_at hl 2 rfl) ?_
      refine lv_iload_n hx hb dX3_readLine_89 rfl (lv_at hl 3 rfl) ?_
      refine lv_iload_n hx hb dX3_readLine_90 rfl (lv_at hl 0 rfl) ?_
      refine qw_callS (As := [.int p0, .int (2 : Int32)]) (rest := [.ref o]) (ws' := [(o, .inr (3, [.ref o_in, .ref o_into, .int x28, .int y40, .int o_repeated, .int o_pfd, .int o_pfx, .int o_opcode, .int x30])), (o_in, .inr (2, [.ref o_in_row, .int o_in_count])), (o_in_row, .inl (cI, 16, .inl o_in_row_f)), (o_into, .inr (0, [.int y4, .int y5, .int y6, .long o_into_number, .ref o_into_kinds, .ref o_into_regs, .ref o_into_memory])), (o_into_kinds, .inl (cI, 3, .inl y41)), (o_into_regs, .inl (cI, 3, .inl y42)), (o_into_memory, .inr (1, [.int x31, .int x32, .int x33, .int x34]))]) (st1 := [.int (f_X4_roleOf p0 (2 : Int32)), .ref o]) ⟨hx, hb, hml, hown, hts⟩ (c_X4_roleOf l D cI tT p0 (2 : Int32) (f_X4_roleOf p0 (2 : Int32)) rfl) (va_cwS 2 hts gX3_readLine_X4_roleOf rfl rfl rfl (by decide +kernel) ⟨Nat.le_of_ble_eq_true rfl, Nat.le_of_ble_eq_true rfl⟩) hXg hK hP hD hS hA hXs [] rfl rfl  rfl rfl rfl hl.1 rfl (Nat.le_of_ble_eq_true rfl) rfl ⟨Nat.zero_le _, Nat.zero_le _⟩ dX3_readLine_91 (fun H locs hP hD hS => ?_)
      refine lv_iload_n hx hb dX3_readLine_94 rfl (lv_at hl 0 rfl) ?_
      obtain ⟨y44, y45, y46, q47⟩ : ∃ y44 y45 y46, (f_X3_readOperand y40 o_pfd o_pfx o_opcode x30 y5 y41 y42 (f_X4_roleOf p0 (2 : Int32)) (2 : Int32)) = (y44, y45, y46) := ⟨_, _, _, rfl⟩
      rw [q47] at E
      dsimp only at E
      refine qw_callV (As := [.int (f_X4_roleOf p0 (2 : Int32)), .int (2 : Int32)]) (rest := []) (ws' := [(o, .inr (3, [.ref o_in, .ref o_into, .int x28, .int y44, .int o_repeated, .int o_pfd, .int o_pfx, .int o_opcode, .int x30])), (o_in, .inr (2, [.ref o_in_row, .int o_in_count])), (o_in_row, .inl (cI, 16, .inl o_in_row_f)), (o_into, .inr (0, [.int y4, .int y5, .int y6, .long o_into_number, .ref o_into_kinds, .ref o_into_regs, .ref o_into_memory])), (o_into_kinds, .inl (cI, 3, .inl y45)), (o_into_regs, .inl (cI, 3, .inl y46)), (o_into_memory, .inr (1, [.int x31, .int x32, .int x33, .int x34]))]) (st1 := []) ⟨hx, hb, hml, hown, hts⟩ (c_X3_readOperand l D cI tT o o_in o_into o_into_kinds o_into_regs o_into_memory x28 y40 o_repeated o_pfd o_pfx o_opcode x30 y4 y5 y6 o_into_number y41 y42 (f_X4_roleOf p0 (2 : Int32)) (2 : Int32) y44 y45 y46 q47) (cwV 2 hts gX3_readLine_X3_readOperand rfl rfl rfl (by decide +kernel) ⟨Nat.le_of_ble_eq_true rfl, Nat.le_of_ble_eq_true rfl⟩) hXg hK hP hD hS hA hXs [0, 3, 4, 5] rfl rfl  rfl rfl rfl rfl rfl rfl hl.1 rfl (Nat.le_of_ble_eq_true rfl) rfl ⟨Nat.zero_le _, Nat.zero_le _⟩ dX3_readLine_95 (fun H locs hP hD hS => ?_)
      refine lv_iinc (v := (3 : Int32)) (lv' := [(3, .int (3 : Int32)), (2, .int (o_opcode - (f_X4_opcodeOf p0))), (0, .ref o), (1, .int p0)]) hx hb dX3_readLine_98 hl (k := 0) rfl (by first | rfl | decide) (by decide) rfl (fun ls hl => ?_)
      refine lv_goto (tgt := 83) hx hb dX3_readLine_101 (by decide) ?_
      refine lv_iload_n hx hb dX3_readLine_83 rfl (lv_at hl 0 rfl) ?_
      refine lv_iconst (v := (3 : Int32)) hx hb dX3_readLine_84 (by decide) ?_
      refine lv_icmp_ge (tgt := 104) hx hb dX3_readLine_85 (by decide) (fun _ => ?_) (fun c9 => absurd c9 (by decide))
      refine lv_aload_n hx hb dX3_readLine_104 rfl (lv_at hl 2 rfl) ?_
      refine lv_iload_n hx hb dX3_readLine_105 rfl (lv_at hl 3 rfl) ?_
      refine lv_aload_n hx hb dX3_readLine_106 rfl (lv_at hl 2 rfl) ?_
      refine va_get (D := D) (ci := 3) (v := .ref o_into) (C := RX3) (T := TX3) (N := 9) hx hb hts hi_X3 hown hK hP 0 rfl rfl 1 (by decide) lk21 (fun _ h9 => h9) rfl dX3_readLine_107 ?_
      refine va_getN (D := D) (ci := 0) (v := .int y5) (C := RX0) (T := TX0) (N := 7) hx hb hts hi_X0 hown hK hP 3 rfl rfl 1 (by decide) lk135 (fun _ h9 => h9) rfl dX3_readLine_110 ?_
      refine qw_callS (As := [.int p0, .int y5]) (rest := [.ref o]) (ws' := [(o, .inr (3, [.ref o_in, .ref o_into, .int x28, .int y44, .int o_repeated, .int o_pfd, .int o_pfx, .int o_opcode, .int x30])), (o_in, .inr (2, [.ref o_in_row, .int o_in_count])), (o_in_row, .inl (cI, 16, .inl o_in_row_f)), (o_into, .inr (0, [.int y4, .int y5, .int y6, .long o_into_number, .ref o_into_kinds, .ref o_into_regs, .ref o_into_memory])), (o_into_kinds, .inl (cI, 3, .inl y45)), (o_into_regs, .inl (cI, 3, .inl y46)), (o_into_memory, .inr (1, [.int x31, .int x32, .int x33, .int x34]))]) (st1 := [.int (f_X4_numberOf p0 y5), .ref o]) ⟨hx, hb, hml, hown, hts⟩ (c_X4_numberOf l D cI tT p0 y5 (f_X4_numberOf p0 y5) rfl) (va_cwS 2 hts gX3_readLine_X4_numberOf rfl rfl rfl (by decide +kernel) ⟨Nat.le_of_ble_eq_true rfl, Nat.le_of_ble_eq_true rfl⟩) hXg hK hP hD hS hA hXs [] rfl rfl  rfl rfl rfl hl.1 rfl (Nat.le_of_ble_eq_true rfl) rfl ⟨Nat.zero_le _, Nat.zero_le _⟩ dX3_readLine_113 (fun H locs hP hD hS => ?_)
      obtain ⟨y48, y49, y50, q51⟩ : ∃ y48 y49 y50, (f_X3_readNumber x28 y44 o_in_count o_in_row_f (f_X4_numberOf p0 y5)) = (y48, y49, y50) := ⟨_, _, _, rfl⟩
      rw [q51] at E
      dsimp only at E
      refine qw_callV (As := [.int (f_X4_numberOf p0 y5)]) (rest := []) (ws' := [(o, .inr (3, [.ref o_in, .ref o_into, .int y48, .int y49, .int o_repeated, .int o_pfd, .int o_pfx, .int o_opcode, .int x30])), (o_in, .inr (2, [.ref o_in_row, .int o_in_count])), (o_in_row, .inl (cI, 16, .inl o_in_row_f)), (o_into, .inr (0, [.int y4, .int y5, .int y6, .long y50, .ref o_into_kinds, .ref o_into_regs, .ref o_into_memory])), (o_into_kinds, .inl (cI, 3, .inl y45)), (o_into_regs, .inl (cI, 3, .inl y46)), (o_into_memory, .inr (1, [.int x31, .int x32, .int x33, .int x34]))]) (st1 := []) ⟨hx, hb, hml, hown, hts⟩ (c_X3_readNumber l D cI tT o o_in o_into o_in_row o_into_kinds o_into_regs o_into_memory x28 y44 o_repeated o_pfd o_pfx o_opcode x30 o_in_count o_in_row_f y4 y5 y6 o_into_number (f_X4_numberOf p0 y5) y48 y49 y50 q51) (cwV 1 hts gX3_readLine_X3_readNumber rfl rfl rfl (by decide +kernel) ⟨Nat.le_of_ble_eq_true rfl, Nat.le_of_ble_eq_true rfl⟩) hXg hK hP hD hS hA hXs [0, 1, 2, 3] rfl rfl  rfl rfl rfl rfl rfl rfl hl.1 rfl (Nat.le_of_ble_eq_true rfl) rfl ⟨Nat.zero_le _, Nat.zero_le _⟩ dX3_readLine_116 (fun H locs hP hD hS => ?_)
      cases E
      rw [hZ]
      exact qw_vret hx hb hr hlk hP hD hS dX3_readLine_119
    refine lv_if_eq (tgt := 81) hx hb dX3_readLine_58 (by decide) (fun c15 => ?_) (fun c15 => ?_)
    · rw [if_pos c15] at E
      exact J35 o_next o_failed o_form y10 y11 y12 y13 ls _ _ E (lv_sub hl [0, 1, 2] rfl) hP hD hS
    · rw [if_neg c15] at E
      refine lv_aload_n hx hb dX3_readLine_61 rfl (lv_at hl 1 rfl) ?_
      refine lv_aload_n hx hb dX3_readLine_62 rfl (lv_at hl 1 rfl) ?_
      obtain ⟨y16, y17, y18, q19⟩ : ∃ y16 y17 y18, (f_X3_nextOctet o_next o_failed o_in_count o_in_row_f) = (y16, y17, y18) := ⟨_, _, _, rfl⟩
      rw [q19] at E
      dsimp only at E
      refine qw_callV (As := []) (rest := [.ref o]) (ws' := [(o, .inr (3, [.ref o_in, .ref o_into, .int y17, .int y18, .int o_repeated, .int o_pfd, .int o_pfx, .int o_opcode, .int o_form])), (o_in, .inr (2, [.ref o_in_row, .int o_in_count])), (o_in_row, .inl (cI, 16, .inl o_in_row_f)), (o_into, .inr (0, [.int y4, .int y5, .int y6, .long o_into_number, .ref o_into_kinds, .ref o_into_regs, .ref o_into_memory])), (o_into_kinds, .inl (cI, 3, .inl y7)), (o_into_regs, .inl (cI, 3, .inl y8)), (o_into_memory, .inr (1, [.int y10, .int y11, .int y12, .int y13]))]) (st1 := [.int y16, .ref o]) ⟨hx, hb, hml, hown, hts⟩ (c_X3_nextOctet l D cI tT o o_in o_into o_in_row o_next o_failed o_repeated o_pfd o_pfx o_opcode o_form o_in_count o_in_row_f y16 y17 y18 q19) (cwV 0 hts gX3_readLine_X3_nextOctet rfl rfl rfl (by decide +kernel) ⟨Nat.le_of_ble_eq_true rfl, Nat.le_of_ble_eq_true rfl⟩) hXg hK hP hD hS hA hXs [0, 1, 2] rfl rfl  rfl rfl rfl rfl rfl rfl hl.1 rfl (Nat.le_of_ble_eq_true rfl) rfl ⟨Nat.zero_le _, Nat.zero_le _⟩ dX3_readLine_63 (fun H locs hP hD hS => ?_)
      refine va_put (D := D) (ci := 3) (v := .int y16) (ty := .int) (C := RX3) (T := TX3) (N := 9) hx hb hts hi_X3 tyX3 tyX3_ok nmX3 hown hK hP hD hS 0 rfl rfl 8 (by decide) lk118 (fun _ h9 => h9) rfl (by decide +kernel) rfl rfl (Nat.le_of_ble_eq_true rfl) dX3_readLine_66 (fun H locs hP hD hS => ?_)
      have hP : va_P D vwCl [(o, .inr (3, [.ref o_in, .ref o_into, .int y17, .int y18, .int o_repeated, .int o_pfd, .int o_pfx, .int o_opcode, .int y16])), (o_in, .inr (2, [.ref o_in_row, .int o_in_count])), (o_in_row, .inl (cI, 16, .inl o_in_row_f)), (o_into, .inr (0, [.int y4, .int y5, .int y6, .long o_into_number, .ref o_into_kinds, .ref o_into_regs, .ref o_into_memory])), (o_into_kinds, .inl (cI, 3, .inl y7)), (o_into_regs, .inl (cI, 3, .inl y8)), (o_into_memory, .inr (1, [.int y10, .int y11, .int y12, .int y13]))] H := hP
      have hD : va_D A [(o, .inr (3, [.ref o_in, .ref o_into, .int y17, .int y18, .int o_repeated, .int o_pfd, .int o_pfx, .int o_opcode, .int y16])), (o_in, .inr (2, [.ref o_in_row, .int o_in_count])), (o_in_row, .inl (cI, 16, .inl o_in_row_f)), (o_into, .inr (0, [.int y4, .int y5, .int y6, .long o_into_number, .ref o_into_kinds, .ref o_into_regs, .ref o_into_memory])), (o_into_kinds, .inl (cI, 3, .inl y7)), (o_into_regs, .inl (cI, 3, .inl y8)), (o_into_memory, .inr (1, [.int y10, .int y11, .int y12, .int y13]))] := hD
      refine lv_aload_n hx hb dX3_readLine_69 rfl (lv_at hl 1 rfl) ?_
      refine qw_callV (As := []) (rest := []) (ws' := [(o, .inr (3, [.ref o_in, .ref o_into, .int y17, .int y18, .int o_repeated, .int o_pfd, .int o_pfx, .int o_opcode, .int y16])), (o_in, .inr (2, [.ref o_in_row, .int o_in_count])), (o_in_row, .inl (cI, 16, .inl o_in_row_f)), (o_into, .inr (0, [.int y4, .int y5, .int y6, .long o_into_number, .ref o_into_kinds, .ref o_into_regs, .ref o_into_memory])), (o_into_kinds, .inl (cI, 3, .inl y7)), (o_into_regs, .inl (cI, 3, .inl y8)), (o_into_memory, .inr (1, [.int y10, .int y11, .int y12, .int y13]))]) (st1 := [.int (f_X3_formMod y16)]) ⟨hx, hb, hml, hown, hts⟩ (c_X3_formMod l D cI tT o o_in o_into y17 y18 o_repeated o_pfd o_pfx o_opcode y16 (f_X3_formMod y16) rfl) (cwV 0 hts gX3_readLine_X3_formMod rfl rfl rfl (by decide +kernel) ⟨Nat.le_of_ble_eq_true rfl, Nat.le_of_ble_eq_true rfl⟩) hXg hK hP hD hS hA hXs [0] rfl rfl  rfl rfl rfl rfl rfl rfl hl.1 rfl (Nat.le_of_ble_eq_true rfl) rfl ⟨Nat.zero_le _, Nat.zero_le _⟩ dX3_readLine_70 (fun H locs hP hD hS => ?_)
      refine lv_iconst (v := (3 : Int32)) hx hb dX3_readLine_73 (by decide) ?_
      refine lv_icmp_eq (tgt := 81) hx hb dX3_readLine_74 (by decide) (fun c20 => ?_) (fun c20 => ?_)
      · rw [if_pos c20] at E
        exact J35 y17 y18 y16 y10 y11 y12 y13 ls _ _ E (lv_sub hl [0, 1, 2] rfl) hP hD hS
      · rw [if_neg c20] at E
        refine lv_aload_n hx hb dX3_readLine_77 rfl (lv_at hl 1 rfl) ?_
        obtain ⟨y21, y22, y23, y24, y25, y26, q27⟩ : ∃ y21 y22 y23 y24 y25 y26, (f_X3_readMemory y17 y18 o_pfx y16 o_in_count o_in_row_f) = (y21, y22, y23, y24, y25, y26) := ⟨_, _, _, _, _, _, rfl⟩
        rw [q27] at E
        dsimp only at E
        refine qw_callV (As := []) (rest := []) (ws' := [(o, .inr (3, [.ref o_in, .ref o_into, .int y21, .int y22, .int o_repeated, .int o_pfd, .int o_pfx, .int o_opcode, .int y16])), (o_in, .inr (2, [.ref o_in_row, .int o_in_count])), (o_in_row, .inl (cI, 16, .inl o_in_row_f)), (o_into, .inr (0, [.int y4, .int y5, .int y6, .long o_into_number, .ref o_into_kinds, .ref o_into_regs, .ref o_into_memory])), (o_into_kinds, .inl (cI, 3, .inl y7)), (o_into_regs, .inl (cI, 3, .inl y8)), (o_into_memory, .inr (1, [.int y23, .int y24, .int y25, .int y26]))]) (st1 := []) ⟨hx, hb, hml, hown, hts⟩ (c_X3_readMemory l D cI tT o o_in o_into o_in_row o_into_kinds o_into_regs o_into_memory y17 y18 o_repeated o_pfd o_pfx o_opcode y16 o_in_count o_in_row_f y4 y5 y6 o_into_number y10 y11 y12 y13 y21 y22 y23 y24 y25 y26 q27) (cwV 0 hts gX3_readLine_X3_readMemory rfl rfl rfl (by decide +kernel) ⟨Nat.le_of_ble_eq_true rfl, Nat.le_of_ble_eq_true rfl⟩) hXg hK hP hD hS hA hXs [0, 1, 2, 3, 6] rfl rfl  rfl rfl rfl rfl rfl rfl hl.1 rfl (Nat.le_of_ble_eq_true rfl) rfl ⟨Nat.zero_le _, Nat.zero_le _⟩ dX3_readLine_78 (fun H locs hP hD hS => ?_)
        exact J35 y21 y22 y16 y23 y24 y25 y26 ls _ _ E (lv_sub hl [0, 1, 2] rfl) hP hD hS
  refine lv_if_eq (tgt := 40) hx hb dX3_readLine_33 (by decide) (fun c1 => ?_) (fun c1 => ?_)
  · rw [if_pos c1] at E
    refine lv_iconst (v := (0 : Int32)) hx hb dX3_readLine_40 (by decide) ?_
    exact J3 (0 : Int32) ls _ _ E (lv_sub hl [0, 1, 2] rfl) hP hD hS
  · rw [if_neg c1] at E
    refine lv_iload_n hx hb dX3_readLine_36 rfl (lv_at hl 0 rfl) ?_
    refine lv_goto (tgt := 41) hx hb dX3_readLine_37 (by decide) ?_
    exact J3 (o_opcode - (f_X4_opcodeOf p0)) ls _ _ E (lv_sub hl [0, 1, 2] rfl) hP hD hS
def f_X3_isTold_J5 (x4 : Int32) : Int32 := (x4)
def f_X3_isTold (o_next : Int32) (o_repeated : Int32) (o_pfx : Int32) (o_in_count : Int32) (o_in_row_f : (Nat → Int32)) (p0 : Int32) : Int32 := ((if (f_X4_isRepeated p0) = o_repeated then (if (f_X4_allowsW p0 (f_X3_hasBit o_pfx (8 : Int32))) = 0 then (f_X3_isTold_J5 (0 : Int32)) else (if (f_X4_allowsForm p0 (f_X2_at o_in_count o_in_row_f o_next)) = 0 then (f_X3_isTold_J5 (0 : Int32)) else (f_X3_isTold_J5 (1 : Int32)))) else (f_X3_isTold_J5 (0 : Int32))))
set_option maxHeartbeats 4000000 in
set_option maxRecDepth 100000 in
theorem c_X3_isTold (l : Launch) (D : va_G) (cI : ClassId) (tT : Nat) (o : Nat) (o_in : Nat) (o_into : Nat) (o_in_row : Nat) (o_next : Int32) (o_failed : Int32) (o_repeated : Int32) (o_pfd : Int32) (o_pfx : Int32) (o_opcode : Int32) (o_form : Int32) (o_in_count : Int32) (o_in_row_f : (Nat → Int32)) (p0 : Int32) (r_o : Int32) (hq : f_X3_isTold o_next o_repeated o_pfx o_in_count o_in_row_f p0 = r_o) : qM l yX3_isTold wsX3_isTold (qr 3 64) (qX tT) D vwCl [(cI, .int)] [(o, .inr (3, [.ref o_in, .ref o_into, .int o_next, .int o_failed, .int o_repeated, .int o_pfd, .int o_pfx, .int o_opcode, .int o_form])), (o_in, .inr (2, [.ref o_in_row, .int o_in_count])), (o_in_row, .inl (cI, 16, .inl o_in_row_f))] [.ref o, .int p0] (some (.int r_o)) [(o, .inr (3, [.ref o_in, .ref o_into, .int o_next, .int o_failed, .int o_repeated, .int o_pfd, .int o_pfx, .int o_opcode, .int o_form])), (o_in, .inr (2, [.ref o_in_row, .int o_in_count])), (o_in_row, .inl (cI, 16, .inl o_in_row_f))] := by
  refine qM_of (cc := cX3_isTold) (maxL := 2) (ret := (some .boolean)) (by decide) rfl (Nat.le_of_ble_eq_true rfl) ?_
  intro p e s m args below meth c A ls Z hx hb hml hr hts hown hlk hK hA hXs hP hD hS hl hZ
  have hown : s.vm.findClass RX3 = some m.cls := hown
  have hl : lv_has ls 2 [(0, .ref o), (1, .int p0)] := hl
  have hi_X3 : ∀ w ∈ wsX30, w ∈ wsX3_isTold := by decide +kernel
  have lk12 := hts (.fieldLink RX3 12 "InstructionCoder$Reader" "in" "LInstructionCoder$Octets;") (by decide +kernel)
  have lk25 := hts (.fieldLink RX3 25 "InstructionCoder$Reader" "next" "I") (by decide +kernel)
  have lk48 := hts (.fieldLink RX3 48 "InstructionCoder$Reader" "repeated" "Z") (by decide +kernel)
  have hXg := qX_ok tT
  have E := hq
  rw [f_X3_isTold] at E
  refine lv_iload_n hx hb dX3_isTold_0 rfl (lv_at hl 1 rfl) ?_
  refine qw_callS (As := [.int p0]) (rest := []) (ws' := [(o, .inr (3, [.ref o_in, .ref o_into, .int o_next, .int o_failed, .int o_repeated, .int o_pfd, .int o_pfx, .int o_opcode, .int o_form])), (o_in, .inr (2, [.ref o_in_row, .int o_in_count])), (o_in_row, .inl (cI, 16, .inl o_in_row_f))]) (st1 := [.int (f_X4_isRepeated p0)]) ⟨hx, hb, hml, hown, hts⟩ (c_X4_isRepeated l D cI tT p0 (f_X4_isRepeated p0) rfl) (va_cwS 1 hts gX3_isTold_X4_isRepeated rfl rfl rfl (by decide +kernel) ⟨Nat.le_of_ble_eq_true rfl, Nat.le_of_ble_eq_true rfl⟩) hXg hK hP hD hS hA hXs [] rfl rfl  rfl rfl rfl hl.1 rfl (Nat.le_of_ble_eq_true rfl) rfl ⟨Nat.zero_le _, Nat.zero_le _⟩ dX3_isTold_1 (fun H locs hP hD hS => ?_)
  refine lv_aload_n hx hb dX3_isTold_4 rfl (lv_at hl 0 rfl) ?_
  refine va_get (D := D) (ci := 3) (v := .int o_repeated) (C := RX3) (T := TX3) (N := 9) hx hb hts hi_X3 hown hK hP 0 rfl rfl 4 (by decide) lk48 (fun _ h9 => h9) rfl dX3_isTold_5 ?_
  have J5 : ∀ (x4 : Int32) (hb_x4 : x4 = 0 ∨ x4 = 1) (ls : Array Slot) (H : Heap) (locs : List Loc), f_X3_isTold_J5 x4 = r_o → lv_has ls 2 [(0, .ref o), (1, .int p0)] → va_P D vwCl [(o, .inr (3, [.ref o_in, .ref o_into, .int o_next, .int o_failed, .int o_repeated, .int o_pfd, .int o_pfx, .int o_opcode, .int o_form])), (o_in, .inr (2, [.ref o_in_row, .int o_in_count])), (o_in_row, .inl (cI, 16, .inl o_in_row_f))] H → va_D A [(o, .inr (3, [.ref o_in, .ref o_into, .int o_next, .int o_failed, .int o_repeated, .int o_pfd, .int o_pfx, .int o_opcode, .int o_form])), (o_in, .inr (2, [.ref o_in_row, .int o_in_count])), (o_in_row, .inl (cI, 16, .inl o_in_row_f))] → va_S A s.heap H locs → W p l e (qr 3 64) s m args below meth c H locs 0 0 Z (F0 m 47 ls [.int x4]) := by
    intro x4 hb_x4 ls H locs E hl hP hD hS
    rw [f_X3_isTold_J5] at E
    cases E
    rw [hZ]
    exact qw_zret hx hb hr hlk hb_x4 hP hD hS dX3_isTold_47
  refine lv_icmp_ne (tgt := 46) hx hb dX3_isTold_8 (by decide) (fun c1 => ?_) (fun c1 => ?_)
  · rw [if_neg c1] at E
    refine lv_iconst (v := (0 : Int32)) hx hb dX3_isTold_46 (by decide) ?_
    exact J5 (0 : Int32) (Or.inl rfl) ls _ _ E (lv_sub hl [0, 1] rfl) hP hD hS
  · rw [if_pos c1] at E
    refine lv_iload_n hx hb dX3_isTold_11 rfl (lv_at hl 1 rfl) ?_
    refine lv_aload_n hx hb dX3_isTold_12 rfl (lv_at hl 0 rfl) ?_
    refine lv_bipush (v := (8 : Int32)) hx hb dX3_isTold_13 (by decide) ?_
    refine qw_callV (As := [.int (8 : Int32)]) (rest := [.int p0]) (ws' := [(o, .inr (3, [.ref o_in, .ref o_into, .int o_next, .int o_failed, .int o_repeated, .int o_pfd, .int o_pfx, .int o_opcode, .int o_form])), (o_in, .inr (2, [.ref o_in_row, .int o_in_count])), (o_in_row, .inl (cI, 16, .inl o_in_row_f))]) (st1 := [.int (f_X3_hasBit o_pfx (8 : Int32)), .int p0]) ⟨hx, hb, hml, hown, hts⟩ (c_X3_hasBit l D cI tT o o_in o_into o_next o_failed o_repeated o_pfd o_pfx o_opcode o_form (8 : Int32) (f_X3_hasBit o_pfx (8 : Int32)) rfl) (cwV 1 hts gX3_isTold_X3_hasBit rfl rfl rfl (by decide +kernel) ⟨Nat.le_of_ble_eq_true rfl, Nat.le_of_ble_eq_true rfl⟩) hXg hK hP hD hS hA hXs [0] rfl rfl  rfl rfl rfl rfl rfl rfl hl.1 rfl (Nat.le_of_ble_eq_true rfl) rfl ⟨Nat.zero_le _, Nat.zero_le _⟩ dX3_isTold_15 (fun H locs hP hD hS => ?_)
    refine qw_callS (As := [.int p0, .int (f_X3_hasBit o_pfx (8 : Int32))]) (rest := []) (ws' := [(o, .inr (3, [.ref o_in, .ref o_into, .int o_next, .int o_failed, .int o_repeated, .int o_pfd, .int o_pfx, .int o_opcode, .int o_form])), (o_in, .inr (2, [.ref o_in_row, .int o_in_count])), (o_in_row, .inl (cI, 16, .inl o_in_row_f))]) (st1 := [.int (f_X4_allowsW p0 (f_X3_hasBit o_pfx (8 : Int32)))]) ⟨hx, hb, hml, hown, hts⟩ (c_X4_allowsW l D cI tT p0 (f_X3_hasBit o_pfx (8 : Int32)) (f_X4_allowsW p0 (f_X3_hasBit o_pfx (8 : Int32))) rfl) (va_cwS 2 hts gX3_isTold_X4_allowsW rfl rfl rfl (by decide +kernel) ⟨Nat.le_of_ble_eq_true rfl, Nat.le_of_ble_eq_true rfl⟩) hXg hK hP hD hS hA hXs [] rfl rfl  rfl rfl rfl hl.1 rfl (Nat.le_of_ble_eq_true rfl) rfl ⟨Nat.zero_le _, Nat.zero_le _⟩ dX3_isTold_18 (fun H locs hP hD hS => ?_)
    refine lv_if_eq (tgt := 46) hx hb dX3_isTold_21 (by decide) (fun c2 => ?_) (fun c2 => ?_)
    · rw [if_pos c2] at E
      refine lv_iconst (v := (0 : Int32)) hx hb dX3_isTold_46 (by decide) ?_
      exact J5 (0 : Int32) (Or.inl rfl) ls _ _ E (lv_sub hl [0, 1] rfl) hP hD hS
    · rw [if_neg c2] at E
      refine lv_iload_n hx hb dX3_isTold_24 rfl (lv_at hl 1 rfl) ?_
      refine lv_aload_n hx hb dX3_isTold_25 rfl (lv_at hl 0 rfl) ?_
      refine va_get (D := D) (ci := 3) (v := .ref o_in) (C := RX3) (T := TX3) (N := 9) hx hb hts hi_X3 hown hK hP 0 rfl rfl 0 (by decide) lk12 (fun _ h9 => h9) rfl dX3_isTold_26 ?_
      refine lv_aload_n hx hb dX3_isTold_29 rfl (lv_at hl 0 rfl) ?_
      refine va_get (D := D) (ci := 3) (v := .int o_next) (C := RX3) (T := TX3) (N := 9) hx hb hts hi_X3 hown hK hP 0 rfl rfl 2 (by decide) lk25 (fun _ h9 => h9) rfl dX3_isTold_30 ?_
      refine qw_callV (As := [.int o_next]) (rest := [.int p0]) (ws' := [(o, .inr (3, [.ref o_in, .ref o_into, .int o_next, .int o_failed, .int o_repeated, .int o_pfd, .int o_pfx, .int o_opcode, .int o_form])), (o_in, .inr (2, [.ref o_in_row, .int o_in_count])), (o_in_row, .inl (cI, 16, .inl o_in_row_f))]) (st1 := [.int (f_X2_at o_in_count o_in_row_f o_next), .int p0]) ⟨hx, hb, hml, hown, hts⟩ (c_X2_at l D cI tT o_in o_in_row o_in_count o_in_row_f o_next (f_X2_at o_in_count o_in_row_f o_next) rfl) (cwV 1 hts gX3_isTold_X2_at rfl rfl rfl (by decide +kernel) ⟨Nat.le_of_ble_eq_true rfl, Nat.le_of_ble_eq_true rfl⟩) hXg hK hP hD hS hA hXs [1, 2] rfl rfl  rfl rfl rfl rfl rfl rfl hl.1 rfl (Nat.le_of_ble_eq_true rfl) rfl ⟨Nat.zero_le _, Nat.zero_le _⟩ dX3_isTold_33 (fun H locs hP hD hS => ?_)
      refine qw_callS (As := [.int p0, .int (f_X2_at o_in_count o_in_row_f o_next)]) (rest := []) (ws' := [(o, .inr (3, [.ref o_in, .ref o_into, .int o_next, .int o_failed, .int o_repeated, .int o_pfd, .int o_pfx, .int o_opcode, .int o_form])), (o_in, .inr (2, [.ref o_in_row, .int o_in_count])), (o_in_row, .inl (cI, 16, .inl o_in_row_f))]) (st1 := [.int (f_X4_allowsForm p0 (f_X2_at o_in_count o_in_row_f o_next))]) ⟨hx, hb, hml, hown, hts⟩ (c_X4_allowsForm l D cI tT p0 (f_X2_at o_in_count o_in_row_f o_next) (f_X4_allowsForm p0 (f_X2_at o_in_count o_in_row_f o_next)) rfl) (va_cwS 2 hts gX3_isTold_X4_allowsForm rfl rfl rfl (by decide +kernel) ⟨Nat.le_of_ble_eq_true rfl, Nat.le_of_ble_eq_true rfl⟩) hXg hK hP hD hS hA hXs [] rfl rfl  rfl rfl rfl hl.1 rfl (Nat.le_of_ble_eq_true rfl) rfl ⟨Nat.zero_le _, Nat.zero_le _⟩ dX3_isTold_36 (fun H locs hP hD hS => ?_)
      refine lv_if_eq (tgt := 46) hx hb dX3_isTold_39 (by decide) (fun c3 => ?_) (fun c3 => ?_)
      · rw [if_pos c3] at E
        refine lv_iconst (v := (0 : Int32)) hx hb dX3_isTold_46 (by decide) ?_
        exact J5 (0 : Int32) (Or.inl rfl) ls _ _ E (lv_sub hl [0, 1] rfl) hP hD hS
      · rw [if_neg c3] at E
        refine lv_iconst (v := (1 : Int32)) hx hb dX3_isTold_42 (by decide) ?_
        refine lv_goto (tgt := 47) hx hb dX3_isTold_43 (by decide) ?_
        exact J5 (1 : Int32) (Or.inr rfl) ls _ _ E (lv_sub hl [0, 1] rfl) hP hD hS
def f_X3_findLine_L5 (o_next : Int32) (o_repeated : Int32) (o_pfx : Int32) (o_opcode : Int32) (o_in_count : Int32) (o_in_row_f : (Nat → Int32)) : Nat → Int32 → Int32
  | 0, _ => 0
  | n + 1, x1 => (if f_X4_lines ≤ x1 then ((-1 : Int32)) else (if (f_X4_hasOpcode x1 o_opcode) = 0 then (f_X3_findLine_L5 o_next o_repeated o_pfx o_opcode o_in_count o_in_row_f n (x1 + (1 : Int32))) else (if (f_X3_isTold o_next o_repeated o_pfx o_in_count o_in_row_f x1) = 0 then (f_X3_findLine_L5 o_next o_repeated o_pfx o_opcode o_in_count o_in_row_f n (x1 + (1 : Int32))) else (x1))))
def f_X3_findLine (o_next : Int32) (o_repeated : Int32) (o_pfx : Int32) (o_opcode : Int32) (o_in_count : Int32) (o_in_row_f : (Nat → Int32)) : Int32 := (f_X3_findLine_L5 o_next o_repeated o_pfx o_opcode o_in_count o_in_row_f (((f_X4_lines).toInt - ((0 : Int32)).toInt).toNat + 1) (0 : Int32))
set_option maxHeartbeats 4000000 in
set_option maxRecDepth 100000 in
theorem c_X3_findLine (l : Launch) (D : va_G) (cI : ClassId) (tT : Nat) (o : Nat) (o_in : Nat) (o_into : Nat) (o_in_row : Nat) (o_next : Int32) (o_failed : Int32) (o_repeated : Int32) (o_pfd : Int32) (o_pfx : Int32) (o_opcode : Int32) (o_form : Int32) (o_in_count : Int32) (o_in_row_f : (Nat → Int32)) (r_o : Int32) (hq : f_X3_findLine o_next o_repeated o_pfx o_opcode o_in_count o_in_row_f = r_o) : qM l yX3_findLine wsX3_findLine (qr 4 85) (qX tT) D vwCl [(cI, .int)] [(o, .inr (3, [.ref o_in, .ref o_into, .int o_next, .int o_failed, .int o_repeated, .int o_pfd, .int o_pfx, .int o_opcode, .int o_form])), (o_in, .inr (2, [.ref o_in_row, .int o_in_count])), (o_in_row, .inl (cI, 16, .inl o_in_row_f))] [.ref o] (some (.int r_o)) [(o, .inr (3, [.ref o_in, .ref o_into, .int o_next, .int o_failed, .int o_repeated, .int o_pfd, .int o_pfx, .int o_opcode, .int o_form])), (o_in, .inr (2, [.ref o_in_row, .int o_in_count])), (o_in_row, .inl (cI, 16, .inl o_in_row_f))] := by
  refine qM_of (cc := cX3_findLine) (maxL := 3) (ret := (some .int)) (by decide) rfl (Nat.le_of_ble_eq_true rfl) ?_
  intro p e s m args below meth c A ls Z hx hb hml hr hts hown hlk hK hA hXs hP hD hS hl hZ
  have hown : s.vm.findClass RX3 = some m.cls := hown
  have hl : lv_has ls 3 [(0, .ref o)] := hl
  have hi_X3 : ∀ w ∈ wsX30, w ∈ wsX3_findLine := by decide +kernel
  have lk60 := hts (.fieldLink RX3 60 "InstructionCoder$Reader" "opcode" "I") (by decide +kernel)
  have hXg := qX_ok tT
  have E := hq
  rw [f_X3_findLine] at E
  refine qw_callS (As := []) (rest := []) (ws' := [(o, .inr (3, [.ref o_in, .ref o_into, .int o_next, .int o_failed, .int o_repeated, .int o_pfd, .int o_pfx, .int o_opcode, .int o_form])), (o_in, .inr (2, [.ref o_in_row, .int o_in_count])), (o_in_row, .inl (cI, 16, .inl o_in_row_f))]) (st1 := [.int f_X4_lines]) ⟨hx, hb, hml, hown, hts⟩ (c_X4_lines l D cI tT  f_X4_lines rfl) (va_cwS 0 hts gX3_findLine_X4_lines rfl rfl rfl (by decide +kernel) ⟨Nat.le_of_ble_eq_true rfl, Nat.le_of_ble_eq_true rfl⟩) hXg hK hP hD hS hA hXs [] rfl rfl  rfl rfl rfl hl.1 rfl (Nat.le_of_ble_eq_true rfl) rfl ⟨Nat.zero_le _, Nat.zero_le _⟩ dX3_findLine_0 (fun H locs hP hD hS => ?_)
  refine lv_istore_n (lv' := [(1, .int f_X4_lines), (0, .ref o)]) hx hb dX3_findLine_3 rfl hl (by decide) rfl (fun ls hl => ?_)
  refine lv_iconst (v := (0 : Int32)) hx hb dX3_findLine_4 (by decide) ?_
  refine lv_istore_n (lv' := [(2, .int (0 : Int32)), (1, .int f_X4_lines), (0, .ref o)]) hx hb dX3_findLine_5 rfl hl (by decide) rfl (fun ls hl => ?_)
  have L5 : ∀ (n : Nat) (x1 : Int32) (ls : Array Slot) (H : Heap) (locs : List Loc), ((f_X4_lines).toInt - (x1).toInt).toNat < n → f_X3_findLine_L5 o_next o_repeated o_pfx o_opcode o_in_count o_in_row_f n x1 = r_o → lv_has ls 3 [(2, .int x1), (1, .int f_X4_lines), (0, .ref o)] → va_P D vwCl [(o, .inr (3, [.ref o_in, .ref o_into, .int o_next, .int o_failed, .int o_repeated, .int o_pfd, .int o_pfx, .int o_opcode, .int o_form])), (o_in, .inr (2, [.ref o_in_row, .int o_in_count])), (o_in_row, .inl (cI, 16, .inl o_in_row_f))] H → va_D A [(o, .inr (3, [.ref o_in, .ref o_into, .int o_next, .int o_failed, .int o_repeated, .int o_pfd, .int o_pfx, .int o_opcode, .int o_form])), (o_in, .inr (2, [.ref o_in_row, .int o_in_count])), (o_in_row, .inl (cI, 16, .inl o_in_row_f))] → va_S A s.heap H locs → W p l e (qr 4 85) s m args below meth c H locs 0 0 Z (F0 m 6 ls []) := by
    intro n
    induction n with
    | zero => intro x1  ls H locs hm; exact absurd hm (Nat.not_lt_zero _)
    | succ n ih =>
      intro x1  ls H locs hm E hl hP hD hS
      rw [f_X3_findLine_L5] at E
      refine lv_iload_n hx hb dX3_findLine_6 rfl (lv_at hl 0 rfl) ?_
      refine lv_iload_n hx hb dX3_findLine_7 rfl (lv_at hl 1 rfl) ?_
      refine lv_icmp_ge (tgt := 38) hx hb dX3_findLine_8 (by decide) (fun c2 => ?_) (fun c2 => ?_)
      · rw [if_pos c2] at E
        refine lv_iconst (v := (-1 : Int32)) hx hb dX3_findLine_38 (by decide) ?_
        cases E
        rw [hZ]
        exact qw_iret hx hb hr hlk hP hD hS dX3_findLine_39
      · rw [if_neg c2] at E
        refine lv_iload_n hx hb dX3_findLine_11 rfl (lv_at hl 0 rfl) ?_
        refine lv_aload_n hx hb dX3_findLine_12 rfl (lv_at hl 2 rfl) ?_
        refine va_get (D := D) (ci := 3) (v := .int o_opcode) (C := RX3) (T := TX3) (N := 9) hx hb hts hi_X3 hown hK hP 0 rfl rfl 7 (by decide) lk60 (fun _ h9 => h9) rfl dX3_findLine_13 ?_
        refine qw_callS (As := [.int x1, .int o_opcode]) (rest := []) (ws' := [(o, .inr (3, [.ref o_in, .ref o_into, .int o_next, .int o_failed, .int o_repeated, .int o_pfd, .int o_pfx, .int o_opcode, .int o_form])), (o_in, .inr (2, [.ref o_in_row, .int o_in_count])), (o_in_row, .inl (cI, 16, .inl o_in_row_f))]) (st1 := [.int (f_X4_hasOpcode x1 o_opcode)]) ⟨hx, hb, hml, hown, hts⟩ (c_X4_hasOpcode l D cI tT x1 o_opcode (f_X4_hasOpcode x1 o_opcode) rfl) (va_cwS 2 hts gX3_findLine_X4_hasOpcode rfl rfl rfl (by decide +kernel) ⟨Nat.le_of_ble_eq_true rfl, Nat.le_of_ble_eq_true rfl⟩) hXg hK hP hD hS hA hXs [] rfl rfl  rfl rfl rfl hl.1 rfl (Nat.le_of_ble_eq_true rfl) rfl ⟨Nat.zero_le _, Nat.zero_le _⟩ dX3_findLine_16 (fun H locs hP hD hS => ?_)
        refine lv_if_eq (tgt := 32) hx hb dX3_findLine_19 (by decide) (fun c3 => ?_) (fun c3 => ?_)
        · rw [if_pos c3] at E
          refine lv_iinc (v := x1 + (1 : Int32)) (lv' := [(2, .int (x1 + (1 : Int32))), (1, .int f_X4_lines), (0, .ref o)]) hx hb dX3_findLine_32 hl (k := 0) rfl (by first | rfl | decide) (by decide) rfl (fun ls hl => ?_)
          refine lv_goto (tgt := 6) hx hb dX3_findLine_35 (by decide) ?_
          exact ih (x1 + (1 : Int32))  ls _ _ (qw_up hm c2) E (lv_sub hl [0, 1, 2] rfl) hP hD hS
        · rw [if_neg c3] at E
          refine lv_aload_n hx hb dX3_findLine_22 rfl (lv_at hl 2 rfl) ?_
          refine lv_iload_n hx hb dX3_findLine_23 rfl (lv_at hl 0 rfl) ?_
          refine qw_callV (As := [.int x1]) (rest := []) (ws' := [(o, .inr (3, [.ref o_in, .ref o_into, .int o_next, .int o_failed, .int o_repeated, .int o_pfd, .int o_pfx, .int o_opcode, .int o_form])), (o_in, .inr (2, [.ref o_in_row, .int o_in_count])), (o_in_row, .inl (cI, 16, .inl o_in_row_f))]) (st1 := [.int (f_X3_isTold o_next o_repeated o_pfx o_in_count o_in_row_f x1)]) ⟨hx, hb, hml, hown, hts⟩ (c_X3_isTold l D cI tT o o_in o_into o_in_row o_next o_failed o_repeated o_pfd o_pfx o_opcode o_form o_in_count o_in_row_f x1 (f_X3_isTold o_next o_repeated o_pfx o_in_count o_in_row_f x1) rfl) (cwV 1 hts gX3_findLine_X3_isTold rfl rfl rfl (by decide +kernel) ⟨Nat.le_of_ble_eq_true rfl, Nat.le_of_ble_eq_true rfl⟩) hXg hK hP hD hS hA hXs [0, 1, 2] rfl rfl  rfl rfl rfl rfl rfl rfl hl.1 rfl (Nat.le_of_ble_eq_true rfl) rfl ⟨Nat.zero_le _, Nat.zero_le _⟩ dX3_findLine_24 (fun H locs hP hD hS => ?_)
          refine lv_if_eq (tgt := 32) hx hb dX3_findLine_27 (by decide) (fun c4 => ?_) (fun c4 => ?_)
          · rw [if_pos c4] at E
            refine lv_iinc (v := x1 + (1 : Int32)) (lv' := [(2, .int (x1 + (1 : Int32))), (1, .int f_X4_lines), (0, .ref o)]) hx hb dX3_findLine_32 hl (k := 0) rfl (by first | rfl | decide) (by decide) rfl (fun ls hl => ?_)
            refine lv_goto (tgt := 6) hx hb dX3_findLine_35 (by decide) ?_
            exact ih (x1 + (1 : Int32))  ls _ _ (qw_up hm c2) E (lv_sub hl [0, 1, 2] rfl) hP hD hS
          · rw [if_neg c4] at E
            refine lv_iload_n hx hb dX3_findLine_30 rfl (lv_at hl 0 rfl) ?_
            cases E
            rw [hZ]
            exact qw_iret hx hb hr hlk hP hD hS dX3_findLine_31
  exact L5 _ (0 : Int32)  ls _ _ (Nat.lt_succ_self _) E (lv_sub hl [0, 1, 2] rfl) hP hD hS
def f_X3_readHead_J31 (x2 : Int32) (x8 : Int32) (x15 : Int32) (x28 : Int32) (x29 : Int32) (x30 : Int32) : Int32 × Int32 × Int32 × Int32 × Int32 × Int32 := ((x28, x29, x2, x8, x15, x30))
def f_X3_readHead_J18 (o_in_count : Int32) (o_in_row_f : (Nat → Int32)) (x2 : Int32) (x8 : Int32) (x15 : Int32) (x16 : Int32) (x17 : Int32) : Int32 × Int32 × Int32 × Int32 × Int32 × Int32 := (match (f_X3_nextOctet x16 x17 o_in_count o_in_row_f) with | (y19, y20, y21) => (if y19 = (15 : Int32) then (match (f_X3_nextOctet y20 y21 o_in_count o_in_row_f) with | (y24, y25, y26) => f_X3_readHead_J31 x2 x8 x15 y25 y26 ((3840 : Int32) + y24)) else (f_X3_readHead_J31 x2 x8 x15 y20 y21 y19)))
def f_X3_readHead_J9 (o_failed : Int32) (o_in_count : Int32) (o_in_row_f : (Nat → Int32)) (x2 : Int32) (x5 : Int32) (x8 : Int32) : Int32 × Int32 × Int32 × Int32 × Int32 × Int32 := ((if x8 = 0 then (f_X3_readHead_J18 o_in_count o_in_row_f x2 x8 (0 : Int32) x5 o_failed) else (match (f_X3_nextOctet x5 o_failed o_in_count o_in_row_f) with | (y11, y12, y13) => f_X3_readHead_J18 o_in_count o_in_row_f x2 x8 (y11 &&& (15 : Int32)) y12 y13)))
def f_X3_readHead_J6 (o_failed : Int32) (o_in_count : Int32) (o_in_row_f : (Nat → Int32)) (x2 : Int32) (x5 : Int32) : Int32 × Int32 × Int32 × Int32 × Int32 × Int32 := ((if ((f_X2_at o_in_count o_in_row_f x5) &&& (-16 : Int32)) = (64 : Int32) then (f_X3_readHead_J9 o_failed o_in_count o_in_row_f x2 x5 (1 : Int32)) else (f_X3_readHead_J9 o_failed o_in_count o_in_row_f x2 x5 (0 : Int32))))
def f_X3_readHead_J3 (o_next : Int32) (o_failed : Int32) (o_in_count : Int32) (o_in_row_f : (Nat → Int32)) (x2 : Int32) : Int32 × Int32 × Int32 × Int32 × Int32 × Int32 := ((if x2 = 0 then (f_X3_readHead_J6 o_failed o_in_count o_in_row_f x2 o_next) else (f_X3_readHead_J6 o_failed o_in_count o_in_row_f x2 (o_next + (1 : Int32)))))
def f_X3_readHead (o_next : Int32) (o_failed : Int32) (o_in_count : Int32) (o_in_row_f : (Nat → Int32)) : Int32 × Int32 × Int32 × Int32 × Int32 × Int32 := ((if (f_X2_at o_in_count o_in_row_f o_next) = (243 : Int32) then (f_X3_readHead_J3 o_next o_failed o_in_count o_in_row_f (1 : Int32)) else (f_X3_readHead_J3 o_next o_failed o_in_count o_in_row_f (0 : Int32))))
set_option maxHeartbeats 4000000 in
set_option maxRecDepth 100000 in
theorem c_X3_readHead (l : Launch) (D : va_G) (cI : ClassId) (tT : Nat) (o : Nat) (o_in : Nat) (o_into : Nat) (o_in_row : Nat) (o_next : Int32) (o_failed : Int32) (o_repeated : Int32) (o_pfd : Int32) (o_pfx : Int32) (o_opcode : Int32) (o_form : Int32) (o_in_count : Int32) (o_in_row_f : (Nat → Int32)) (o_next_o : Int32) (o_failed_o : Int32) (o_repeated_o : Int32) (o_pfd_o : Int32) (o_pfx_o : Int32) (o_opcode_o : Int32) (hq : f_X3_readHead o_next o_failed o_in_count o_in_row_f = (o_next_o, o_failed_o, o_repeated_o, o_pfd_o, o_pfx_o, o_opcode_o)) : qM l yX3_readHead wsX3_readHead (qr 2 42) (qX tT) D vwCl [(cI, .int)] [(o, .inr (3, [.ref o_in, .ref o_into, .int o_next, .int o_failed, .int o_repeated, .int o_pfd, .int o_pfx, .int o_opcode, .int o_form])), (o_in, .inr (2, [.ref o_in_row, .int o_in_count])), (o_in_row, .inl (cI, 16, .inl o_in_row_f))] [.ref o] none [(o, .inr (3, [.ref o_in, .ref o_into, .int o_next_o, .int o_failed_o, .int o_repeated_o, .int o_pfd_o, .int o_pfx_o, .int o_opcode_o, .int o_form])), (o_in, .inr (2, [.ref o_in_row, .int o_in_count])), (o_in_row, .inl (cI, 16, .inl o_in_row_f))] := by
  refine qM_of (cc := cX3_readHead) (maxL := 1) (ret := none) (by decide) rfl (Nat.le_of_ble_eq_true rfl) ?_
  intro p e s m args below meth c A ls Z hx hb hml hr hts hown hlk hK hA hXs hP hD hS hl hZ
  have hown : s.vm.findClass RX3 = some m.cls := hown
  have hl : lv_has ls 1 [(0, .ref o)] := hl
  have hi_X3 : ∀ w ∈ wsX30, w ∈ wsX3_readHead := by decide +kernel
  have lk12 := hts (.fieldLink RX3 12 "InstructionCoder$Reader" "in" "LInstructionCoder$Octets;") (by decide +kernel)
  have lk25 := hts (.fieldLink RX3 25 "InstructionCoder$Reader" "next" "I") (by decide +kernel)
  have lk48 := hts (.fieldLink RX3 48 "InstructionCoder$Reader" "repeated" "Z") (by decide +kernel)
  have lk51 := hts (.fieldLink RX3 51 "InstructionCoder$Reader" "prefixed" "Z") (by decide +kernel)
  have lk57 := hts (.fieldLink RX3 57 "InstructionCoder$Reader" "prefix" "I") (by decide +kernel)
  have lk60 := hts (.fieldLink RX3 60 "InstructionCoder$Reader" "opcode" "I") (by decide +kernel)
  have hXg := qX_ok tT
  have E := hq
  rw [f_X3_readHead] at E
  refine lv_aload_n hx hb dX3_readHead_0 rfl (lv_at hl 0 rfl) ?_
  refine lv_aload_n hx hb dX3_readHead_1 rfl (lv_at hl 0 rfl) ?_
  refine va_get (D := D) (ci := 3) (v := .ref o_in) (C := RX3) (T := TX3) (N := 9) hx hb hts hi_X3 hown hK hP 0 rfl rfl 0 (by decide) lk12 (fun _ h9 => h9) rfl dX3_readHead_2 ?_
  refine lv_aload_n hx hb dX3_readHead_5 rfl (lv_at hl 0 rfl) ?_
  refine va_get (D := D) (ci := 3) (v := .int o_next) (C := RX3) (T := TX3) (N := 9) hx hb hts hi_X3 hown hK hP 0 rfl rfl 2 (by decide) lk25 (fun _ h9 => h9) rfl dX3_readHead_6 ?_
  refine qw_callV (As := [.int o_next]) (rest := [.ref o]) (ws' := [(o, .inr (3, [.ref o_in, .ref o_into, .int o_next, .int o_failed, .int o_repeated, .int o_pfd, .int o_pfx, .int o_opcode, .int o_form])), (o_in, .inr (2, [.ref o_in_row, .int o_in_count])), (o_in_row, .inl (cI, 16, .inl o_in_row_f))]) (st1 := [.int (f_X2_at o_in_count o_in_row_f o_next), .ref o]) ⟨hx, hb, hml, hown, hts⟩ (c_X2_at l D cI tT o_in o_in_row o_in_count o_in_row_f o_next (f_X2_at o_in_count o_in_row_f o_next) rfl) (cwV 1 hts gX3_readHead_X2_at rfl rfl rfl (by decide +kernel) ⟨Nat.le_of_ble_eq_true rfl, Nat.le_of_ble_eq_true rfl⟩) hXg hK hP hD hS hA hXs [1, 2] rfl rfl  rfl rfl rfl rfl rfl rfl hl.1 rfl (Nat.le_of_ble_eq_true rfl) rfl ⟨Nat.zero_le _, Nat.zero_le _⟩ dX3_readHead_9 (fun H locs hP hD hS => ?_)
  refine lv_sipush (v := (243 : Int32)) hx hb dX3_readHead_12 (by decide) ?_
  have J3 : ∀ (x2 : Int32) (hb_x2 : x2 = 0 ∨ x2 = 1) (ls : Array Slot) (H : Heap) (locs : List Loc), f_X3_readHead_J3 o_next o_failed o_in_count o_in_row_f x2 = (o_next_o, o_failed_o, o_repeated_o, o_pfd_o, o_pfx_o, o_opcode_o) → lv_has ls 1 [(0, .ref o)] → va_P D vwCl [(o, .inr (3, [.ref o_in, .ref o_into, .int o_next, .int o_failed, .int o_repeated, .int o_pfd, .int o_pfx, .int o_opcode, .int o_form])), (o_in, .inr (2, [.ref o_in_row, .int o_in_count])), (o_in_row, .inl (cI, 16, .inl o_in_row_f))] H → va_D A [(o, .inr (3, [.ref o_in, .ref o_into, .int o_next, .int o_failed, .int o_repeated, .int o_pfd, .int o_pfx, .int o_opcode, .int o_form])), (o_in, .inr (2, [.ref o_in_row, .int o_in_count])), (o_in_row, .inl (cI, 16, .inl o_in_row_f))] → va_S A s.heap H locs → W p l e (qr 2 42) s m args below meth c H locs 0 0 Z (F0 m 23 ls [.int x2, .ref o]) := by
    intro x2 hb_x2 ls H locs E hl hP hD hS
    rw [f_X3_readHead_J3] at E
    refine va_put (D := D) (ci := 3) (v := .int x2) (ty := .boolean) (C := RX3) (T := TX3) (N := 9) hx hb hts hi_X3 tyX3 tyX3_ok nmX3 hown hK hP hD hS 0 rfl rfl 4 (by decide) lk48 (fun _ h9 => h9) rfl (by decide +kernel) (qw_b01n hb_x2) (qw_b01f hb_x2) (Nat.le_of_ble_eq_true rfl) dX3_readHead_23 (fun H locs hP hD hS => ?_)
    have hP : va_P D vwCl [(o, .inr (3, [.ref o_in, .ref o_into, .int o_next, .int o_failed, .int x2, .int o_pfd, .int o_pfx, .int o_opcode, .int o_form])), (o_in, .inr (2, [.ref o_in_row, .int o_in_count])), (o_in_row, .inl (cI, 16, .inl o_in_row_f))] H := hP
    have hD : va_D A [(o, .inr (3, [.ref o_in, .ref o_into, .int o_next, .int o_failed, .int x2, .int o_pfd, .int o_pfx, .int o_opcode, .int o_form])), (o_in, .inr (2, [.ref o_in_row, .int o_in_count])), (o_in_row, .inl (cI, 16, .inl o_in_row_f))] := hD
    refine lv_aload_n hx hb dX3_readHead_26 rfl (lv_at hl 0 rfl) ?_
    refine va_get (D := D) (ci := 3) (v := .int x2) (C := RX3) (T := TX3) (N := 9) hx hb hts hi_X3 hown hK hP 0 rfl rfl 4 (by decide) lk48 (fun _ h9 => h9) rfl dX3_readHead_27 ?_
    have J6 : ∀ (x5 : Int32) (ls : Array Slot) (H : Heap) (locs : List Loc), f_X3_readHead_J6 o_failed o_in_count o_in_row_f x2 x5 = (o_next_o, o_failed_o, o_repeated_o, o_pfd_o, o_pfx_o, o_opcode_o) → lv_has ls 1 [(0, .ref o)] → va_P D vwCl [(o, .inr (3, [.ref o_in, .ref o_into, .int x5, .int o_failed, .int x2, .int o_pfd, .int o_pfx, .int o_opcode, .int o_form])), (o_in, .inr (2, [.ref o_in_row, .int o_in_count])), (o_in_row, .inl (cI, 16, .inl o_in_row_f))] H → va_D A [(o, .inr (3, [.ref o_in, .ref o_into, .int x5, .int o_failed, .int x2, .int o_pfd, .int o_pfx, .int o_opcode, .int o_form])), (o_in, .inr (2, [.ref o_in_row, .int o_in_count])), (o_in_row, .inl (cI, 16, .inl o_in_row_f))] → va_S A s.heap H locs → W p l e (qr 2 42) s m args below meth c H locs 0 0 Z (F0 m 43 ls []) := by
      intro x5 ls H locs E hl hP hD hS
      rw [f_X3_readHead_J6] at E
      refine lv_aload_n hx hb dX3_readHead_43 rfl (lv_at hl 0 rfl) ?_
      refine lv_aload_n hx hb dX3_readHead_44 rfl (lv_at hl 0 rfl) ?_
      refine va_get (D := D) (ci := 3) (v := .ref o_in) (C := RX3) (T := TX3) (N := 9) hx hb hts hi_X3 hown hK hP 0 rfl rfl 0 (by decide) lk12 (fun _ h9 => h9) rfl dX3_readHead_45 ?_
      refine lv_aload_n hx hb dX3_readHead_48 rfl (lv_at hl 0 rfl) ?_
      refine va_get (D := D) (ci := 3) (v := .int x5) (C := RX3) (T := TX3) (N := 9) hx hb hts hi_X3 hown hK hP 0 rfl rfl 2 (by decide) lk25 (fun _ h9 => h9) rfl dX3_readHead_49 ?_
      refine qw_callV (As := [.int x5]) (rest := [.ref o]) (ws' := [(o, .inr (3, [.ref o_in, .ref o_into, .int x5, .int o_failed, .int x2, .int o_pfd, .int o_pfx, .int o_opcode, .int o_form])), (o_in, .inr (2, [.ref o_in_row, .int o_in_count])), (o_in_row, .inl (cI, 16, .inl o_in_row_f))]) (st1 := [.int (f_X2_at o_in_count o_in_row_f x5), .ref o]) ⟨hx, hb, hml, hown, hts⟩ (c_X2_at l D cI tT o_in o_in_row o_in_count o_in_row_f x5 (f_X2_at o_in_count o_in_row_f x5) rfl) (cwV 1 hts gX3_readHead_X2_at rfl rfl rfl (by decide +kernel) ⟨Nat.le_of_ble_eq_true rfl, Nat.le_of_ble_eq_true rfl⟩) hXg hK hP hD hS hA hXs [1, 2] rfl rfl  rfl rfl rfl rfl rfl rfl hl.1 rfl (Nat.le_of_ble_eq_true rfl) rfl ⟨Nat.zero_le _, Nat.zero_le _⟩ dX3_readHead_52 (fun H locs hP hD hS => ?_)
      refine lv_bipush (v := (-16 : Int32)) hx hb dX3_readHead_55 (by decide) ?_
      refine lv_iand hx hb dX3_readHead_57 ?_
      refine lv_bipush (v := (64 : Int32)) hx hb dX3_readHead_58 (by decide) ?_
      have J9 : ∀ (x8 : Int32) (hb_x8 : x8 = 0 ∨ x8 = 1) (ls : Array Slot) (H : Heap) (locs : List Loc), f_X3_readHead_J9 o_failed o_in_count o_in_row_f x2 x5 x8 = (o_next_o, o_failed_o, o_repeated_o, o_pfd_o, o_pfx_o, o_opcode_o) → lv_has ls 1 [(0, .ref o)] → va_P D vwCl [(o, .inr (3, [.ref o_in, .ref o_into, .int x5, .int o_failed, .int x2, .int o_pfd, .int o_pfx, .int o_opcode, .int o_form])), (o_in, .inr (2, [.ref o_in_row, .int o_in_count])), (o_in_row, .inl (cI, 16, .inl o_in_row_f))] H → va_D A [(o, .inr (3, [.ref o_in, .ref o_into, .int x5, .int o_failed, .int x2, .int o_pfd, .int o_pfx, .int o_opcode, .int o_form])), (o_in, .inr (2, [.ref o_in_row, .int o_in_count])), (o_in_row, .inl (cI, 16, .inl o_in_row_f))] → va_S A s.heap H locs → W p l e (qr 2 42) s m args below meth c H locs 0 0 Z (F0 m 68 ls [.int x8, .ref o]) := by
        intro x8 hb_x8 ls H locs E hl hP hD hS
        rw [f_X3_readHead_J9] at E
        refine va_put (D := D) (ci := 3) (v := .int x8) (ty := .boolean) (C := RX3) (T := TX3) (N := 9) hx hb hts hi_X3 tyX3 tyX3_ok nmX3 hown hK hP hD hS 0 rfl rfl 5 (by decide) lk51 (fun _ h9 => h9) rfl (by decide +kernel) (qw_b01n hb_x8) (qw_b01f hb_x8) (Nat.le_of_ble_eq_true rfl) dX3_readHead_68 (fun H locs hP hD hS => ?_)
        have hP : va_P D vwCl [(o, .inr (3, [.ref o_in, .ref o_into, .int x5, .int o_failed, .int x2, .int x8, .int o_pfx, .int o_opcode, .int o_form])), (o_in, .inr (2, [.ref o_in_row, .int o_in_count])), (o_in_row, .inl (cI, 16, .inl o_in_row_f))] H := hP
        have hD : va_D A [(o, .inr (3, [.ref o_in, .ref o_into, .int x5, .int o_failed, .int x2, .int x8, .int o_pfx, .int o_opcode, .int o_form])), (o_in, .inr (2, [.ref o_in_row, .int o_in_count])), (o_in_row, .inl (cI, 16, .inl o_in_row_f))] := hD
        refine lv_aload_n hx hb dX3_readHead_71 rfl (lv_at hl 0 rfl) ?_
        refine lv_aload_n hx hb dX3_readHead_72 rfl (lv_at hl 0 rfl) ?_
        refine va_get (D := D) (ci := 3) (v := .int x8) (C := RX3) (T := TX3) (N := 9) hx hb hts hi_X3 hown hK hP 0 rfl rfl 5 (by decide) lk51 (fun _ h9 => h9) rfl dX3_readHead_73 ?_
        have J18 : ∀ (x15 : Int32) (x16 : Int32) (x17 : Int32) (ls : Array Slot) (H : Heap) (locs : List Loc), f_X3_readHead_J18 o_in_count o_in_row_f x2 x8 x15 x16 x17 = (o_next_o, o_failed_o, o_repeated_o, o_pfd_o, o_pfx_o, o_opcode_o) → lv_has ls 1 [(0, .ref o)] → va_P D vwCl [(o, .inr (3, [.ref o_in, .ref o_into, .int x16, .int x17, .int x2, .int x8, .int o_pfx, .int o_opcode, .int o_form])), (o_in, .inr (2, [.ref o_in_row, .int o_in_count])), (o_in_row, .inl (cI, 16, .inl o_in_row_f))] H → va_D A [(o, .inr (3, [.ref o_in, .ref o_into, .int x16, .int x17, .int x2, .int x8, .int o_pfx, .int o_opcode, .int o_form])), (o_in, .inr (2, [.ref o_in_row, .int o_in_count])), (o_in_row, .inl (cI, 16, .inl o_in_row_f))] → va_S A s.heap H locs → W p l e (qr 2 42) s m args below meth c H locs 0 0 Z (F0 m 90 ls [.int x15, .ref o]) := by
          intro x15 x16 x17 ls H locs E hl hP hD hS
          rw [f_X3_readHead_J18] at E
          refine va_put (D := D) (ci := 3) (v := .int x15) (ty := .int) (C := RX3) (T := TX3) (N := 9) hx hb hts hi_X3 tyX3 tyX3_ok nmX3 hown hK hP hD hS 0 rfl rfl 6 (by decide) lk57 (fun _ h9 => h9) rfl (by decide +kernel) rfl rfl (Nat.le_of_ble_eq_true rfl) dX3_readHead_90 (fun H locs hP hD hS => ?_)
          have hP : va_P D vwCl [(o, .inr (3, [.ref o_in, .ref o_into, .int x16, .int x17, .int x2, .int x8, .int x15, .int o_opcode, .int o_form])), (o_in, .inr (2, [.ref o_in_row, .int o_in_count])), (o_in_row, .inl (cI, 16, .inl o_in_row_f))] H := hP
          have hD : va_D A [(o, .inr (3, [.ref o_in, .ref o_into, .int x16, .int x17, .int x2, .int x8, .int x15, .int o_opcode, .int o_form])), (o_in, .inr (2, [.ref o_in_row, .int o_in_count])), (o_in_row, .inl (cI, 16, .inl o_in_row_f))] := hD
          refine lv_aload_n hx hb dX3_readHead_93 rfl (lv_at hl 0 rfl) ?_
          refine lv_aload_n hx hb dX3_readHead_94 rfl (lv_at hl 0 rfl) ?_
          obtain ⟨y19, y20, y21, q22⟩ : ∃ y19 y20 y21, (f_X3_nextOctet x16 x17 o_in_count o_in_row_f) = (y19, y20, y21) := ⟨_, _, _, rfl⟩
          rw [q22] at E
          dsimp only at E
          refine qw_callV (As := []) (rest := [.ref o]) (ws' := [(o, .inr (3, [.ref o_in, .ref o_into, .int y20, .int y21, .int x2, .int x8, .int x15, .int o_opcode, .int o_form])), (o_in, .inr (2, [.ref o_in_row, .int o_in_count])), (o_in_row, .inl (cI, 16, .inl o_in_row_f))]) (st1 := [.int y19, .ref o]) ⟨hx, hb, hml, hown, hts⟩ (c_X3_nextOctet l D cI tT o o_in o_into o_in_row x16 x17 x2 x8 x15 o_opcode o_form o_in_count o_in_row_f y19 y20 y21 q22) (cwV 0 hts gX3_readHead_X3_nextOctet rfl rfl rfl (by decide +kernel) ⟨Nat.le_of_ble_eq_true rfl, Nat.le_of_ble_eq_true rfl⟩) hXg hK hP hD hS hA hXs [0, 1, 2] rfl rfl  rfl rfl rfl rfl rfl rfl hl.1 rfl (Nat.le_of_ble_eq_true rfl) rfl ⟨Nat.zero_le _, Nat.zero_le _⟩ dX3_readHead_95 (fun H locs hP hD hS => ?_)
          refine va_put (D := D) (ci := 3) (v := .int y19) (ty := .int) (C := RX3) (T := TX3) (N := 9) hx hb hts hi_X3 tyX3 tyX3_ok nmX3 hown hK hP hD hS 0 rfl rfl 7 (by decide) lk60 (fun _ h9 => h9) rfl (by decide +kernel) rfl rfl (Nat.le_of_ble_eq_true rfl) dX3_readHead_98 (fun H locs hP hD hS => ?_)
          have hP : va_P D vwCl [(o, .inr (3, [.ref o_in, .ref o_into, .int y20, .int y21, .int x2, .int x8, .int x15, .int y19, .int o_form])), (o_in, .inr (2, [.ref o_in_row, .int o_in_count])), (o_in_row, .inl (cI, 16, .inl o_in_row_f))] H := hP
          have hD : va_D A [(o, .inr (3, [.ref o_in, .ref o_into, .int y20, .int y21, .int x2, .int x8, .int x15, .int y19, .int o_form])), (o_in, .inr (2, [.ref o_in_row, .int o_in_count])), (o_in_row, .inl (cI, 16, .inl o_in_row_f))] := hD
          refine lv_aload_n hx hb dX3_readHead_101 rfl (lv_at hl 0 rfl) ?_
          refine va_get (D := D) (ci := 3) (v := .int y19) (C := RX3) (T := TX3) (N := 9) hx hb hts hi_X3 hown hK hP 0 rfl rfl 7 (by decide) lk60 (fun _ h9 => h9) rfl dX3_readHead_102 ?_
          refine lv_bipush (v := (15 : Int32)) hx hb dX3_readHead_105 (by decide) ?_
          have J31 : ∀ (x28 : Int32) (x29 : Int32) (x30 : Int32) (ls : Array Slot) (H : Heap) (locs : List Loc), f_X3_readHead_J31 x2 x8 x15 x28 x29 x30 = (o_next_o, o_failed_o, o_repeated_o, o_pfd_o, o_pfx_o, o_opcode_o) → lv_has ls 1 [(0, .ref o)] → va_P D vwCl [(o, .inr (3, [.ref o_in, .ref o_into, .int x28, .int x29, .int x2, .int x8, .int x15, .int x30, .int o_form])), (o_in, .inr (2, [.ref o_in_row, .int o_in_count])), (o_in_row, .inl (cI, 16, .inl o_in_row_f))] H → va_D A [(o, .inr (3, [.ref o_in, .ref o_into, .int x28, .int x29, .int x2, .int x8, .int x15, .int x30, .int o_form])), (o_in, .inr (2, [.ref o_in_row, .int o_in_count])), (o_in_row, .inl (cI, 16, .inl o_in_row_f))] → va_S A s.heap H locs → W p l e (qr 2 42) s m args below meth c H locs 0 0 Z (F0 m 122 ls []) := by
            intro x28 x29 x30 ls H locs E hl hP hD hS
            rw [f_X3_readHead_J31] at E
            cases E
            rw [hZ]
            exact qw_vret hx hb hr hlk hP hD hS dX3_readHead_122
          refine lv_icmp_ne (tgt := 122) hx hb dX3_readHead_107 (by decide) (fun c23 => ?_) (fun c23 => ?_)
          · rw [if_neg c23] at E
            exact J31 y20 y21 y19 ls _ _ E (lv_sub hl [0] rfl) hP hD hS
          · rw [if_pos c23] at E
            refine lv_aload_n hx hb dX3_readHead_110 rfl (lv_at hl 0 rfl) ?_
            refine lv_sipush (v := (3840 : Int32)) hx hb dX3_readHead_111 (by decide) ?_
            refine lv_aload_n hx hb dX3_readHead_114 rfl (lv_at hl 0 rfl) ?_
            obtain ⟨y24, y25, y26, q27⟩ : ∃ y24 y25 y26, (f_X3_nextOctet y20 y21 o_in_count o_in_row_f) = (y24, y25, y26) := ⟨_, _, _, rfl⟩
            rw [q27] at E
            dsimp only at E
            refine qw_callV (As := []) (rest := [.int (3840 : Int32), .ref o]) (ws' := [(o, .inr (3, [.ref o_in, .ref o_into, .int y25, .int y26, .int x2, .int x8, .int x15, .int y19, .int o_form])), (o_in, .inr (2, [.ref o_in_row, .int o_in_count])), (o_in_row, .inl (cI, 16, .inl o_in_row_f))]) (st1 := [.int y24, .int (3840 : Int32), .ref o]) ⟨hx, hb, hml, hown, hts⟩ (c_X3_nextOctet l D cI tT o o_in o_into o_in_row y20 y21 x2 x8 x15 y19 o_form o_in_count o_in_row_f y24 y25 y26 q27) (cwV 0 hts gX3_readHead_X3_nextOctet rfl rfl rfl (by decide +kernel) ⟨Nat.le_of_ble_eq_true rfl, Nat.le_of_ble_eq_true rfl⟩) hXg hK hP hD hS hA hXs [0, 1, 2] rfl rfl  rfl rfl rfl rfl rfl rfl hl.1 rfl (Nat.le_of_ble_eq_true rfl) rfl ⟨Nat.zero_le _, Nat.zero_le _⟩ dX3_readHead_115 (fun H locs hP hD hS => ?_)
            refine lv_iadd hx hb dX3_readHead_118 ?_
            refine va_put (D := D) (ci := 3) (v := .int ((3840 : Int32) + y24)) (ty := .int) (C := RX3) (T := TX3) (N := 9) hx hb hts hi_X3 tyX3 tyX3_ok nmX3 hown hK hP hD hS 0 rfl rfl 7 (by decide) lk60 (fun _ h9 => h9) rfl (by decide +kernel) rfl rfl (Nat.le_of_ble_eq_true rfl) dX3_readHead_119 (fun H locs hP hD hS => ?_)
            have hP : va_P D vwCl [(o, .inr (3, [.ref o_in, .ref o_into, .int y25, .int y26, .int x2, .int x8, .int x15, .int ((3840 : Int32) + y24), .int o_form])), (o_in, .inr (2, [.ref o_in_row, .int o_in_count])), (o_in_row, .inl (cI, 16, .inl o_in_row_f))] H := hP
            have hD : va_D A [(o, .inr (3, [.ref o_in, .ref o_into, .int y25, .int y26, .int x2, .int x8, .int x15, .int ((3840 : Int32) + y24), .int o_form])), (o_in, .inr (2, [.ref o_in_row, .int o_in_count])), (o_in_row, .inl (cI, 16, .inl o_in_row_f))] := hD
            exact J31 y25 y26 ((3840 : Int32) + y24) ls _ _ E (lv_sub hl [0] rfl) hP hD hS
        refine lv_if_eq (tgt := 89) hx hb dX3_readHead_76 (by decide) (fun c10 => ?_) (fun c10 => ?_)
        · rw [if_pos c10] at E
          refine lv_iconst (v := (0 : Int32)) hx hb dX3_readHead_89 (by decide) ?_
          exact J18 (0 : Int32) x5 o_failed ls _ _ E (lv_sub hl [0] rfl) hP hD hS
        · rw [if_neg c10] at E
          refine lv_aload_n hx hb dX3_readHead_79 rfl (lv_at hl 0 rfl) ?_
          obtain ⟨y11, y12, y13, q14⟩ : ∃ y11 y12 y13, (f_X3_nextOctet x5 o_failed o_in_count o_in_row_f) = (y11, y12, y13) := ⟨_, _, _, rfl⟩
          rw [q14] at E
          dsimp only at E
          refine qw_callV (As := []) (rest := [.ref o]) (ws' := [(o, .inr (3, [.ref o_in, .ref o_into, .int y12, .int y13, .int x2, .int x8, .int o_pfx, .int o_opcode, .int o_form])), (o_in, .inr (2, [.ref o_in_row, .int o_in_count])), (o_in_row, .inl (cI, 16, .inl o_in_row_f))]) (st1 := [.int y11, .ref o]) ⟨hx, hb, hml, hown, hts⟩ (c_X3_nextOctet l D cI tT o o_in o_into o_in_row x5 o_failed x2 x8 o_pfx o_opcode o_form o_in_count o_in_row_f y11 y12 y13 q14) (cwV 0 hts gX3_readHead_X3_nextOctet rfl rfl rfl (by decide +kernel) ⟨Nat.le_of_ble_eq_true rfl, Nat.le_of_ble_eq_true rfl⟩) hXg hK hP hD hS hA hXs [0, 1, 2] rfl rfl  rfl rfl rfl rfl rfl rfl hl.1 rfl (Nat.le_of_ble_eq_true rfl) rfl ⟨Nat.zero_le _, Nat.zero_le _⟩ dX3_readHead_80 (fun H locs hP hD hS => ?_)
          refine lv_bipush (v := (15 : Int32)) hx hb dX3_readHead_83 (by decide) ?_
          refine lv_iand hx hb dX3_readHead_85 ?_
          refine lv_goto (tgt := 90) hx hb dX3_readHead_86 (by decide) ?_
          exact J18 (y11 &&& (15 : Int32)) y12 y13 ls _ _ E (lv_sub hl [0] rfl) hP hD hS
      refine lv_icmp_ne (tgt := 67) hx hb dX3_readHead_60 (by decide) (fun c7 => ?_) (fun c7 => ?_)
      · rw [if_neg c7] at E
        refine lv_iconst (v := (0 : Int32)) hx hb dX3_readHead_67 (by decide) ?_
        exact J9 (0 : Int32) (Or.inl rfl) ls _ _ E (lv_sub hl [0] rfl) hP hD hS
      · rw [if_pos c7] at E
        refine lv_iconst (v := (1 : Int32)) hx hb dX3_readHead_63 (by decide) ?_
        refine lv_goto (tgt := 68) hx hb dX3_readHead_64 (by decide) ?_
        exact J9 (1 : Int32) (Or.inr rfl) ls _ _ E (lv_sub hl [0] rfl) hP hD hS
    refine lv_if_eq (tgt := 43) hx hb dX3_readHead_30 (by decide) (fun c4 => ?_) (fun c4 => ?_)
    · rw [if_pos c4] at E
      exact J6 o_next ls _ _ E (lv_sub hl [0] rfl) hP hD hS
    · rw [if_neg c4] at E
      refine lv_aload_n hx hb dX3_readHead_33 rfl (lv_at hl 0 rfl) ?_
      refine lv_dup hx hb dX3_readHead_34 rfl ?_
      refine va_get (D := D) (ci := 3) (v := .int o_next) (C := RX3) (T := TX3) (N := 9) hx hb hts hi_X3 hown hK hP 0 rfl rfl 2 (by decide) lk25 (fun _ h9 => h9) rfl dX3_readHead_35 ?_
      refine lv_iconst (v := (1 : Int32)) hx hb dX3_readHead_38 (by decide) ?_
      refine lv_iadd hx hb dX3_readHead_39 ?_
      refine va_put (D := D) (ci := 3) (v := .int (o_next + (1 : Int32))) (ty := .int) (C := RX3) (T := TX3) (N := 9) hx hb hts hi_X3 tyX3 tyX3_ok nmX3 hown hK hP hD hS 0 rfl rfl 2 (by decide) lk25 (fun _ h9 => h9) rfl (by decide +kernel) rfl rfl (Nat.le_of_ble_eq_true rfl) dX3_readHead_40 (fun H locs hP hD hS => ?_)
      have hP : va_P D vwCl [(o, .inr (3, [.ref o_in, .ref o_into, .int (o_next + (1 : Int32)), .int o_failed, .int x2, .int o_pfd, .int o_pfx, .int o_opcode, .int o_form])), (o_in, .inr (2, [.ref o_in_row, .int o_in_count])), (o_in_row, .inl (cI, 16, .inl o_in_row_f))] H := hP
      have hD : va_D A [(o, .inr (3, [.ref o_in, .ref o_into, .int (o_next + (1 : Int32)), .int o_failed, .int x2, .int o_pfd, .int o_pfx, .int o_opcode, .int o_form])), (o_in, .inr (2, [.ref o_in_row, .int o_in_count])), (o_in_row, .inl (cI, 16, .inl o_in_row_f))] := hD
      exact J6 (o_next + (1 : Int32)) ls _ _ E (lv_sub hl [0] rfl) hP hD hS
  refine lv_icmp_ne (tgt := 22) hx hb dX3_readHead_15 (by decide) (fun c1 => ?_) (fun c1 => ?_)
  · rw [if_neg c1] at E
    refine lv_iconst (v := (0 : Int32)) hx hb dX3_readHead_22 (by decide) ?_
    exact J3 (0 : Int32) (Or.inl rfl) ls _ _ E (lv_sub hl [0] rfl) hP hD hS
  · rw [if_pos c1] at E
    refine lv_iconst (v := (1 : Int32)) hx hb dX3_readHead_18 (by decide) ?_
    refine lv_goto (tgt := 23) hx hb dX3_readHead_19 (by decide) ?_
    exact J3 (1 : Int32) (Or.inr rfl) ls _ _ E (lv_sub hl [0] rfl) hP hD hS
def f_X3_readInstruction_J28 (y3 : Int32) (y4 : Int32) (y5 : Int32) (y6 : Int32) (y12 : Int32) (y13 : Int32) (y14 : Int32) (y15 : Int32) (y16 : Int32) (y17 : Int32) (y18 : Int64) (y19 : (Nat → Int32)) (y20 : (Nat → Int32)) (y21 : Int32) (y22 : Int32) (y23 : Int32) (y24 : Int32) (x27 : Int32) : Int32 × Int32 × Int32 × Int32 × Int32 × Int32 × Int32 × Int32 × Int32 × Int32 × Int32 × Int64 × (Nat → Int32) × (Nat → Int32) × Int32 × Int32 × Int32 × Int32 := ((x27, y12, y13, y3, y4, y5, y6, y14, y15, y16, y17, y18, y19, y20, y21, y22, y23, y24))
def f_X3_readInstruction_J10 (o_form : Int32) (o_in_count : Int32) (o_in_row_f : (Nat → Int32)) (o_into_op : Int32) (o_into_size : Int32) (o_into_cond : Int32) (o_into_number : Int64) (o_into_kinds_f : (Nat → Int32)) (o_into_regs_f : (Nat → Int32)) (o_into_memory_base : Int32) (o_into_memory_index : Int32) (o_into_memory_scale : Int32) (o_into_memory_disp : Int32) (y1 : Int32) (y2 : Int32) (y3 : Int32) (y4 : Int32) (y5 : Int32) (y6 : Int32) (x9 : Int32) : Int32 × Int32 × Int32 × Int32 × Int32 × Int32 × Int32 × Int32 × Int32 × Int32 × Int32 × Int64 × (Nat → Int32) × (Nat → Int32) × Int32 × Int32 × Int32 × Int32 := (if x9 = (-1 : Int32) then (((0 : Int32), y1, y2, y3, y4, y5, y6, o_form, o_into_op, o_into_size, o_into_cond, o_into_number, o_into_kinds_f, o_into_regs_f, o_into_memory_base, o_into_memory_index, o_into_memory_scale, o_into_memory_disp)) else (match (f_X3_readLine y1 y2 y4 y5 y6 o_form o_in_count o_in_row_f o_into_kinds_f o_into_regs_f x9) with | (y12, y13, y14, y15, y16, y17, y18, y19, y20, y21, y22, y23, y24) => (if y13 = 0 then (f_X3_readInstruction_J28 y3 y4 y5 y6 y12 y13 y14 y15 y16 y17 y18 y19 y20 y21 y22 y23 y24 y12) else (f_X3_readInstruction_J28 y3 y4 y5 y6 y12 y13 y14 y15 y16 y17 y18 y19 y20 y21 y22 y23 y24 (0 : Int32)))))
def f_X3_readInstruction (o_form : Int32) (o_in_count : Int32) (o_in_row_f : (Nat → Int32)) (o_into_op : Int32) (o_into_size : Int32) (o_into_cond : Int32) (o_into_number : Int64) (o_into_kinds_f : (Nat → Int32)) (o_into_regs_f : (Nat → Int32)) (o_into_memory_base : Int32) (o_into_memory_index : Int32) (o_into_memory_scale : Int32) (o_into_memory_disp : Int32) : Int32 × Int32 × Int32 × Int32 × Int32 × Int32 × Int32 × Int32 × Int32 × Int32 × Int32 × Int64 × (Nat → Int32) × (Nat → Int32) × Int32 × Int32 × Int32 × Int32 := (match (f_X3_readHead (0 : Int32) (0 : Int32) o_in_count o_in_row_f) with | (y1, y2, y3, y4, y5, y6) => (if y2 = 0 then (f_X3_readInstruction_J10 o_form o_in_count o_in_row_f o_into_op o_into_size o_into_cond o_into_number o_into_kinds_f o_into_regs_f o_into_memory_base o_into_memory_index o_into_memory_scale o_into_memory_disp y1 y2 y3 y4 y5 y6 (f_X3_findLine y1 y3 y5 y6 o_in_count o_in_row_f)) else (f_X3_readInstruction_J10 o_form o_in_count o_in_row_f o_into_op o_into_size o_into_cond o_into_number o_into_kinds_f o_into_regs_f o_into_memory_base o_into_memory_index o_into_memory_scale o_into_memory_disp y1 y2 y3 y4 y5 y6 (-1 : Int32))))
set_option maxHeartbeats 4000000 in
set_option maxRecDepth 100000 in
theorem c_X3_readInstruction (l : Launch) (D : va_G) (cI : ClassId) (tT : Nat) (o : Nat) (o_in : Nat) (o_into : Nat) (o_in_row : Nat) (o_into_kinds : Nat) (o_into_regs : Nat) (o_into_memory : Nat) (o_next : Int32) (o_failed : Int32) (o_repeated : Int32) (o_pfd : Int32) (o_pfx : Int32) (o_opcode : Int32) (o_form : Int32) (o_in_count : Int32) (o_in_row_f : (Nat → Int32)) (o_into_op : Int32) (o_into_size : Int32) (o_into_cond : Int32) (o_into_number : Int64) (o_into_kinds_f : (Nat → Int32)) (o_into_regs_f : (Nat → Int32)) (o_into_memory_base : Int32) (o_into_memory_index : Int32) (o_into_memory_scale : Int32) (o_into_memory_disp : Int32) (r_o : Int32) (o_next_o : Int32) (o_failed_o : Int32) (o_repeated_o : Int32) (o_pfd_o : Int32) (o_pfx_o : Int32) (o_opcode_o : Int32) (o_form_o : Int32) (o_into_op_o : Int32) (o_into_size_o : Int32) (o_into_cond_o : Int32) (o_into_number_o : Int64) (o_into_kinds_f_o : (Nat → Int32)) (o_into_regs_f_o : (Nat → Int32)) (o_into_memory_base_o : Int32) (o_into_memory_index_o : Int32) (o_into_memory_scale_o : Int32) (o_into_memory_disp_o : Int32) (hq : f_X3_readInstruction o_form o_in_count o_in_row_f o_into_op o_into_size o_into_cond o_into_number o_into_kinds_f o_into_regs_f o_into_memory_base o_into_memory_index o_into_memory_scale o_into_memory_disp = (r_o, o_next_o, o_failed_o, o_repeated_o, o_pfd_o, o_pfx_o, o_opcode_o, o_form_o, o_into_op_o, o_into_size_o, o_into_cond_o, o_into_number_o, o_into_kinds_f_o, o_into_regs_f_o, o_into_memory_base_o, o_into_memory_index_o, o_into_memory_scale_o, o_into_memory_disp_o)) : qM l yX3_readInstruction wsX3_readInstruction (qr 5 117) (qX tT) D vwCl [(cI, .int)] [(o, .inr (3, [.ref o_in, .ref o_into, .int o_next, .int o_failed, .int o_repeated, .int o_pfd, .int o_pfx, .int o_opcode, .int o_form])), (o_in, .inr (2, [.ref o_in_row, .int o_in_count])), (o_in_row, .inl (cI, 16, .inl o_in_row_f)), (o_into, .inr (0, [.int o_into_op, .int o_into_size, .int o_into_cond, .long o_into_number, .ref o_into_kinds, .ref o_into_regs, .ref o_into_memory])), (o_into_kinds, .inl (cI, 3, .inl o_into_kinds_f)), (o_into_regs, .inl (cI, 3, .inl o_into_regs_f)), (o_into_memory, .inr (1, [.int o_into_memory_base, .int o_into_memory_index, .int o_into_memory_scale, .int o_into_memory_disp]))] [.ref o] (some (.int r_o)) [(o, .inr (3, [.ref o_in, .ref o_into, .int o_next_o, .int o_failed_o, .int o_repeated_o, .int o_pfd_o, .int o_pfx_o, .int o_opcode_o, .int o_form_o])), (o_in, .inr (2, [.ref o_in_row, .int o_in_count])), (o_in_row, .inl (cI, 16, .inl o_in_row_f)), (o_into, .inr (0, [.int o_into_op_o, .int o_into_size_o, .int o_into_cond_o, .long o_into_number_o, .ref o_into_kinds, .ref o_into_regs, .ref o_into_memory])), (o_into_kinds, .inl (cI, 3, .inl o_into_kinds_f_o)), (o_into_regs, .inl (cI, 3, .inl o_into_regs_f_o)), (o_into_memory, .inr (1, [.int o_into_memory_base_o, .int o_into_memory_index_o, .int o_into_memory_scale_o, .int o_into_memory_disp_o]))] := by
  refine qM_of (cc := cX3_readInstruction) (maxL := 2) (ret := (some .int)) (by decide) rfl (Nat.le_of_ble_eq_true rfl) ?_
  intro p e s m args below meth c A ls Z hx hb hml hr hts hown hlk hK hA hXs hP hD hS hl hZ
  have hown : s.vm.findClass RX3 = some m.cls := hown
  have hl : lv_has ls 2 [(0, .ref o)] := hl
  have hi_X3 : ∀ w ∈ wsX30, w ∈ wsX3_readInstruction := by decide +kernel
  have lk25 := hts (.fieldLink RX3 25 "InstructionCoder$Reader" "next" "I") (by decide +kernel)
  have lk29 := hts (.fieldLink RX3 29 "InstructionCoder$Reader" "failed" "Z") (by decide +kernel)
  have hXg := qX_ok tT
  have E := hq
  rw [f_X3_readInstruction] at E
  refine lv_aload_n hx hb dX3_readInstruction_0 rfl (lv_at hl 0 rfl) ?_
  refine lv_iconst (v := (0 : Int32)) hx hb dX3_readInstruction_1 (by decide) ?_
  refine va_put (D := D) (ci := 3) (v := .int (0 : Int32)) (ty := .int) (C := RX3) (T := TX3) (N := 9) hx hb hts hi_X3 tyX3 tyX3_ok nmX3 hown hK hP hD hS 0 rfl rfl 2 (by decide) lk25 (fun _ h9 => h9) rfl (by decide +kernel) rfl rfl (Nat.le_of_ble_eq_true rfl) dX3_readInstruction_2 (fun H locs hP hD hS => ?_)
  have hP : va_P D vwCl [(o, .inr (3, [.ref o_in, .ref o_into, .int (0 : Int32), .int o_failed, .int o_repeated, .int o_pfd, .int o_pfx, .int o_opcode, .int o_form])), (o_in, .inr (2, [.ref o_in_row, .int o_in_count])), (o_in_row, .inl (cI, 16, .inl o_in_row_f)), (o_into, .inr (0, [.int o_into_op, .int o_into_size, .int o_into_cond, .long o_into_number, .ref o_into_kinds, .ref o_into_regs, .ref o_into_memory])), (o_into_kinds, .inl (cI, 3, .inl o_into_kinds_f)), (o_into_regs, .inl (cI, 3, .inl o_into_regs_f)), (o_into_memory, .inr (1, [.int o_into_memory_base, .int o_into_memory_index, .int o_into_memory_scale, .int o_into_memory_disp]))] H := hP
  have hD : va_D A [(o, .inr (3, [.ref o_in, .ref o_into, .int (0 : Int32), .int o_failed, .int o_repeated, .int o_pfd, .int o_pfx, .int o_opcode, .int o_form])), (o_in, .inr (2, [.ref o_in_row, .int o_in_count])), (o_in_row, .inl (cI, 16, .inl o_in_row_f)), (o_into, .inr (0, [.int o_into_op, .int o_into_size, .int o_into_cond, .long o_into_number, .ref o_into_kinds, .ref o_into_regs, .ref o_into_memory])), (o_into_kinds, .inl (cI, 3, .inl o_into_kinds_f)), (o_into_regs, .inl (cI, 3, .inl o_into_regs_f)), (o_into_memory, .inr (1, [.int o_into_memory_base, .int o_into_memory_index, .int o_into_memory_scale, .int o_into_memory_disp]))] := hD
  refine lv_aload_n hx hb dX3_readInstruction_5 rfl (lv_at hl 0 rfl) ?_
  refine lv_iconst (v := (0 : Int32)) hx hb dX3_readInstruction_6 (by decide) ?_
  refine va_put (D := D) (ci := 3) (v := .int (0 : Int32)) (ty := .boolean) (C := RX3) (T := TX3) (N := 9) hx hb hts hi_X3 tyX3 tyX3_ok nmX3 hown hK hP hD hS 0 rfl rfl 3 (by decide) lk29 (fun _ h9 => h9) rfl (by decide +kernel) rfl rfl (Nat.le_of_ble_eq_true rfl) dX3_readInstruction_7 (fun H locs hP hD hS => ?_)
  have hP : va_P D vwCl [(o, .inr (3, [.ref o_in, .ref o_into, .int (0 : Int32), .int (0 : Int32), .int o_repeated, .int o_pfd, .int o_pfx, .int o_opcode, .int o_form])), (o_in, .inr (2, [.ref o_in_row, .int o_in_count])), (o_in_row, .inl (cI, 16, .inl o_in_row_f)), (o_into, .inr (0, [.int o_into_op, .int o_into_size, .int o_into_cond, .long o_into_number, .ref o_into_kinds, .ref o_into_regs, .ref o_into_memory])), (o_into_kinds, .inl (cI, 3, .inl o_into_kinds_f)), (o_into_regs, .inl (cI, 3, .inl o_into_regs_f)), (o_into_memory, .inr (1, [.int o_into_memory_base, .int o_into_memory_index, .int o_into_memory_scale, .int o_into_memory_disp]))] H := hP
  have hD : va_D A [(o, .inr (3, [.ref o_in, .ref o_into, .int (0 : Int32), .int (0 : Int32), .int o_repeated, .int o_pfd, .int o_pfx, .int o_opcode, .int o_form])), (o_in, .inr (2, [.ref o_in_row, .int o_in_count])), (o_in_row, .inl (cI, 16, .inl o_in_row_f)), (o_into, .inr (0, [.int o_into_op, .int o_into_size, .int o_into_cond, .long o_into_number, .ref o_into_kinds, .ref o_into_regs, .ref o_into_memory])), (o_into_kinds, .inl (cI, 3, .inl o_into_kinds_f)), (o_into_regs, .inl (cI, 3, .inl o_into_regs_f)), (o_into_memory, .inr (1, [.int o_into_memory_base, .int o_into_memory_index, .int o_into_memory_scale, .int o_into_memory_disp]))] := hD
  refine lv_aload_n hx hb dX3_readInstruction_10 rfl (lv_at hl 0 rfl) ?_
  obtain ⟨y1, y2, y3, y4, y5, y6, q7⟩ : ∃ y1 y2 y3 y4 y5 y6, (f_X3_readHead (0 : Int32) (0 : Int32) o_in_count o_in_row_f) = (y1, y2, y3, y4, y5, y6) := ⟨_, _, _, _, _, _, rfl⟩
  rw [q7] at E
  dsimp only at E
  refine qw_callV (As := []) (rest := []) (ws' := [(o, .inr (3, [.ref o_in, .ref o_into, .int y1, .int y2, .int y3, .int y4, .int y5, .int y6, .int o_form])), (o_in, .inr (2, [.ref o_in_row, .int o_in_count])), (o_in_row, .inl (cI, 16, .inl o_in_row_f)), (o_into, .inr (0, [.int o_into_op, .int o_into_size, .int o_into_cond, .long o_into_number, .ref o_into_kinds, .ref o_into_regs, .ref o_into_memory])), (o_into_kinds, .inl (cI, 3, .inl o_into_kinds_f)), (o_into_regs, .inl (cI, 3, .inl o_into_regs_f)), (o_into_memory, .inr (1, [.int o_into_memory_base, .int o_into_memory_index, .int o_into_memory_scale, .int o_into_memory_disp]))]) (st1 := []) ⟨hx, hb, hml, hown, hts⟩ (c_X3_readHead l D cI tT o o_in o_into o_in_row (0 : Int32) (0 : Int32) o_repeated o_pfd o_pfx o_opcode o_form o_in_count o_in_row_f y1 y2 y3 y4 y5 y6 q7) (cwV 0 hts gX3_readInstruction_X3_readHead rfl rfl rfl (by decide +kernel) ⟨Nat.le_of_ble_eq_true rfl, Nat.le_of_ble_eq_true rfl⟩) hXg hK hP hD hS hA hXs [0, 1, 2] rfl rfl  rfl rfl rfl rfl rfl rfl hl.1 rfl (Nat.le_of_ble_eq_true rfl) rfl ⟨Nat.zero_le _, Nat.zero_le _⟩ dX3_readInstruction_11 (fun H locs hP hD hS => ?_)
  refine lv_aload_n hx hb dX3_readInstruction_14 rfl (lv_at hl 0 rfl) ?_
  refine va_get (D := D) (ci := 3) (v := .int y2) (C := RX3) (T := TX3) (N := 9) hx hb hts hi_X3 hown hK hP 0 rfl rfl 3 (by decide) lk29 (fun _ h9 => h9) rfl dX3_readInstruction_15 ?_
  have J10 : ∀ (x9 : Int32) (ls : Array Slot) (H : Heap) (locs : List Loc), f_X3_readInstruction_J10 o_form o_in_count o_in_row_f o_into_op o_into_size o_into_cond o_into_number o_into_kinds_f o_into_regs_f o_into_memory_base o_into_memory_index o_into_memory_scale o_into_memory_disp y1 y2 y3 y4 y5 y6 x9 = (r_o, o_next_o, o_failed_o, o_repeated_o, o_pfd_o, o_pfx_o, o_opcode_o, o_form_o, o_into_op_o, o_into_size_o, o_into_cond_o, o_into_number_o, o_into_kinds_f_o, o_into_regs_f_o, o_into_memory_base_o, o_into_memory_index_o, o_into_memory_scale_o, o_into_memory_disp_o) → lv_has ls 2 [(0, .ref o)] → va_P D vwCl [(o, .inr (3, [.ref o_in, .ref o_into, .int y1, .int y2, .int y3, .int y4, .int y5, .int y6, .int o_form])), (o_in, .inr (2, [.ref o_in_row, .int o_in_count])), (o_in_row, .inl (cI, 16, .inl o_in_row_f)), (o_into, .inr (0, [.int o_into_op, .int o_into_size, .int o_into_cond, .long o_into_number, .ref o_into_kinds, .ref o_into_regs, .ref o_into_memory])), (o_into_kinds, .inl (cI, 3, .inl o_into_kinds_f)), (o_into_regs, .inl (cI, 3, .inl o_into_regs_f)), (o_into_memory, .inr (1, [.int o_into_memory_base, .int o_into_memory_index, .int o_into_memory_scale, .int o_into_memory_disp]))] H → va_D A [(o, .inr (3, [.ref o_in, .ref o_into, .int y1, .int y2, .int y3, .int y4, .int y5, .int y6, .int o_form])), (o_in, .inr (2, [.ref o_in_row, .int o_in_count])), (o_in_row, .inl (cI, 16, .inl o_in_row_f)), (o_into, .inr (0, [.int o_into_op, .int o_into_size, .int o_into_cond, .long o_into_number, .ref o_into_kinds, .ref o_into_regs, .ref o_into_memory])), (o_into_kinds, .inl (cI, 3, .inl o_into_kinds_f)), (o_into_regs, .inl (cI, 3, .inl o_into_regs_f)), (o_into_memory, .inr (1, [.int o_into_memory_base, .int o_into_memory_index, .int o_into_memory_scale, .int o_into_memory_disp]))] → va_S A s.heap H locs → W p l e (qr 5 117) s m args below meth c H locs 0 0 Z (F0 m 29 ls [.int x9]) := by
    intro x9 ls H locs E hl hP hD hS
    rw [f_X3_readInstruction_J10] at E
    refine lv_istore_n (lv' := [(1, .int x9), (0, .ref o)]) hx hb dX3_readInstruction_29 rfl hl (by decide) rfl (fun ls hl => ?_)
    refine lv_iload_n hx hb dX3_readInstruction_30 rfl (lv_at hl 0 rfl) ?_
    refine lv_iconst (v := (-1 : Int32)) hx hb dX3_readInstruction_31 (by decide) ?_
    refine lv_icmp_ne (tgt := 37) hx hb dX3_readInstruction_32 (by decide) (fun c11 => ?_) (fun c11 => ?_)
    · rw [if_neg c11] at E
      refine lv_aload_n hx hb dX3_readInstruction_37 rfl (lv_at hl 1 rfl) ?_
      refine lv_iload_n hx hb dX3_readInstruction_38 rfl (lv_at hl 0 rfl) ?_
      obtain ⟨y12, y13, y14, y15, y16, y17, y18, y19, y20, y21, y22, y23, y24, q25⟩ : ∃ y12 y13 y14 y15 y16 y17 y18 y19 y20 y21 y22 y23 y24, (f_X3_readLine y1 y2 y4 y5 y6 o_form o_in_count o_in_row_f o_into_kinds_f o_into_regs_f x9) = (y12, y13, y14, y15, y16, y17, y18, y19, y20, y21, y22, y23, y24) := ⟨_, _, _, _, _, _, _, _, _, _, _, _, _, rfl⟩
      rw [q25] at E
      dsimp only at E
      refine qw_callV (As := [.int x9]) (rest := []) (ws' := [(o, .inr (3, [.ref o_in, .ref o_into, .int y12, .int y13, .int y3, .int y4, .int y5, .int y6, .int y14])), (o_in, .inr (2, [.ref o_in_row, .int o_in_count])), (o_in_row, .inl (cI, 16, .inl o_in_row_f)), (o_into, .inr (0, [.int y15, .int y16, .int y17, .long y18, .ref o_into_kinds, .ref o_into_regs, .ref o_into_memory])), (o_into_kinds, .inl (cI, 3, .inl y19)), (o_into_regs, .inl (cI, 3, .inl y20)), (o_into_memory, .inr (1, [.int y21, .int y22, .int y23, .int y24]))]) (st1 := []) ⟨hx, hb, hml, hown, hts⟩ (c_X3_readLine l D cI tT o o_in o_into o_in_row o_into_kinds o_into_regs o_into_memory y1 y2 y3 y4 y5 y6 o_form o_in_count o_in_row_f o_into_op o_into_size o_into_cond o_into_number o_into_kinds_f o_into_regs_f o_into_memory_base o_into_memory_index o_into_memory_scale o_into_memory_disp x9 y12 y13 y14 y15 y16 y17 y18 y19 y20 y21 y22 y23 y24 q25) (cwV 1 hts gX3_readInstruction_X3_readLine rfl rfl rfl (by decide +kernel) ⟨Nat.le_of_ble_eq_true rfl, Nat.le_of_ble_eq_true rfl⟩) hXg hK hP hD hS hA hXs [0, 1, 2, 3, 4, 5, 6] rfl rfl  rfl rfl rfl rfl rfl rfl hl.1 rfl (Nat.le_of_ble_eq_true rfl) rfl ⟨Nat.zero_le _, Nat.zero_le _⟩ dX3_readInstruction_39 (fun H locs hP hD hS => ?_)
      refine lv_aload_n hx hb dX3_readInstruction_42 rfl (lv_at hl 1 rfl) ?_
      refine va_get (D := D) (ci := 3) (v := .int y13) (C := RX3) (T := TX3) (N := 9) hx hb hts hi_X3 hown hK hP 0 rfl rfl 3 (by decide) lk29 (fun _ h9 => h9) rfl dX3_readInstruction_43 ?_
      have J28 : ∀ (x27 : Int32) (ls : Array Slot) (H : Heap) (locs : List Loc), f_X3_readInstruction_J28 y3 y4 y5 y6 y12 y13 y14 y15 y16 y17 y18 y19 y20 y21 y22 y23 y24 x27 = (r_o, o_next_o, o_failed_o, o_repeated_o, o_pfd_o, o_pfx_o, o_opcode_o, o_form_o, o_into_op_o, o_into_size_o, o_into_cond_o, o_into_number_o, o_into_kinds_f_o, o_into_regs_f_o, o_into_memory_base_o, o_into_memory_index_o, o_into_memory_scale_o, o_into_memory_disp_o) → lv_has ls 2 [(1, .int x9), (0, .ref o)] → va_P D vwCl [(o, .inr (3, [.ref o_in, .ref o_into, .int y12, .int y13, .int y3, .int y4, .int y5, .int y6, .int y14])), (o_in, .inr (2, [.ref o_in_row, .int o_in_count])), (o_in_row, .inl (cI, 16, .inl o_in_row_f)), (o_into, .inr (0, [.int y15, .int y16, .int y17, .long y18, .ref o_into_kinds, .ref o_into_regs, .ref o_into_memory])), (o_into_kinds, .inl (cI, 3, .inl y19)), (o_into_regs, .inl (cI, 3, .inl y20)), (o_into_memory, .inr (1, [.int y21, .int y22, .int y23, .int y24]))] H → va_D A [(o, .inr (3, [.ref o_in, .ref o_into, .int y12, .int y13, .int y3, .int y4, .int y5, .int y6, .int y14])), (o_in, .inr (2, [.ref o_in_row, .int o_in_count])), (o_in_row, .inl (cI, 16, .inl o_in_row_f)), (o_into, .inr (0, [.int y15, .int y16, .int y17, .long y18, .ref o_into_kinds, .ref o_into_regs, .ref o_into_memory])), (o_into_kinds, .inl (cI, 3, .inl y19)), (o_into_regs, .inl (cI, 3, .inl y20)), (o_into_memory, .inr (1, [.int y21, .int y22, .int y23, .int y24]))] → va_S A s.heap H locs → W p l e (qr 5 117) s m args below meth c H locs 0 0 Z (F0 m 57 ls [.int x27]) := by
        intro x27 ls H locs E hl hP hD hS
        rw [f_X3_readInstruction_J28] at E
        cases E
        rw [hZ]
        exact qw_iret hx hb hr hlk hP hD hS dX3_readInstruction_57
      refine lv_if_eq (tgt := 53) hx hb dX3_readInstruction_46 (by decide) (fun c26 => ?_) (fun c26 => ?_)
      · rw [if_pos c26] at E
        refine lv_aload_n hx hb dX3_readInstruction_53 rfl (lv_at hl 1 rfl) ?_
        refine va_get (D := D) (ci := 3) (v := .int y12) (C := RX3) (T := TX3) (N := 9) hx hb hts hi_X3 hown hK hP 0 rfl rfl 2 (by decide) lk25 (fun _ h9 => h9) rfl dX3_readInstruction_54 ?_
        exact J28 y12 ls _ _ E (lv_sub hl [0, 1] rfl) hP hD hS
      · rw [if_neg c26] at E
        refine lv_iconst (v := (0 : Int32)) hx hb dX3_readInstruction_49 (by decide) ?_
        refine lv_goto (tgt := 57) hx hb dX3_readInstruction_50 (by decide) ?_
        exact J28 (0 : Int32) ls _ _ E (lv_sub hl [0, 1] rfl) hP hD hS
    · rw [if_pos c11] at E
      refine lv_iconst (v := (0 : Int32)) hx hb dX3_readInstruction_35 (by decide) ?_
      cases E
      rw [hZ]
      exact qw_iret hx hb hr hlk hP hD hS dX3_readInstruction_36
  refine lv_if_eq (tgt := 25) hx hb dX3_readInstruction_18 (by decide) (fun c8 => ?_) (fun c8 => ?_)
  · rw [if_pos c8] at E
    refine lv_aload_n hx hb dX3_readInstruction_25 rfl (lv_at hl 0 rfl) ?_
    refine qw_callV (As := []) (rest := []) (ws' := [(o, .inr (3, [.ref o_in, .ref o_into, .int y1, .int y2, .int y3, .int y4, .int y5, .int y6, .int o_form])), (o_in, .inr (2, [.ref o_in_row, .int o_in_count])), (o_in_row, .inl (cI, 16, .inl o_in_row_f)), (o_into, .inr (0, [.int o_into_op, .int o_into_size, .int o_into_cond, .long o_into_number, .ref o_into_kinds, .ref o_into_regs, .ref o_into_memory])), (o_into_kinds, .inl (cI, 3, .inl o_into_kinds_f)), (o_into_regs, .inl (cI, 3, .inl o_into_regs_f)), (o_into_memory, .inr (1, [.int o_into_memory_base, .int o_into_memory_index, .int o_into_memory_scale, .int o_into_memory_disp]))]) (st1 := [.int (f_X3_findLine y1 y3 y5 y6 o_in_count o_in_row_f)]) ⟨hx, hb, hml, hown, hts⟩ (c_X3_findLine l D cI tT o o_in o_into o_in_row y1 y2 y3 y4 y5 y6 o_form o_in_count o_in_row_f (f_X3_findLine y1 y3 y5 y6 o_in_count o_in_row_f) rfl) (cwV 0 hts gX3_readInstruction_X3_findLine rfl rfl rfl (by decide +kernel) ⟨Nat.le_of_ble_eq_true rfl, Nat.le_of_ble_eq_true rfl⟩) hXg hK hP hD hS hA hXs [0, 1, 2] rfl rfl  rfl rfl rfl rfl rfl rfl hl.1 rfl (Nat.le_of_ble_eq_true rfl) rfl ⟨Nat.zero_le _, Nat.zero_le _⟩ dX3_readInstruction_26 (fun H locs hP hD hS => ?_)
    exact J10 (f_X3_findLine y1 y3 y5 y6 o_in_count o_in_row_f) ls _ _ E (lv_sub hl [0] rfl) hP hD hS
  · rw [if_neg c8] at E
    refine lv_iconst (v := (-1 : Int32)) hx hb dX3_readInstruction_21 (by decide) ?_
    refine lv_goto (tgt := 29) hx hb dX3_readInstruction_22 (by decide) ?_
    exact J10 (-1 : Int32) ls _ _ E (lv_sub hl [0] rfl) hP hD hS
