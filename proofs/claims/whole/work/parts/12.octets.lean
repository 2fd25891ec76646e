def f_X2_clear  : Int32 := ((0 : Int32))
set_option maxHeartbeats 4000000 in
set_option maxRecDepth 100000 in
theorem c_X2_clear (l : Launch) (D : va_G) (cI : ClassId) (tT : Nat) (o : Nat) (o_row : Nat) (o_count : Int32) (o_count_o : Int32) (hq : f_X2_clear = o_count_o) : qM l yX2_clear wsX2_clear (qr 0 0) (qX tT) D vwCl [(cI, .int)] [(o, .inr (2, [.ref o_row, .int o_count]))] [.ref o] none [(o, .inr (2, [.ref o_row, .int o_count_o]))] := by
  refine qM_of (cc := cX2_clear) (maxL := 1) (ret := none) (by decide) rfl (Nat.le_of_ble_eq_true rfl) ?_
  intro p e s m args below meth c A ls Z hx hb hml hr hts hown hlk hK hA hXs hP hD hS hl hZ
  have hown : s.vm.findClass RX2 = some m.cls := hown
  have hl : lv_has ls 1 [(0, .ref o)] := hl
  have hi_X2 : ∀ w ∈ wsX20, w ∈ wsX2_clear := by decide +kernel
  have lk13 := hts (.fieldLink RX2 13 "InstructionCoder$Octets" "count" "I") (by decide +kernel)
  have E := hq
  rw [f_X2_clear] at E
  refine lv_aload_n hx hb dX2_clear_0 rfl (lv_at hl 0 rfl) ?_
  refine lv_iconst (v := (0 : Int32)) hx hb dX2_clear_1 (by decide) ?_
  refine va_put (D := D) (ci := 2) (v := .int (0 : Int32)) (ty := .int) (C := RX2) (T := TX2) (N := 2) hx hb hts hi_X2 tyX2 tyX2_ok nmX2 hown hK hP hD hS 0 rfl rfl 1 (by decide) lk13 (fun _ h9 => h9) rfl (by decide +kernel) rfl rfl (Nat.le_of_ble_eq_true rfl) dX2_clear_2 (fun H locs hP hD hS => ?_)
  have hP : va_P D vwCl [(o, .inr (2, [.ref o_row, .int (0 : Int32)]))] H := hP
  have hD : va_D A [(o, .inr (2, [.ref o_row, .int (0 : Int32)]))] := hD
  cases E
  rw [hZ]
  exact qw_vret hx hb hr hlk hP hD hS dX2_clear_5
def f_X2_room (o_count : Int32) : Int32 := (((16 : Int32) - o_count))
set_option maxHeartbeats 4000000 in
set_option maxRecDepth 100000 in
theorem c_X2_room (l : Launch) (D : va_G) (cI : ClassId) (tT : Nat) (o : Nat) (o_row : Nat) (o_count : Int32) (r_o : Int32) (hq : f_X2_room o_count = r_o) : qM l yX2_room wsX2_room (qr 0 0) (qX tT) D vwCl [(cI, .int)] [(o, .inr (2, [.ref o_row, .int o_count]))] [.ref o] (some (.int r_o)) [(o, .inr (2, [.ref o_row, .int o_count]))] := by
  refine qM_of (cc := cX2_room) (maxL := 1) (ret := (some .int)) (by decide) rfl (Nat.le_of_ble_eq_true rfl) ?_
  intro p e s m args below meth c A ls Z hx hb hml hr hts hown hlk hK hA hXs hP hD hS hl hZ
  have hown : s.vm.findClass RX2 = some m.cls := hown
  have hl : lv_has ls 1 [(0, .ref o)] := hl
  have hi_X2 : ∀ w ∈ wsX20, w ∈ wsX2_room := by decide +kernel
  have lk13 := hts (.fieldLink RX2 13 "InstructionCoder$Octets" "count" "I") (by decide +kernel)
  have E := hq
  rw [f_X2_room] at E
  refine lv_bipush (v := (16 : Int32)) hx hb dX2_room_0 (by decide) ?_
  refine lv_aload_n hx hb dX2_room_2 rfl (lv_at hl 0 rfl) ?_
  refine va_get (D := D) (ci := 2) (v := .int o_count) (C := RX2) (T := TX2) (N := 2) hx hb hts hi_X2 hown hK hP 0 rfl rfl 1 (by decide) lk13 (fun _ h9 => h9) rfl dX2_room_3 ?_
  refine lv_isub hx hb dX2_room_6 ?_
  cases E
  rw [hZ]
  exact qw_iret hx hb hr hlk hP hD hS dX2_room_7
def f_X2_append_J5 (x3 : Int32) (x4 : (Nat → Int32)) : Int32 × (Nat → Int32) := ((x3, x4))
def f_X2_append (o_count : Int32) (o_row_f : (Nat → Int32)) (p0 : Int32) : Int32 × (Nat → Int32) := ((if o_count < 0 then (f_X2_append_J5 o_count o_row_f) else (if (16 : Int32) ≤ o_count then (f_X2_append_J5 o_count o_row_f) else (f_X2_append_J5 (o_count + (1 : Int32)) (upd o_row_f (o_count).toNatClampNeg (p0 &&& (255 : Int32)))))))
set_option maxHeartbeats 4000000 in
set_option maxRecDepth 100000 in
theorem c_X2_append (l : Launch) (D : va_G) (cI : ClassId) (tT : Nat) (o : Nat) (o_row : Nat) (o_count : Int32) (o_row_f : (Nat → Int32)) (p0 : Int32) (o_count_o : Int32) (o_row_f_o : (Nat → Int32)) (hq : f_X2_append o_count o_row_f p0 = (o_count_o, o_row_f_o)) : qM l yX2_append wsX2_append (qr 0 0) (qX tT) D vwCl [(cI, .int)] [(o, .inr (2, [.ref o_row, .int o_count])), (o_row, .inl (cI, 16, .inl o_row_f))] [.ref o, .int p0] none [(o, .inr (2, [.ref o_row, .int o_count_o])), (o_row, .inl (cI, 16, .inl o_row_f_o))] := by
  refine qM_of (cc := cX2_append) (maxL := 2) (ret := none) (by decide) rfl (Nat.le_of_ble_eq_true rfl) ?_
  intro p e s m args below meth c A ls Z hx hb hml hr hts hown hlk hK hA hXs hP hD hS hl hZ
  have hown : s.vm.findClass RX2 = some m.cls := hown
  have hl : lv_has ls 2 [(0, .ref o), (1, .int p0)] := hl
  have hi_X2 : ∀ w ∈ wsX20, w ∈ wsX2_append := by decide +kernel
  have lk13 := hts (.fieldLink RX2 13 "InstructionCoder$Octets" "count" "I") (by decide +kernel)
  have lk9 := hts (.fieldLink RX2 9 "InstructionCoder$Octets" "row" "[I") (by decide +kernel)
  have E := hq
  rw [f_X2_append] at E
  refine lv_aload_n hx hb dX2_append_0 rfl (lv_at hl 0 rfl) ?_
  refine va_get (D := D) (ci := 2) (v := .int o_count) (C := RX2) (T := TX2) (N := 2) hx hb hts hi_X2 hown hK hP 0 rfl rfl 1 (by decide) lk13 (fun _ h9 => h9) rfl dX2_append_1 ?_
  have J5 : ∀ (x3 : Int32) (x4 : (Nat → Int32)) (ls : Array Slot) (H : Heap) (locs : List Loc), f_X2_append_J5 x3 x4 = (o_count_o, o_row_f_o) → lv_has ls 2 [(0, .ref o), (1, .int p0)] → va_P D vwCl [(o, .inr (2, [.ref o_row, .int x3])), (o_row, .inl (cI, 16, .inl x4))] H → va_D A [(o, .inr (2, [.ref o_row, .int x3])), (o_row, .inl (cI, 16, .inl x4))] → va_S A s.heap H locs → W p l e (qr 0 0) s m args below meth c H locs 0 0 Z (F0 m 40 ls []) := by
    intro x3 x4 ls H locs E hl hP hD hS
    rw [f_X2_append_J5] at E
    cases E
    rw [hZ]
    exact qw_vret hx hb hr hlk hP hD hS dX2_append_40
  refine lv_if_lt (tgt := 40) hx hb dX2_append_4 (by decide) (fun c1 => ?_) (fun c1 => ?_)
  · rw [if_pos c1] at E
    exact J5 o_count o_row_f ls _ _ E (lv_sub hl [0, 1] rfl) hP hD hS
  · rw [if_neg c1] at E
    refine lv_aload_n hx hb dX2_append_7 rfl (lv_at hl 0 rfl) ?_
    refine va_get (D := D) (ci := 2) (v := .int o_count) (C := RX2) (T := TX2) (N := 2) hx hb hts hi_X2 hown hK hP 0 rfl rfl 1 (by decide) lk13 (fun _ h9 => h9) rfl dX2_append_8 ?_
    refine lv_bipush (v := (16 : Int32)) hx hb dX2_append_11 (by decide) ?_
    refine lv_icmp_ge (tgt := 40) hx hb dX2_append_13 (by decide) (fun c2 => ?_) (fun c2 => ?_)
    · rw [if_pos c2] at E
      exact J5 o_count o_row_f ls _ _ E (lv_sub hl [0, 1] rfl) hP hD hS
    · rw [if_neg c2] at E
      refine lv_aload_n hx hb dX2_append_16 rfl (lv_at hl 0 rfl) ?_
      refine va_get (D := D) (ci := 2) (v := .ref o_row) (C := RX2) (T := TX2) (N := 2) hx hb hts hi_X2 hown hK hP 0 rfl rfl 0 (by decide) lk9 (fun _ h9 => h9) rfl dX2_append_17 ?_
      refine lv_aload_n hx hb dX2_append_20 rfl (lv_at hl 0 rfl) ?_
      refine va_get (D := D) (ci := 2) (v := .int o_count) (C := RX2) (T := TX2) (N := 2) hx hb hts hi_X2 hown hK hP 0 rfl rfl 1 (by decide) lk13 (fun _ h9 => h9) rfl dX2_append_21 ?_
      refine lv_iload_n hx hb dX2_append_24 rfl (lv_at hl 1 rfl) ?_
      refine lv_sipush (v := (255 : Int32)) hx hb dX2_append_25 (by decide) ?_
      refine lv_iand hx hb dX2_append_28 ?_
      refine va_iast hx hb hK hP hD hS 1 0 rfl rfl (qw_inAA c1 c2 (by decide)) dX2_append_29 (fun H locs hP hD hS => ?_)
      have hP : va_P D vwCl [(o, .inr (2, [.ref o_row, .int o_count])), (o_row, .inl (cI, 16, .inl (upd o_row_f (o_count).toNatClampNeg (p0 &&& (255 : Int32)))))] H := hP
      have hD : va_D A [(o, .inr (2, [.ref o_row, .int o_count])), (o_row, .inl (cI, 16, .inl (upd o_row_f (o_count).toNatClampNeg (p0 &&& (255 : Int32)))))] := hD
      refine lv_aload_n hx hb dX2_append_30 rfl (lv_at hl 0 rfl) ?_
      refine lv_dup hx hb dX2_append_31 rfl ?_
      refine va_get (D := D) (ci := 2) (v := .int o_count) (C := RX2) (T := TX2) (N := 2) hx hb hts hi_X2 hown hK hP 0 rfl rfl 1 (by decide) lk13 (fun _ h9 => h9) rfl dX2_append_32 ?_
      refine lv_iconst (v := (1 : Int32)) hx hb dX2_append_35 (by decide) ?_
      refine lv_iadd hx hb dX2_append_36 ?_
      refine va_put (D := D) (ci := 2) (v := .int (o_count + (1 : Int32))) (ty := .int) (C := RX2) (T := TX2) (N := 2) hx hb hts hi_X2 tyX2 tyX2_ok nmX2 hown hK hP hD hS 0 rfl rfl 1 (by decide) lk13 (fun _ h9 => h9) rfl (by decide +kernel) rfl rfl (Nat.le_of_ble_eq_true rfl) dX2_append_37 (fun H locs hP hD hS => ?_)
      have hP : va_P D vwCl [(o, .inr (2, [.ref o_row, .int (o_count + (1 : Int32))])), (o_row, .inl (cI, 16, .inl (upd o_row_f (o_count).toNatClampNeg (p0 &&& (255 : Int32)))))] H := hP
      have hD : va_D A [(o, .inr (2, [.ref o_row, .int (o_count + (1 : Int32))])), (o_row, .inl (cI, 16, .inl (upd o_row_f (o_count).toNatClampNeg (p0 &&& (255 : Int32)))))] := hD
      exact J5 (o_count + (1 : Int32)) (upd o_row_f (o_count).toNatClampNeg (p0 &&& (255 : Int32))) ls _ _ E (lv_sub hl [0, 1] rfl) hP hD hS
def f_X2_at_J5 (x4 : Int32) : Int32 := (x4)
def f_X2_at (o_count : Int32) (o_row_f : (Nat → Int32)) (p0 : Int32) : Int32 := ((if p0 < 0 then (f_X2_at_J5 (-1 : Int32)) else (if o_count ≤ p0 then (f_X2_at_J5 (-1 : Int32)) else (if (16 : Int32) ≤ p0 then (f_X2_at_J5 (-1 : Int32)) else (f_X2_at_J5 (o_row_f (p0).toNatClampNeg))))))
set_option maxHeartbeats 4000000 in
set_option maxRecDepth 100000 in
theorem c_X2_at (l : Launch) (D : va_G) (cI : ClassId) (tT : Nat) (o : Nat) (o_row : Nat) (o_count : Int32) (o_row_f : (Nat → Int32)) (p0 : Int32) (r_o : Int32) (hq : f_X2_at o_count o_row_f p0 = r_o) : qM l yX2_at wsX2_at (qr 0 0) (qX tT) D vwCl [(cI, .int)] [(o, .inr (2, [.ref o_row, .int o_count])), (o_row, .inl (cI, 16, .inl o_row_f))] [.ref o, .int p0] (some (.int r_o)) [(o, .inr (2, [.ref o_row, .int o_count])), (o_row, .inl (cI, 16, .inl o_row_f))] := by
  refine qM_of (cc := cX2_at) (maxL := 2) (ret := (some .int)) (by decide) rfl (Nat.le_of_ble_eq_true rfl) ?_
  intro p e s m args below meth c A ls Z hx hb hml hr hts hown hlk hK hA hXs hP hD hS hl hZ
  have hown : s.vm.findClass RX2 = some m.cls := hown
  have hl : lv_has ls 2 [(0, .ref o), (1, .int p0)] := hl
  have hi_X2 : ∀ w ∈ wsX20, w ∈ wsX2_at := by decide +kernel
  have lk13 := hts (.fieldLink RX2 13 "InstructionCoder$Octets" "count" "I") (by decide +kernel)
  have lk9 := hts (.fieldLink RX2 9 "InstructionCoder$Octets" "row" "[I") (by decide +kernel)
  have E := hq
  rw [f_X2_at] at E
  refine lv_iload_n hx hb dX2_at_0 rfl (lv_at hl 1 rfl) ?_
  have J5 : ∀ (x4 : Int32) (ls : Array Slot) (H : Heap) (locs : List Loc), f_X2_at_J5 x4 = r_o → lv_has ls 2 [(0, .ref o), (1, .int p0)] → va_P D vwCl [(o, .inr (2, [.ref o_row, .int o_count])), (o_row, .inl (cI, 16, .inl o_row_f))] H → va_D A [(o, .inr (2, [.ref o_row, .int o_count])), (o_row, .inl (cI, 16, .inl o_row_f))] → va_S A s.heap H locs → W p l e (qr 0 0) s m args below meth c H locs 0 0 Z (F0 m 28 ls [.int x4]) := by
    intro x4 ls H locs E hl hP hD hS
    rw [f_X2_at_J5] at E
    cases E
    rw [hZ]
    exact qw_iret hx hb hr hlk hP hD hS dX2_at_28
  refine lv_if_lt (tgt := 27) hx hb dX2_at_1 (by decide) (fun c1 => ?_) (fun c1 => ?_)
  · rw [if_pos c1] at E
    refine lv_iconst (v := (-1 : Int32)) hx hb dX2_at_27 (by decide) ?_
    exact J5 (-1 : Int32) ls _ _ E (lv_sub hl [0, 1] rfl) hP hD hS
  · rw [if_neg c1] at E
    refine lv_iload_n hx hb dX2_at_4 rfl (lv_at hl 1 rfl) ?_
    refine lv_aload_n hx hb dX2_at_5 rfl (lv_at hl 0 rfl) ?_
    refine va_get (D := D) (ci := 2) (v := .int o_count) (C := RX2) (T := TX2) (N := 2) hx hb hts hi_X2 hown hK hP 0 rfl rfl 1 (by decide) lk13 (fun _ h9 => h9) rfl dX2_at_6 ?_
    refine lv_icmp_ge (tgt := 27) hx hb dX2_at_9 (by decide) (fun c2 => ?_) (fun c2 => ?_)
    · rw [if_pos c2] at E
      refine lv_iconst (v := (-1 : Int32)) hx hb dX2_at_27 (by decide) ?_
      exact J5 (-1 : Int32) ls _ _ E (lv_sub hl [0, 1] rfl) hP hD hS
    · rw [if_neg c2] at E
      refine lv_iload_n hx hb dX2_at_12 rfl (lv_at hl 1 rfl) ?_
      refine lv_bipush (v := (16 : Int32)) hx hb dX2_at_13 (by decide) ?_
      refine lv_icmp_ge (tgt := 27) hx hb dX2_at_15 (by decide) (fun c3 => ?_) (fun c3 => ?_)
      · rw [if_pos c3] at E
        refine lv_iconst (v := (-1 : Int32)) hx hb dX2_at_27 (by decide) ?_
        exact J5 (-1 : Int32) ls _ _ E (lv_sub hl [0, 1] rfl) hP hD hS
      · rw [if_neg c3] at E
        refine lv_aload_n hx hb dX2_at_18 rfl (lv_at hl 0 rfl) ?_
        refine va_get (D := D) (ci := 2) (v := .ref o_row) (C := RX2) (T := TX2) (N := 2) hx hb hts hi_X2 hown hK hP 0 rfl rfl 0 (by decide) lk9 (fun _ h9 => h9) rfl dX2_at_19 ?_
        refine lv_iload_n hx hb dX2_at_22 rfl (lv_at hl 1 rfl) ?_
        refine va_iald hx hb hK hP 1 0 rfl rfl (qw_inAA c1 c3 (by decide)) dX2_at_23 ?_
        refine lv_goto (tgt := 28) hx hb dX2_at_24 (by decide) ?_
        exact J5 (o_row_f (p0).toNatClampNeg) ls _ _ E (lv_sub hl [0, 1] rfl) hP hD hS
def f_X2_appendLowestFirst_L8 (p0 : Int64) (p1 : Int32) : Nat → Int32 → Int32 → (Nat → Int32) → Int32 × (Nat → Int32)
  | 0, _, _, _ => (0, (fun _ => 0))
  | n + 1, x1, x2, x3 => (if p1 ≤ x1 then ((x2, x3)) else (match (f_X2_append x2 x3 ((((p0).toUInt64 >>> ((((8 : Int32) * x1)).toInt64.toUInt64 &&& Int64.toUInt64 63)).toInt64).toInt32)) with | (y5, y6) => f_X2_appendLowestFirst_L8 p0 p1 n (x1 + (1 : Int32)) y5 y6))
def f_X2_appendLowestFirst (o_count : Int32) (o_row_f : (Nat → Int32)) (p0 : Int64) (p1 : Int32) : Int32 × (Nat → Int32) := (f_X2_appendLowestFirst_L8 p0 p1 (((p1).toInt - ((0 : Int32)).toInt).toNat + 1) (0 : Int32) o_count o_row_f)
set_option maxHeartbeats 4000000 in
set_option maxRecDepth 100000 in
theorem c_X2_appendLowestFirst (l : Launch) (D : va_G) (cI : ClassId) (tT : Nat) (o : Nat) (o_row : Nat) (o_count : Int32) (o_row_f : (Nat → Int32)) (p0 : Int64) (p1 : Int32) (o_count_o : Int32) (o_row_f_o : (Nat → Int32)) (hq : f_X2_appendLowestFirst o_count o_row_f p0 p1 = (o_count_o, o_row_f_o)) : qM l yX2_appendLowestFirst wsX2_appendLowestFirst (qr 1 21) (qX tT) D vwCl [(cI, .int)] [(o, .inr (2, [.ref o_row, .int o_count])), (o_row, .inl (cI, 16, .inl o_row_f))] [.ref o, .long p0, .int p1] none [(o, .inr (2, [.ref o_row, .int o_count_o])), (o_row, .inl (cI, 16, .inl o_row_f_o))] := by
  refine qM_of (cc := cX2_appendLowestFirst) (maxL := 5) (ret := none) (by decide) rfl (Nat.le_of_ble_eq_true rfl) ?_
  intro p e s m args below meth c A ls Z hx hb hml hr hts hown hlk hK hA hXs hP hD hS hl hZ
  have hown : s.vm.findClass RX2 = some m.cls := hown
  have hl : lv_has ls 5 [(0, .ref o), (1, .long p0), (3, .int p1)] := hl
  have hXg := qX_ok tT
  have E := hq
  rw [f_X2_appendLowestFirst] at E
  refine lv_iconst (v := (0 : Int32)) hx hb dX2_appendLowestFirst_0 (by decide) ?_
  refine lv_istore (lv' := [(4, .int (0 : Int32)), (0, .ref o), (1, .long p0), (3, .int p1)]) hx hb dX2_appendLowestFirst_1 hl (by decide) rfl (fun ls hl => ?_)
  have L8 : ∀ (n : Nat) (x1 : Int32) (x2 : Int32) (x3 : (Nat → Int32)) (ls : Array Slot) (H : Heap) (locs : List Loc), ((p1).toInt - (x1).toInt).toNat < n → f_X2_appendLowestFirst_L8 p0 p1 n x1 x2 x3 = (o_count_o, o_row_f_o) → lv_has ls 5 [(4, .int x1), (0, .ref o), (1, .long p0), (3, .int p1)] → va_P D vwCl [(o, .inr (2, [.ref o_row, .int x2])), (o_row, .inl (cI, 16, .inl x3))] H → va_D A [(o, .inr (2, [.ref o_row, .int x2])), (o_row, .inl (cI, 16, .inl x3))] → va_S A s.heap H locs → W p l e (qr 1 21) s m args below meth c H locs 0 0 Z (F0 m 3 ls []) := by
    intro n
    induction n with
    | zero => intro x1 x2 x3  ls H locs hm; exact absurd hm (Nat.not_lt_zero _)
    | succ n ih =>
      intro x1 x2 x3  ls H locs hm E hl hP hD hS
      rw [f_X2_appendLowestFirst_L8] at E
      refine lv_iload hx hb dX2_appendLowestFirst_3 (lv_at hl 0 rfl) ?_
      refine lv_iload_n hx hb dX2_appendLowestFirst_5 rfl (lv_at hl 3 rfl) ?_
      refine lv_icmp_ge (tgt := 27) hx hb dX2_appendLowestFirst_6 (by decide) (fun c4 => ?_) (fun c4 => ?_)
      · rw [if_pos c4] at E
        cases E
        rw [hZ]
        exact qw_vret hx hb hr hlk hP hD hS dX2_appendLowestFirst_27
      · rw [if_neg c4] at E
        refine lv_aload_n hx hb dX2_appendLowestFirst_9 rfl (lv_at hl 1 rfl) ?_
        refine lv_lload_n hx hb dX2_appendLowestFirst_10 rfl (lv_at hl 2 rfl) ?_
        refine lv_bipush (v := (8 : Int32)) hx hb dX2_appendLowestFirst_11 (by decide) ?_
        refine lv_iload hx hb dX2_appendLowestFirst_13 (lv_at hl 0 rfl) ?_
        refine lv_imul hx hb dX2_appendLowestFirst_15 ?_
        refine lv_lushr (v := ((p0).toUInt64 >>> ((((8 : Int32) * x1)).toInt64.toUInt64 &&& Int64.toUInt64 63)).toInt64) hx hb dX2_appendLowestFirst_16 rfl ?_
        refine lv_l2i (v := (((p0).toUInt64 >>> ((((8 : Int32) * x1)).toInt64.toUInt64 &&& Int64.toUInt64 63)).toInt64).toInt32) hx hb dX2_appendLowestFirst_17 rfl ?_
        obtain ⟨y5, y6, q7⟩ : ∃ y5 y6, (f_X2_append x2 x3 ((((p0).toUInt64 >>> ((((8 : Int32) * x1)).toInt64.toUInt64 &&& Int64.toUInt64 63)).toInt64).toInt32)) = (y5, y6) := ⟨_, _, rfl⟩
        rw [q7] at E
        dsimp only at E
        refine qw_callV (As := [.int ((((p0).toUInt64 >>> ((((8 : Int32) * x1)).toInt64.toUInt64 &&& Int64.toUInt64 63)).toInt64).toInt32)]) (rest := []) (ws' := [(o, .inr (2, [.ref o_row, .int y5])), (o_row, .inl (cI, 16, .inl y6))]) (st1 := []) ⟨hx, hb, hml, hown, hts⟩ (c_X2_append l D cI tT o o_row x2 x3 ((((p0).toUInt64 >>> ((((8 : Int32) * x1)).toInt64.toUInt64 &&& Int64.toUInt64 63)).toInt64).toInt32) y5 y6 q7) (cwV 1 hts gX2_appendLowestFirst_X2_append rfl rfl rfl (by decide +kernel) ⟨Nat.le_of_ble_eq_true rfl, Nat.le_of_ble_eq_true rfl⟩) hXg hK hP hD hS hA hXs [0, 1] rfl rfl  rfl rfl rfl rfl rfl rfl hl.1 rfl (Nat.le_of_ble_eq_true rfl) rfl ⟨Nat.zero_le _, Nat.zero_le _⟩ dX2_appendLowestFirst_18 (fun H locs hP hD hS => ?_)
        refine lv_iinc (v := x1 + (1 : Int32)) (lv' := [(4, .int (x1 + (1 : Int32))), (0, .ref o), (1, .long p0), (3, .int p1)]) hx hb dX2_appendLowestFirst_21 hl (k := 0) rfl (by first | rfl | decide) (by decide) rfl (fun ls hl => ?_)
        refine lv_goto (tgt := 3) hx hb dX2_appendLowestFirst_24 (by decide) ?_
        exact ih (x1 + (1 : Int32)) y5 y6  ls _ _ (qw_up hm c4) E (lv_sub hl [0, 1, 2, 3] rfl) hP hD hS
  exact L8 _ (0 : Int32) o_count o_row_f  ls _ _ (Nat.lt_succ_self _) E (lv_sub hl [0, 1, 2, 3] rfl) hP hD hS
def f_X2_copyFrom_L8 (p0_count : Int32) (p0_row_f : (Nat → Int32)) : Nat → Int32 → Int32 → (Nat → Int32) → Int32 × (Nat → Int32)
  | 0, _, _, _ => (0, (fun _ => 0))
  | n + 1, x1, x2, x3 => (if p0_count ≤ x1 then ((x2, x3)) else (match (f_X2_append x2 x3 (f_X2_at p0_count p0_row_f x1)) with | (y5, y6) => f_X2_copyFrom_L8 p0_count p0_row_f n (x1 + (1 : Int32)) y5 y6))
def f_X2_copyFrom (o_row_f : (Nat → Int32)) (p0_count : Int32) (p0_row_f : (Nat → Int32)) : Int32 × (Nat → Int32) := (f_X2_copyFrom_L8 p0_count p0_row_f (((p0_count).toInt - ((0 : Int32)).toInt).toNat + 1) (0 : Int32) f_X2_clear o_row_f)
set_option maxHeartbeats 4000000 in
set_option maxRecDepth 100000 in
theorem c_X2_copyFrom (l : Launch) (D : va_G) (cI : ClassId) (tT : Nat) (o : Nat) (o_row : Nat) (p0 : Nat) (p0_row : Nat) (o_count : Int32) (o_row_f : (Nat → Int32)) (p0_count : Int32) (p0_row_f : (Nat → Int32)) (o_count_o : Int32) (o_row_f_o : (Nat → Int32)) (hq : f_X2_copyFrom o_row_f p0_count p0_row_f = (o_count_o, o_row_f_o)) : qM l yX2_copyFrom wsX2_copyFrom (qr 1 21) (qX tT) D vwCl [(cI, .int)] [(o, .inr (2, [.ref o_row, .int o_count])), (o_row, .inl (cI, 16, .inl o_row_f)), (p0, .inr (2, [.ref p0_row, .int p0_count])), (p0_row, .inl (cI, 16, .inl p0_row_f))] [.ref o, .ref p0] none [(o, .inr (2, [.ref o_row, .int o_count_o])), (o_row, .inl (cI, 16, .inl o_row_f_o)), (p0, .inr (2, [.ref p0_row, .int p0_count])), (p0_row, .inl (cI, 16, .inl p0_row_f))] := by
  refine qM_of (cc := cX2_copyFrom) (maxL := 3) (ret := none) (by decide) rfl (Nat.le_of_ble_eq_true rfl) ?_
  intro p e s m args below meth c A ls Z hx hb hml hr hts hown hlk hK hA hXs hP hD hS hl hZ
  have hown : s.vm.findClass RX2 = some m.cls := hown
  have hl : lv_has ls 3 [(0, .ref o), (1, .ref p0)] := hl
  have hi_X2 : ∀ w ∈ wsX20, w ∈ wsX2_copyFrom := by decide +kernel
  have lk13 := hts (.fieldLink RX2 13 "InstructionCoder$Octets" "count" "I") (by decide +kernel)
  have hXg := qX_ok tT
  have E := hq
  rw [f_X2_copyFrom] at E
  refine lv_aload_n hx hb dX2_copyFrom_0 rfl (lv_at hl 0 rfl) ?_
  refine qw_callV (As := []) (rest := []) (ws' := [(o, .inr (2, [.ref o_row, .int f_X2_clear])), (o_row, .inl (cI, 16, .inl o_row_f)), (p0, .inr (2, [.ref p0_row, .int p0_count])), (p0_row, .inl (cI, 16, .inl p0_row_f))]) (st1 := []) ⟨hx, hb, hml, hown, hts⟩ (c_X2_clear l D cI tT o o_row o_count f_X2_clear rfl) (cwV 0 hts gX2_copyFrom_X2_clear rfl rfl rfl (by decide +kernel) ⟨Nat.le_of_ble_eq_true rfl, Nat.le_of_ble_eq_true rfl⟩) hXg hK hP hD hS hA hXs [0] rfl rfl  rfl rfl rfl rfl rfl rfl hl.1 rfl (Nat.le_of_ble_eq_true rfl) rfl ⟨Nat.zero_le _, Nat.zero_le _⟩ dX2_copyFrom_1 (fun H locs hP hD hS => ?_)
  refine lv_iconst (v := (0 : Int32)) hx hb dX2_copyFrom_4 (by decide) ?_
  refine lv_istore_n (lv' := [(2, .int (0 : Int32)), (0, .ref o), (1, .ref p0)]) hx hb dX2_copyFrom_5 rfl hl (by decide) rfl (fun ls hl => ?_)
  have L8 : ∀ (n : Nat) (x1 : Int32) (x2 : Int32) (x3 : (Nat → Int32)) (ls : Array Slot) (H : Heap) (locs : List Loc), ((p0_count).toInt - (x1).toInt).toNat < n → f_X2_copyFrom_L8 p0_count p0_row_f n x1 x2 x3 = (o_count_o, o_row_f_o) → lv_has ls 3 [(2, .int x1), (0, .ref o), (1, .ref p0)] → va_P D vwCl [(o, .inr (2, [.ref o_row, .int x2])), (o_row, .inl (cI, 16, .inl x3)), (p0, .inr (2, [.ref p0_row, .int p0_count])), (p0_row, .inl (cI, 16, .inl p0_row_f))] H → va_D A [(o, .inr (2, [.ref o_row, .int x2])), (o_row, .inl (cI, 16, .inl x3)), (p0, .inr (2, [.ref p0_row, .int p0_count])), (p0_row, .inl (cI, 16, .inl p0_row_f))] → va_S A s.heap H locs → W p l e (qr 1 21) s m args below meth c H locs 0 0 Z (F0 m 6 ls []) := by
    intro n
    induction n with
    | zero => intro x1 x2 x3  ls H locs hm; exact absurd hm (Nat.not_lt_zero _)
    | succ n ih =>
      intro x1 x2 x3  ls H locs hm E hl hP hD hS
      rw [f_X2_copyFrom_L8] at E
      refine lv_iload_n hx hb dX2_copyFrom_6 rfl (lv_at hl 0 rfl) ?_
      refine lv_aload_n hx hb dX2_copyFrom_7 rfl (lv_at hl 2 rfl) ?_
      refine va_get (D := D) (ci := 2) (v := .int p0_count) (C := RX2) (T := TX2) (N := 2) hx hb hts hi_X2 hown hK hP 2 rfl rfl 1 (by decide) lk13 (fun _ h9 => h9) rfl dX2_copyFrom_8 ?_
      refine lv_icmp_ge (tgt := 29) hx hb dX2_copyFrom_11 (by decide) (fun c4 => ?_) (fun c4 => ?_)
      · rw [if_pos c4] at E
        cases E
        rw [hZ]
        exact qw_vret hx hb hr hlk hP hD hS dX2_copyFrom_29
      · rw [if_neg c4] at E
        refine lv_aload_n hx hb dX2_copyFrom_14 rfl (lv_at hl 1 rfl) ?_
        refine lv_aload_n hx hb dX2_copyFrom_15 rfl (lv_at hl 2 rfl) ?_
        refine lv_iload_n hx hb dX2_copyFrom_16 rfl (lv_at hl 0 rfl) ?_
        refine qw_callV (As := [.int x1]) (rest := [.ref o]) (ws' := [(o, .inr (2, [.ref o_row, .int x2])), (o_row, .inl (cI, 16, .inl x3)), (p0, .inr (2, [.ref p0_row, .int p0_count])), (p0_row, .inl (cI, 16, .inl p0_row_f))]) (st1 := [.int (f_X2_at p0_count p0_row_f x1), .ref o]) ⟨hx, hb, hml, hown, hts⟩ (c_X2_at l D cI tT p0 p0_row p0_count p0_row_f x1 (f_X2_at p0_count p0_row_f x1) rfl) (cwV 1 hts gX2_copyFrom_X2_at rfl rfl rfl (by decide +kernel) ⟨Nat.le_of_ble_eq_true rfl, Nat.le_of_ble_eq_true rfl⟩) hXg hK hP hD hS hA hXs [2, 3] rfl rfl  rfl rfl rfl rfl rfl rfl hl.1 rfl (Nat.le_of_ble_eq_true rfl) rfl ⟨Nat.zero_le _, Nat.zero_le _⟩ dX2_copyFrom_17 (fun H locs hP hD hS => ?_)
        obtain ⟨y5, y6, q7⟩ : ∃ y5 y6, (f_X2_append x2 x3 (f_X2_at p0_count p0_row_f x1)) = (y5, y6) := ⟨_, _, rfl⟩
        rw [q7] at E
        dsimp only at E
        refine qw_callV (As := [.int (f_X2_at p0_count p0_row_f x1)]) (rest := []) (ws' := [(o, .inr (2, [.ref o_row, .int y5])), (o_row, .inl (cI, 16, .inl y6)), (p0, .inr (2, [.ref p0_row, .int p0_count])), (p0_row, .inl (cI, 16, .inl p0_row_f))]) (st1 := []) ⟨hx, hb, hml, hown, hts⟩ (c_X2_append l D cI tT o o_row x2 x3 (f_X2_at p0_count p0_row_f x1) y5 y6 q7) (cwV 1 hts gX2_copyFrom_X2_append rfl rfl rfl (by decide +kernel) ⟨Nat.le_of_ble_eq_true rfl, Nat.le_of_ble_eq_true rfl⟩) hXg hK hP hD hS hA hXs [0, 1] rfl rfl  rfl rfl rfl rfl rfl rfl hl.1 rfl (Nat.le_of_ble_eq_true rfl) rfl ⟨Nat.zero_le _, Nat.zero_le _⟩ dX2_copyFrom_20 (fun H locs hP hD hS => ?_)
        refine lv_iinc (v := x1 + (1 : Int32)) (lv' := [(2, .int (x1 + (1 : Int32))), (0, .ref o), (1, .ref p0)]) hx hb dX2_copyFrom_23 hl (k := 0) rfl (by first | rfl | decide) (by decide) rfl (fun ls hl => ?_)
        refine lv_goto (tgt := 6) hx hb dX2_copyFrom_26 (by decide) ?_
        exact ih (x1 + (1 : Int32)) y5 y6  ls _ _ (qw_up hm c4) E (lv_sub hl [0, 1, 2] rfl) hP hD hS
  exact L8 _ (0 : Int32) f_X2_clear o_row_f  ls _ _ (Nat.lt_succ_self _) E (lv_sub hl [0, 1, 2] rfl) hP hD hS
