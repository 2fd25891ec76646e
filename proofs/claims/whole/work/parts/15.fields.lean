def f_X0_setOperand_J5 (x3 : (Nat → Int32)) (x4 : (Nat → Int32)) : (Nat → Int32) × (Nat → Int32) := ((x3, x4))
def f_X0_setOperand (o_kinds_f : (Nat → Int32)) (o_regs_f : (Nat → Int32)) (p0 : Int32) (p1 : Int32) (p2 : Int32) : (Nat → Int32) × (Nat → Int32) := ((if p0 < 0 then (f_X0_setOperand_J5 o_kinds_f o_regs_f) else (if (3 : Int32) ≤ p0 then (f_X0_setOperand_J5 o_kinds_f o_regs_f) else (f_X0_setOperand_J5 (upd o_kinds_f (p0).toNatClampNeg p1) (upd o_regs_f (p0).toNatClampNeg p2)))))
set_option maxHeartbeats 4000000 in
set_option maxRecDepth 100000 in
theorem c_X0_setOperand (l : Launch) (D : va_G) (cI : ClassId) (tT : Nat) (o : Nat) (o_kinds : Nat) (o_regs : Nat) (o_memory : Nat) (o_op : Int32) (o_size : Int32) (o_cond : Int32) (o_number : Int64) (o_kinds_f : (Nat → Int32)) (o_regs_f : (Nat → Int32)) (p0 : Int32) (p1 : Int32) (p2 : Int32) (o_kinds_f_o : (Nat → Int32)) (o_regs_f_o : (Nat → Int32)) (hq : f_X0_setOperand o_kinds_f o_regs_f p0 p1 p2 = (o_kinds_f_o, o_regs_f_o)) : qM l yX0_setOperand wsX0_setOperand (qr 0 0) (qX tT) D vwCl [(cI, .int)] [(o, .inr (0, [.int o_op, .int o_size, .int o_cond, .long o_number, .ref o_kinds, .ref o_regs, .ref o_memory])), (o_kinds, .inl (cI, 3, .inl o_kinds_f)), (o_regs, .inl (cI, 3, .inl o_regs_f))] [.ref o, .int p0, .int p1, .int p2] none [(o, .inr (0, [.int o_op, .int o_size, .int o_cond, .long o_number, .ref o_kinds, .ref o_regs, .ref o_memory])), (o_kinds, .inl (cI, 3, .inl o_kinds_f_o)), (o_regs, .inl (cI, 3, .inl o_regs_f_o))] := by
  refine qM_of (cc := cX0_setOperand) (maxL := 4) (ret := none) (by decide) rfl (Nat.le_of_ble_eq_true rfl) ?_
  intro p e s m args below meth c A ls Z hx hb hml hr hts hown hlk hK hA hXs hP hD hS hl hZ
  have hown : s.vm.findClass RX0 = some m.cls := hown
  have hl : lv_has ls 4 [(0, .ref o), (1, .int p0), (2, .int p1), (3, .int p2)] := hl
  have hi_X0 : ∀ w ∈ wsX00, w ∈ wsX0_setOperand := by decide +kernel
  have lk15 := hts (.fieldLink RX0 15 "InstructionCoder$Fields" "kinds" "[I") (by decide +kernel)
  have lk19 := hts (.fieldLink RX0 19 "InstructionCoder$Fields" "registers" "[I") (by decide +kernel)
  have E := hq
  rw [f_X0_setOperand] at E
  refine lv_iload_n hx hb dX0_setOperand_0 rfl (lv_at hl 1 rfl) ?_
  have J5 : ∀ (x3 : (Nat → Int32)) (x4 : (Nat → Int32)) (ls : Array Slot) (H : Heap) (locs : List Loc), f_X0_setOperand_J5 x3 x4 = (o_kinds_f_o, o_regs_f_o) → lv_has ls 4 [(0, .ref o), (1, .int p0), (2, .int p1), (3, .int p2)] → va_P D vwCl [(o, .inr (0, [.int o_op, .int o_size, .int o_cond, .long o_number, .ref o_kinds, .ref o_regs, .ref o_memory])), (o_kinds, .inl (cI, 3, .inl x3)), (o_regs, .inl (cI, 3, .inl x4))] H → va_D A [(o, .inr (0, [.int o_op, .int o_size, .int o_cond, .long o_number, .ref o_kinds, .ref o_regs, .ref o_memory])), (o_kinds, .inl (cI, 3, .inl x3)), (o_regs, .inl (cI, 3, .inl x4))] → va_S A s.heap H locs → W p l e (qr 0 0) s m args below meth c H locs 0 0 Z (F0 m 23 ls []) := by
    intro x3 x4 ls H locs E hl hP hD hS
    rw [f_X0_setOperand_J5] at E
    cases E
    rw [hZ]
    exact qw_vret hx hb hr hlk hP hD hS dX0_setOperand_23
  refine lv_if_lt (tgt := 23) hx hb dX0_setOperand_1 (by decide) (fun c1 => ?_) (fun c1 => ?_)
  · rw [if_pos c1] at E
    exact J5 o_kinds_f o_regs_f ls _ _ E (lv_sub hl [0, 1, 2, 3] rfl) hP hD hS
  · rw [if_neg c1] at E
    refine lv_iload_n hx hb dX0_setOperand_4 rfl (lv_at hl 1 rfl) ?_
    refine lv_iconst (v := (3 : Int32)) hx hb dX0_setOperand_5 (by decide) ?_
    refine lv_icmp_ge (tgt := 23) hx hb dX0_setOperand_6 (by decide) (fun c2 => ?_) (fun c2 => ?_)
    · rw [if_pos c2] at E
      exact J5 o_kinds_f o_regs_f ls _ _ E (lv_sub hl [0, 1, 2, 3] rfl) hP hD hS
    · rw [if_neg c2] at E
      refine lv_aload_n hx hb dX0_setOperand_9 rfl (lv_at hl 0 rfl) ?_
      refine va_get (D := D) (ci := 0) (v := .ref o_kinds) (C := RX0) (T := TX0) (N := 7) hx hb hts hi_X0 hown hK hP 0 rfl rfl 4 (by decide) lk15 (fun _ h9 => h9) rfl dX0_setOperand_10 ?_
      refine lv_iload_n hx hb dX0_setOperand_13 rfl (lv_at hl 1 rfl) ?_
      refine lv_iload_n hx hb dX0_setOperand_14 rfl (lv_at hl 2 rfl) ?_
      refine va_iast hx hb hK hP hD hS 1 0 rfl rfl (qw_inAA c1 c2 (by decide)) dX0_setOperand_15 (fun H locs hP hD hS => ?_)
      have hP : va_P D vwCl [(o, .inr (0, [.int o_op, .int o_size, .int o_cond, .long o_number, .ref o_kinds, .ref o_regs, .ref o_memory])), (o_kinds, .inl (cI, 3, .inl (upd o_kinds_f (p0).toNatClampNeg p1))), (o_regs, .inl (cI, 3, .inl o_regs_f))] H := hP
      have hD : va_D A [(o, .inr (0, [.int o_op, .int o_size, .int o_cond, .long o_number, .ref o_kinds, .ref o_regs, .ref o_memory])), (o_kinds, .inl (cI, 3, .inl (upd o_kinds_f (p0).toNatClampNeg p1))), (o_regs, .inl (cI, 3, .inl o_regs_f))] := hD
      refine lv_aload_n hx hb dX0_setOperand_16 rfl (lv_at hl 0 rfl) ?_
      refine va_get (D := D) (ci := 0) (v := .ref o_regs) (C := RX0) (T := TX0) (N := 7) hx hb hts hi_X0 hown hK hP 0 rfl rfl 5 (by decide) lk19 (fun _ h9 => h9) rfl dX0_setOperand_17 ?_
      refine lv_iload_n hx hb dX0_setOperand_20 rfl (lv_at hl 1 rfl) ?_
      refine lv_iload_n hx hb dX0_setOperand_21 rfl (lv_at hl 3 rfl) ?_
      refine va_iast hx hb hK hP hD hS 2 0 rfl rfl (qw_inAA c1 c2 (by decide)) dX0_setOperand_22 (fun H locs hP hD hS => ?_)
      have hP : va_P D vwCl [(o, .inr (0, [.int o_op, .int o_size, .int o_cond, .long o_number, .ref o_kinds, .ref o_regs, .ref o_memory])), (o_kinds, .inl (cI, 3, .inl (upd o_kinds_f (p0).toNatClampNeg p1))), (o_regs, .inl (cI, 3, .inl (upd o_regs_f (p0).toNatClampNeg p2)))] H := hP
      have hD : va_D A [(o, .inr (0, [.int o_op, .int o_size, .int o_cond, .long o_number, .ref o_kinds, .ref o_regs, .ref o_memory])), (o_kinds, .inl (cI, 3, .inl (upd o_kinds_f (p0).toNatClampNeg p1))), (o_regs, .inl (cI, 3, .inl (upd o_regs_f (p0).toNatClampNeg p2)))] := hD
      exact J5 (upd o_kinds_f (p0).toNatClampNeg p1) (upd o_regs_f (p0).toNatClampNeg p2) ls _ _ E (lv_sub hl [0, 1, 2, 3] rfl) hP hD hS
def f_X0_begin (o_kinds_f : (Nat → Int32)) (o_regs_f : (Nat → Int32)) (p0 : Int32) (p1 : Int32) (p2 : Int32) : Int32 × Int32 × Int32 × (Nat → Int32) × (Nat → Int32) := (match (f_X0_setOperand o_kinds_f o_regs_f (0 : Int32) (0 : Int32) (0 : Int32)) with | (y1, y2) => match (f_X0_setOperand y1 y2 (1 : Int32) (0 : Int32) (0 : Int32)) with | (y4, y5) => match (f_X0_setOperand y4 y5 (2 : Int32) (0 : Int32) (0 : Int32)) with | (y7, y8) => (p0, p1, p2, y7, y8))
set_option maxHeartbeats 4000000 in
set_option maxRecDepth 100000 in
theorem c_X0_begin (l : Launch) (D : va_G) (cI : ClassId) (tT : Nat) (o : Nat) (o_kinds : Nat) (o_regs : Nat) (o_memory : Nat) (o_op : Int32) (o_size : Int32) (o_cond : Int32) (o_number : Int64) (o_kinds_f : (Nat → Int32)) (o_regs_f : (Nat → Int32)) (p0 : Int32) (p1 : Int32) (p2 : Int32) (o_op_o : Int32) (o_size_o : Int32) (o_cond_o : Int32) (o_kinds_f_o : (Nat → Int32)) (o_regs_f_o : (Nat → Int32)) (hq : f_X0_begin o_kinds_f o_regs_f p0 p1 p2 = (o_op_o, o_size_o, o_cond_o, o_kinds_f_o, o_regs_f_o)) : qM l yX0_begin wsX0_begin (qr 1 23) (qX tT) D vwCl [(cI, .int)] [(o, .inr (0, [.int o_op, .int o_size, .int o_cond, .long o_number, .ref o_kinds, .ref o_regs, .ref o_memory])), (o_kinds, .inl (cI, 3, .inl o_kinds_f)), (o_regs, .inl (cI, 3, .inl o_regs_f))] [.ref o, .int p0, .int p1, .int p2] none [(o, .inr (0, [.int o_op_o, .int o_size_o, .int o_cond_o, .long o_number, .ref o_kinds, .ref o_regs, .ref o_memory])), (o_kinds, .inl (cI, 3, .inl o_kinds_f_o)), (o_regs, .inl (cI, 3, .inl o_regs_f_o))] := by
  refine qM_of (cc := cX0_begin) (maxL := 5) (ret := none) (by decide) rfl (Nat.le_of_ble_eq_true rfl) ?_
  intro p e s m args below meth c A ls Z hx hb hml hr hts hown hlk hK hA hXs hP hD hS hl hZ
  have hown : s.vm.findClass RX0 = some m.cls := hown
  have hl : lv_has ls 5 [(0, .ref o), (1, .int p0), (2, .int p1), (3, .int p2)] := hl
  have hi_X0 : ∀ w ∈ wsX00, w ∈ wsX0_begin := by decide +kernel
  have lk29 := hts (.fieldLink RX0 29 "InstructionCoder$Fields" "size" "I") (by decide +kernel)
  have lk32 := hts (.fieldLink RX0 32 "InstructionCoder$Fields" "condition" "I") (by decide +kernel)
  have lk9 := hts (.fieldLink RX0 9 "InstructionCoder$Fields" "op" "I") (by decide +kernel)
  have hXg := qX_ok tT
  have E := hq
  rw [f_X0_begin] at E
  refine lv_aload_n hx hb dX0_begin_0 rfl (lv_at hl 0 rfl) ?_
  refine lv_iload_n hx hb dX0_begin_1 rfl (lv_at hl 1 rfl) ?_
  refine va_put (D := D) (ci := 0) (v := .int p0) (ty := .int) (C := RX0) (T := TX0) (N := 7) hx hb hts hi_X0 tyX0 tyX0_ok nmX0 hown hK hP hD hS 0 rfl rfl 0 (by decide) lk9 (fun _ h9 => h9) rfl (by decide +kernel) rfl rfl (Nat.le_of_ble_eq_true rfl) dX0_begin_2 (fun H locs hP hD hS => ?_)
  have hP : va_P D vwCl [(o, .inr (0, [.int p0, .int o_size, .int o_cond, .long o_number, .ref o_kinds, .ref o_regs, .ref o_memory])), (o_kinds, .inl (cI, 3, .inl o_kinds_f)), (o_regs, .inl (cI, 3, .inl o_regs_f))] H := hP
  have hD : va_D A [(o, .inr (0, [.int p0, .int o_size, .int o_cond, .long o_number, .ref o_kinds, .ref o_regs, .ref o_memory])), (o_kinds, .inl (cI, 3, .inl o_kinds_f)), (o_regs, .inl (cI, 3, .inl o_regs_f))] := hD
  refine lv_aload_n hx hb dX0_begin_5 rfl (lv_at hl 0 rfl) ?_
  refine lv_iload_n hx hb dX0_begin_6 rfl (lv_at hl 2 rfl) ?_
  refine va_put (D := D) (ci := 0) (v := .int p1) (ty := .int) (C := RX0) (T := TX0) (N := 7) hx hb hts hi_X0 tyX0 tyX0_ok nmX0 hown hK hP hD hS 0 rfl rfl 1 (by decide) lk29 (fun _ h9 => h9) rfl (by decide +kernel) rfl rfl (Nat.le_of_ble_eq_true rfl) dX0_begin_7 (fun H locs hP hD hS => ?_)
  have hP : va_P D vwCl [(o, .inr (0, [.int p0, .int p1, .int o_cond, .long o_number, .ref o_kinds, .ref o_regs, .ref o_memory])), (o_kinds, .inl (cI, 3, .inl o_kinds_f)), (o_regs, .inl (cI, 3, .inl o_regs_f))] H := hP
  have hD : va_D A [(o, .inr (0, [.int p0, .int p1, .int o_cond, .long o_number, .ref o_kinds, .ref o_regs, .ref o_memory])), (o_kinds, .inl (cI, 3, .inl o_kinds_f)), (o_regs, .inl (cI, 3, .inl o_regs_f))] := hD
  refine lv_aload_n hx hb dX0_begin_10 rfl (lv_at hl 0 rfl) ?_
  refine lv_iload_n hx hb dX0_begin_11 rfl (lv_at hl 3 rfl) ?_
  refine va_put (D := D) (ci := 0) (v := .int p2) (ty := .int) (C := RX0) (T := TX0) (N := 7) hx hb hts hi_X0 tyX0 tyX0_ok nmX0 hown hK hP hD hS 0 rfl rfl 2 (by decide) lk32 (fun _ h9 => h9) rfl (by decide +kernel) rfl rfl (Nat.le_of_ble_eq_true rfl) dX0_begin_12 (fun H locs hP hD hS => ?_)
  have hP : va_P D vwCl [(o, .inr (0, [.int p0, .int p1, .int p2, .long o_number, .ref o_kinds, .ref o_regs, .ref o_memory])), (o_kinds, .inl (cI, 3, .inl o_kinds_f)), (o_regs, .inl (cI, 3, .inl o_regs_f))] H := hP
  have hD : va_D A [(o, .inr (0, [.int p0, .int p1, .int p2, .long o_number, .ref o_kinds, .ref o_regs, .ref o_memory])), (o_kinds, .inl (cI, 3, .inl o_kinds_f)), (o_regs, .inl (cI, 3, .inl o_regs_f))] := hD
  refine lv_iconst (v := (0 : Int32)) hx hb dX0_begin_15 (by decide) ?_
  refine lv_istore (lv' := [(4, .int (0 : Int32)), (0, .ref o), (1, .int p0), (2, .int p1), (3, .int p2)]) hx hb dX0_begin_16 hl (by decide) rfl (fun ls hl => ?_)
  refine lv_iload hx hb dX0_begin_18 (lv_at hl 0 rfl) ?_
  refine lv_iconst (v := (3 : Int32)) hx hb dX0_begin_20 (by decide) ?_
  refine lv_icmp_ge (tgt := 38) hx hb dX0_begin_21 (by decide) (fun c9 => absurd c9 (by decide)) (fun _ => ?_)
  refine lv_aload_n hx hb dX0_begin_24 rfl (lv_at hl 1 rfl) ?_
  refine lv_iload hx hb dX0_begin_25 (lv_at hl 0 rfl) ?_
  refine lv_iconst (v := (0 : Int32)) hx hb dX0_begin_27 (by decide) ?_
  refine lv_iconst (v := (0 : Int32)) hx hb dX0_begin_28 (by decide) ?_
  obtain ⟨y1, y2, q3⟩ : ∃ y1 y2, (f_X0_setOperand o_kinds_f o_regs_f (0 : Int32) (0 : Int32) (0 : Int32)) = (y1, y2) := ⟨_, _, rfl⟩
  rw [q3] at E
  dsimp only at E
  refine qw_callV (As := [.int (0 : Int32), .int (0 : Int32), .int (0 : Int32)]) (rest := []) (ws' := [(o, .inr (0, [.int p0, .int p1, .int p2, .long o_number, .ref o_kinds, .ref o_regs, .ref o_memory])), (o_kinds, .inl (cI, 3, .inl y1)), (o_regs, .inl (cI, 3, .inl y2))]) (st1 := []) ⟨hx, hb, hml, hown, hts⟩ (c_X0_setOperand l D cI tT o o_kinds o_regs o_memory p0 p1 p2 o_number o_kinds_f o_regs_f (0 : Int32) (0 : Int32) (0 : Int32) y1 y2 q3) (cwV 3 hts gX0_begin_X0_setOperand rfl rfl rfl (by decide +kernel) ⟨Nat.le_of_ble_eq_true rfl, Nat.le_of_ble_eq_true rfl⟩) hXg hK hP hD hS hA hXs [0, 1, 2] rfl rfl  rfl rfl rfl rfl rfl rfl hl.1 rfl (Nat.le_of_ble_eq_true rfl) rfl ⟨Nat.zero_le _, Nat.zero_le _⟩ dX0_begin_29 (fun H locs hP hD hS => ?_)
  refine lv_iinc (v := (1 : Int32)) (lv' := [(4, .int (1 : Int32)), (0, .ref o), (1, .int p0), (2, .int p1), (3, .int p2)]) hx hb dX0_begin_32 hl (k := 0) rfl (by first | rfl | decide) (by decide) rfl (fun ls hl => ?_)
  refine lv_goto (tgt := 18) hx hb dX0_begin_35 (by decide) ?_
  refine lv_iload hx hb dX0_begin_18 (lv_at hl 0 rfl) ?_
  refine lv_iconst (v := (3 : Int32)) hx hb dX0_begin_20 (by decide) ?_
  refine lv_icmp_ge (tgt := 38) hx hb dX0_begin_21 (by decide) (fun c9 => absurd c9 (by decide)) (fun _ => ?_)
  refine lv_aload_n hx hb dX0_begin_24 rfl (lv_at hl 1 rfl) ?_
  refine lv_iload hx hb dX0_begin_25 (lv_at hl 0 rfl) ?_
  refine lv_iconst (v := (0 : Int32)) hx hb dX0_begin_27 (by decide) ?_
  refine lv_iconst (v := (0 : Int32)) hx hb dX0_begin_28 (by decide) ?_
  obtain ⟨y4, y5, q6⟩ : ∃ y4 y5, (f_X0_setOperand y1 y2 (1 : Int32) (0 : Int32) (0 : Int32)) = (y4, y5) := ⟨_, _, rfl⟩
  rw [q6] at E
  dsimp only at E
  refine qw_callV (As := [.int (1 : Int32), .int (0 : Int32), .int (0 : Int32)]) (rest := []) (ws' := [(o, .inr (0, [.int p0, .int p1, .int p2, .long o_number, .ref o_kinds, .ref o_regs, .ref o_memory])), (o_kinds, .inl (cI, 3, .inl y4)), (o_regs, .inl (cI, 3, .inl y5))]) (st1 := []) ⟨hx, hb, hml, hown, hts⟩ (c_X0_setOperand l D cI tT o o_kinds o_regs o_memory p0 p1 p2 o_number y1 y2 (1 : Int32) (0 : Int32) (0 : Int32) y4 y5 q6) (cwV 3 hts gX0_begin_X0_setOperand rfl rfl rfl (by decide +kernel) ⟨Nat.le_of_ble_eq_true rfl, Nat.le_of_ble_eq_true rfl⟩) hXg hK hP hD hS hA hXs [0, 1, 2] rfl rfl  rfl rfl rfl rfl rfl rfl hl.1 rfl (Nat.le_of_ble_eq_true rfl) rfl ⟨Nat.zero_le _, Nat.zero_le _⟩ dX0_begin_29 (fun H locs hP hD hS => ?_)
  refine lv_iinc (v := (2 : Int32)) (lv' := [(4, .int (2 : Int32)), (0, .ref o), (1, .int p0), (2, .int p1), (3, .int p2)]) hx hb dX0_begin_32 hl (k := 0) rfl (by first | rfl | decide) (by decide) rfl (fun ls hl => ?_)
  refine lv_goto (tgt := 18) hx hb dX0_begin_35 (by decide) ?_
  refine lv_iload hx hb dX0_begin_18 (lv_at hl 0 rfl) ?_
  refine lv_iconst (v := (3 : Int32)) hx hb dX0_begin_20 (by decide) ?_
  refine lv_icmp_ge (tgt := 38) hx hb dX0_begin_21 (by decide) (fun c9 => absurd c9 (by decide)) (fun _ => ?_)
  refine lv_aload_n hx hb dX0_begin_24 rfl (lv_at hl 1 rfl) ?_
  refine lv_iload hx hb dX0_begin_25 (lv_at hl 0 rfl) ?_
  refine lv_iconst (v := (0 : Int32)) hx hb dX0_begin_27 (by decide) ?_
  refine lv_iconst (v := (0 : Int32)) hx hb dX0_begin_28 (by decide) ?_
  obtain ⟨y7, y8, q9⟩ : ∃ y7 y8, (f_X0_setOperand y4 y5 (2 : Int32) (0 : Int32) (0 : Int32)) = (y7, y8) := ⟨_, _, rfl⟩
  rw [q9] at E
  dsimp only at E
  refine qw_callV (As := [.int (2 : Int32), .int (0 : Int32), .int (0 : Int32)]) (rest := []) (ws' := [(o, .inr (0, [.int p0, .int p1, .int p2, .long o_number, .ref o_kinds, .ref o_regs, .ref o_memory])), (o_kinds, .inl (cI, 3, .inl y7)), (o_regs, .inl (cI, 3, .inl y8))]) (st1 := []) ⟨hx, hb, hml, hown, hts⟩ (c_X0_setOperand l D cI tT o o_kinds o_regs o_memory p0 p1 p2 o_number y4 y5 (2 : Int32) (0 : Int32) (0 : Int32) y7 y8 q9) (cwV 3 hts gX0_begin_X0_setOperand rfl rfl rfl (by decide +kernel) ⟨Nat.le_of_ble_eq_true rfl, Nat.le_of_ble_eq_true rfl⟩) hXg hK hP hD hS hA hXs [0, 1, 2] rfl rfl  rfl rfl rfl rfl rfl rfl hl.1 rfl (Nat.le_of_ble_eq_true rfl) rfl ⟨Nat.zero_le _, Nat.zero_le _⟩ dX0_begin_29 (fun H locs hP hD hS => ?_)
  refine lv_iinc (v := (3 : Int32)) (lv' := [(4, .int (3 : Int32)), (0, .ref o), (1, .int p0), (2, .int p1), (3, .int p2)]) hx hb dX0_begin_32 hl (k := 0) rfl (by first | rfl | decide) (by decide) rfl (fun ls hl => ?_)
  refine lv_goto (tgt := 18) hx hb dX0_begin_35 (by decide) ?_
  refine lv_iload hx hb dX0_begin_18 (lv_at hl 0 rfl) ?_
  refine lv_iconst (v := (3 : Int32)) hx hb dX0_begin_20 (by decide) ?_
  refine lv_icmp_ge (tgt := 38) hx hb dX0_begin_21 (by decide) (fun _ => ?_) (fun c9 => absurd c9 (by decide))
  cases E
  rw [hZ]
  exact qw_vret hx hb hr hlk hP hD hS dX0_begin_38
def f_X0_kindOf_J4 (x3 : Int32) : Int32 := (x3)
def f_X0_kindOf (o_kinds_f : (Nat → Int32)) (p0 : Int32) : Int32 := ((if p0 < 0 then (f_X0_kindOf_J4 (0 : Int32)) else (if (3 : Int32) ≤ p0 then (f_X0_kindOf_J4 (0 : Int32)) else (f_X0_kindOf_J4 (o_kinds_f (p0).toNatClampNeg)))))
set_option maxHeartbeats 4000000 in
set_option maxRecDepth 100000 in
theorem c_X0_kindOf (l : Launch) (D : va_G) (cI : ClassId) (tT : Nat) (o : Nat) (o_kinds : Nat) (o_regs : Nat) (o_memory : Nat) (o_op : Int32) (o_size : Int32) (o_cond : Int32) (o_number : Int64) (o_kinds_f : (Nat → Int32)) (p0 : Int32) (r_o : Int32) (hq : f_X0_kindOf o_kinds_f p0 = r_o) : qM l yX0_kindOf wsX0_kindOf (qr 0 0) (qX tT) D vwCl [(cI, .int)] [(o, .inr (0, [.int o_op, .int o_size, .int o_cond, .long o_number, .ref o_kinds, .ref o_regs, .ref o_memory])), (o_kinds, .inl (cI, 3, .inl o_kinds_f))] [.ref o, .int p0] (some (.int r_o)) [(o, .inr (0, [.int o_op, .int o_size, .int o_cond, .long o_number, .ref o_kinds, .ref o_regs, .ref o_memory])), (o_kinds, .inl (cI, 3, .inl o_kinds_f))] := by
  refine qM_of (cc := cX0_kindOf) (maxL := 2) (ret := (some .int)) (by decide) rfl (Nat.le_of_ble_eq_true rfl) ?_
  intro p e s m args below meth c A ls Z hx hb hml hr hts hown hlk hK hA hXs hP hD hS hl hZ
  have hown : s.vm.findClass RX0 = some m.cls := hown
  have hl : lv_has ls 2 [(0, .ref o), (1, .int p0)] := hl
  have hi_X0 : ∀ w ∈ wsX00, w ∈ wsX0_kindOf := by decide +kernel
  have lk15 := hts (.fieldLink RX0 15 "InstructionCoder$Fields" "kinds" "[I") (by decide +kernel)
  have E := hq
  rw [f_X0_kindOf] at E
  refine lv_iload_n hx hb dX0_kindOf_0 rfl (lv_at hl 1 rfl) ?_
  have J4 : ∀ (x3 : Int32) (ls : Array Slot) (H : Heap) (locs : List Loc), f_X0_kindOf_J4 x3 = r_o → lv_has ls 2 [(0, .ref o), (1, .int p0)] → va_P D vwCl [(o, .inr (0, [.int o_op, .int o_size, .int o_cond, .long o_number, .ref o_kinds, .ref o_regs, .ref o_memory])), (o_kinds, .inl (cI, 3, .inl o_kinds_f))] H → va_D A [(o, .inr (0, [.int o_op, .int o_size, .int o_cond, .long o_number, .ref o_kinds, .ref o_regs, .ref o_memory])), (o_kinds, .inl (cI, 3, .inl o_kinds_f))] → va_S A s.heap H locs → W p l e (qr 0 0) s m args below meth c H locs 0 0 Z (F0 m 19 ls [.int x3]) := by
    intro x3 ls H locs E hl hP hD hS
    rw [f_X0_kindOf_J4] at E
    cases E
    rw [hZ]
    exact qw_iret hx hb hr hlk hP hD hS dX0_kindOf_19
  refine lv_if_lt (tgt := 18) hx hb dX0_kindOf_1 (by decide) (fun c1 => ?_) (fun c1 => ?_)
  · rw [if_pos c1] at E
    refine lv_iconst (v := (0 : Int32)) hx hb dX0_kindOf_18 (by decide) ?_
    exact J4 (0 : Int32) ls _ _ E (lv_sub hl [0, 1] rfl) hP hD hS
  · rw [if_neg c1] at E
    refine lv_iload_n hx hb dX0_kindOf_4 rfl (lv_at hl 1 rfl) ?_
    refine lv_iconst (v := (3 : Int32)) hx hb dX0_kindOf_5 (by decide) ?_
    refine lv_icmp_ge (tgt := 18) hx hb dX0_kindOf_6 (by decide) (fun c2 => ?_) (fun c2 => ?_)
    · rw [if_pos c2] at E
      refine lv_iconst (v := (0 : Int32)) hx hb dX0_kindOf_18 (by decide) ?_
      exact J4 (0 : Int32) ls _ _ E (lv_sub hl [0, 1] rfl) hP hD hS
    · rw [if_neg c2] at E
      refine lv_aload_n hx hb dX0_kindOf_9 rfl (lv_at hl 0 rfl) ?_
      refine va_get (D := D) (ci := 0) (v := .ref o_kinds) (C := RX0) (T := TX0) (N := 7) hx hb hts hi_X0 hown hK hP 0 rfl rfl 4 (by decide) lk15 (fun _ h9 => h9) rfl dX0_kindOf_10 ?_
      refine lv_iload_n hx hb dX0_kindOf_13 rfl (lv_at hl 1 rfl) ?_
      refine va_iald hx hb hK hP 1 0 rfl rfl (qw_inAA c1 c2 (by decide)) dX0_kindOf_14 ?_
      refine lv_goto (tgt := 19) hx hb dX0_kindOf_15 (by decide) ?_
      exact J4 (o_kinds_f (p0).toNatClampNeg) ls _ _ E (lv_sub hl [0, 1] rfl) hP hD hS
def f_X0_registerOf_J4 (x3 : Int32) : Int32 := (x3)
def f_X0_registerOf (o_regs_f : (Nat → Int32)) (p0 : Int32) : Int32 := ((if p0 < 0 then (f_X0_registerOf_J4 (0 : Int32)) else (if (3 : Int32) ≤ p0 then (f_X0_registerOf_J4 (0 : Int32)) else (f_X0_registerOf_J4 (o_regs_f (p0).toNatClampNeg)))))
set_option maxHeartbeats 4000000 in
set_option maxRecDepth 100000 in
theorem c_X0_registerOf (l : Launch) (D : va_G) (cI : ClassId) (tT : Nat) (o : Nat) (o_kinds : Nat) (o_regs : Nat) (o_memory : Nat) (o_op : Int32) (o_size : Int32) (o_cond : Int32) (o_number : Int64) (o_regs_f : (Nat → Int32)) (p0 : Int32) (r_o : Int32) (hq : f_X0_registerOf o_regs_f p0 = r_o) : qM l yX0_registerOf wsX0_registerOf (qr 0 0) (qX tT) D vwCl [(cI, .int)] [(o, .inr (0, [.int o_op, .int o_size, .int o_cond, .long o_number, .ref o_kinds, .ref o_regs, .ref o_memory])), (o_regs, .inl (cI, 3, .inl o_regs_f))] [.ref o, .int p0] (some (.int r_o)) [(o, .inr (0, [.int o_op, .int o_size, .int o_cond, .long o_number, .ref o_kinds, .ref o_regs, .ref o_memory])), (o_regs, .inl (cI, 3, .inl o_regs_f))] := by
  refine qM_of (cc := cX0_registerOf) (maxL := 2) (ret := (some .int)) (by decide) rfl (Nat.le_of_ble_eq_true rfl) ?_
  intro p e s m args below meth c A ls Z hx hb hml hr hts hown hlk hK hA hXs hP hD hS hl hZ
  have hown : s.vm.findClass RX0 = some m.cls := hown
  have hl : lv_has ls 2 [(0, .ref o), (1, .int p0)] := hl
  have hi_X0 : ∀ w ∈ wsX00, w ∈ wsX0_registerOf := by decide +kernel
  have lk19 := hts (.fieldLink RX0 19 "InstructionCoder$Fields" "registers" "[I") (by decide +kernel)
  have E := hq
  rw [f_X0_registerOf] at E
  refine lv_iload_n hx hb dX0_registerOf_0 rfl (lv_at hl 1 rfl) ?_
  have J4 : ∀ (x3 : Int32) (ls : Array Slot) (H : Heap) (locs : List Loc), f_X0_registerOf_J4 x3 = r_o → lv_has ls 2 [(0, .ref o), (1, .int p0)] → va_P D vwCl [(o, .inr (0, [.int o_op, .int o_size, .int o_cond, .long o_number, .ref o_kinds, .ref o_regs, .ref o_memory])), (o_regs, .inl (cI, 3, .inl o_regs_f))] H → va_D A [(o, .inr (0, [.int o_op, .int o_size, .int o_cond, .long o_number, .ref o_kinds, .ref o_regs, .ref o_memory])), (o_regs, .inl (cI, 3, .inl o_regs_f))] → va_S A s.heap H locs → W p l e (qr 0 0) s m args below meth c H locs 0 0 Z (F0 m 19 ls [.int x3]) := by
    intro x3 ls H locs E hl hP hD hS
    rw [f_X0_registerOf_J4] at E
    cases E
    rw [hZ]
    exact qw_iret hx hb hr hlk hP hD hS dX0_registerOf_19
  refine lv_if_lt (tgt := 18) hx hb dX0_registerOf_1 (by decide) (fun c1 => ?_) (fun c1 => ?_)
  · rw [if_pos c1] at E
    refine lv_iconst (v := (0 : Int32)) hx hb dX0_registerOf_18 (by decide) ?_
    exact J4 (0 : Int32) ls _ _ E (lv_sub hl [0, 1] rfl) hP hD hS
  · rw [if_neg c1] at E
    refine lv_iload_n hx hb dX0_registerOf_4 rfl (lv_at hl 1 rfl) ?_
    refine lv_iconst (v := (3 : Int32)) hx hb dX0_registerOf_5 (by decide) ?_
    refine lv_icmp_ge (tgt := 18) hx hb dX0_registerOf_6 (by decide) (fun c2 => ?_) (fun c2 => ?_)
    · rw [if_pos c2] at E
      refine lv_iconst (v := (0 : Int32)) hx hb dX0_registerOf_18 (by decide) ?_
      exact J4 (0 : Int32) ls _ _ E (lv_sub hl [0, 1] rfl) hP hD hS
    · rw [if_neg c2] at E
      refine lv_aload_n hx hb dX0_registerOf_9 rfl (lv_at hl 0 rfl) ?_
      refine va_get (D := D) (ci := 0) (v := .ref o_regs) (C := RX0) (T := TX0) (N := 7) hx hb hts hi_X0 hown hK hP 0 rfl rfl 5 (by decide) lk19 (fun _ h9 => h9) rfl dX0_registerOf_10 ?_
      refine lv_iload_n hx hb dX0_registerOf_13 rfl (lv_at hl 1 rfl) ?_
      refine va_iald hx hb hK hP 1 0 rfl rfl (qw_inAA c1 c2 (by decide)) dX0_registerOf_14 ?_
      refine lv_goto (tgt := 19) hx hb dX0_registerOf_15 (by decide) ?_
      exact J4 (o_regs_f (p0).toNatClampNeg) ls _ _ E (lv_sub hl [0, 1] rfl) hP hD hS
def f_X0_copyFrom (o_kinds_f : (Nat → Int32)) (o_regs_f : (Nat → Int32)) (p0_op : Int32) (p0_size : Int32) (p0_cond : Int32) (p0_number : Int64) (p0_kinds_f : (Nat → Int32)) (p0_regs_f : (Nat → Int32)) (p0_memory_base : Int32) (p0_memory_index : Int32) (p0_memory_scale : Int32) (p0_memory_disp : Int32) : Int32 × Int32 × Int32 × Int64 × (Nat → Int32) × (Nat → Int32) × Int32 × Int32 × Int32 × Int32 := (match (f_X0_begin o_kinds_f o_regs_f p0_op p0_size p0_cond) with | (y1, y2, y3, y4, y5) => match (f_X0_setOperand y4 y5 (0 : Int32) (f_X0_kindOf p0_kinds_f (0 : Int32)) (f_X0_registerOf p0_regs_f (0 : Int32))) with | (y7, y8) => match (f_X0_setOperand y7 y8 (1 : Int32) (f_X0_kindOf p0_kinds_f (1 : Int32)) (f_X0_registerOf p0_regs_f (1 : Int32))) with | (y10, y11) => match (f_X0_setOperand y10 y11 (2 : Int32) (f_X0_kindOf p0_kinds_f (2 : Int32)) (f_X0_registerOf p0_regs_f (2 : Int32))) with | (y13, y14) => match (f_X1_become p0_memory_base p0_memory_index p0_memory_scale p0_memory_disp) with | (y16, y17, y18, y19) => (y1, y2, y3, p0_number, y13, y14, y16, y17, y18, y19))
set_option maxHeartbeats 4000000 in
set_option maxRecDepth 100000 in
theorem c_X0_copyFrom (l : Launch) (D : va_G) (cI : ClassId) (tT : Nat) (o : Nat) (o_kinds : Nat) (o_regs : Nat) (o_memory : Nat) (p0 : Nat) (p0_kinds : Nat) (p0_regs : Nat) (p0_memory : Nat) (o_op : Int32) (o_size : Int32) (o_cond : Int32) (o_number : Int64) (o_kinds_f : (Nat → Int32)) (o_regs_f : (Nat → Int32)) (o_memory_base : Int32) (o_memory_index : Int32) (o_memory_scale : Int32) (o_memory_disp : Int32) (p0_op : Int32) (p0_size : Int32) (p0_cond : Int32) (p0_number : Int64) (p0_kinds_f : (Nat → Int32)) (p0_regs_f : (Nat → Int32)) (p0_memory_base : Int32) (p0_memory_index : Int32) (p0_memory_scale : Int32) (p0_memory_disp : Int32) (o_op_o : Int32) (o_size_o : Int32) (o_cond_o : Int32) (o_number_o : Int64) (o_kinds_f_o : (Nat → Int32)) (o_regs_f_o : (Nat → Int32)) (o_memory_base_o : Int32) (o_memory_index_o : Int32) (o_memory_scale_o : Int32) (o_memory_disp_o : Int32) (hq : f_X0_copyFrom o_kinds_f o_regs_f p0_op p0_size p0_cond p0_number p0_kinds_f p0_regs_f p0_memory_base p0_memory_index p0_memory_scale p0_memory_disp = (o_op_o, o_size_o, o_cond_o, o_number_o, o_kinds_f_o, o_regs_f_o, o_memory_base_o, o_memory_index_o, o_memory_scale_o, o_memory_disp_o)) : qM l yX0_copyFrom wsX0_copyFrom (qr 2 47) (qX tT) D vwCl [(cI, .int)] [(o, .inr (0, [.int o_op, .int o_size, .int o_cond, .long o_number, .ref o_kinds, .ref o_regs, .ref o_memory])), (o_kinds, .inl (cI, 3, .inl o_kinds_f)), (o_regs, .inl (cI, 3, .inl o_regs_f)), (o_memory, .inr (1, [.int o_memory_base, .int o_memory_index, .int o_memory_scale, .int o_memory_disp])), (p0, .inr (0, [.int p0_op, .int p0_size, .int p0_cond, .long p0_number, .ref p0_kinds, .ref p0_regs, .ref p0_memory])), (p0_kinds, .inl (cI, 3, .inl p0_kinds_f)), (p0_regs, .inl (cI, 3, .inl p0_regs_f)), (p0_memory, .inr (1, [.int p0_memory_base, .int p0_memory_index, .int p0_memory_scale, .int p0_memory_disp]))] [.ref o, .ref p0] none [(o, .inr (0, [.int o_op_o, .int o_size_o, .int o_cond_o, .long o_number_o, .ref o_kinds, .ref o_regs, .ref o_memory])), (o_kinds, .inl (cI, 3, .inl o_kinds_f_o)), (o_regs, .inl (cI, 3, .inl o_regs_f_o)), (o_memory, .inr (1, [.int o_memory_base_o, .int o_memory_index_o, .int o_memory_scale_o, .int o_memory_disp_o])), (p0, .inr (0, [.int p0_op, .int p0_size, .int p0_cond, .long p0_number, .ref p0_kinds, .ref p0_regs, .ref p0_memory])), (p0_kinds, .inl (cI, 3, .inl p0_kinds_f)), (p0_regs, .inl (cI, 3, .inl p0_regs_f)), (p0_memory, .inr (1, [.int p0_memory_base, .int p0_memory_index, .int p0_memory_scale, .int p0_memory_disp]))] := by
  refine qM_of (cc := cX0_copyFrom) (maxL := 3) (ret := none) (by decide) rfl (Nat.le_of_ble_eq_true rfl) ?_
  intro p e s m args below meth c A ls Z hx hb hml hr hts hown hlk hK hA hXs hP hD hS hl hZ
  have hown : s.vm.findClass RX0 = some m.cls := hown
  have hl : lv_has ls 3 [(0, .ref o), (1, .ref p0)] := hl
  have hi_X0 : ∀ w ∈ wsX00, w ∈ wsX0_copyFrom := by decide +kernel
  have hi_X1 : ∀ w ∈ wsX10, w ∈ wsX0_copyFrom := by decide +kernel
  have lk25 := hts (.fieldLink RX0 25 "InstructionCoder$Fields" "memory" "LInstructionCoder$Memory;") (by decide +kernel)
  have lk29 := hts (.fieldLink RX0 29 "InstructionCoder$Fields" "size" "I") (by decide +kernel)
  have lk32 := hts (.fieldLink RX0 32 "InstructionCoder$Fields" "condition" "I") (by decide +kernel)
  have lk49 := va_Nw.use (A := args) rfl (hXs.2.2 (.fieldLinkNest RX0 49 "InstructionCoder$Memory" "base" "I" "InstructionCoder") (by decide +kernel))
  have lk52 := va_Nw.use (A := args) rfl (hXs.2.2 (.fieldLinkNest RX0 52 "InstructionCoder$Memory" "index" "I" "InstructionCoder") (by decide +kernel))
  have lk55 := va_Nw.use (A := args) rfl (hXs.2.2 (.fieldLinkNest RX0 55 "InstructionCoder$Memory" "scale" "I" "InstructionCoder") (by decide +kernel))
  have lk58 := va_Nw.use (A := args) rfl (hXs.2.2 (.fieldLinkNest RX0 58 "InstructionCoder$Memory" "displacement" "I" "InstructionCoder") (by decide +kernel))
  have lk65 := hts (.fieldLink RX0 65 "InstructionCoder$Fields" "number" "J") (by decide +kernel)
  have lk9 := hts (.fieldLink RX0 9 "InstructionCoder$Fields" "op" "I") (by decide +kernel)
  have hXg := qX_ok tT
  have E := hq
  rw [f_X0_copyFrom] at E
  refine lv_aload_n hx hb dX0_copyFrom_0 rfl (lv_at hl 0 rfl) ?_
  refine lv_aload_n hx hb dX0_copyFrom_1 rfl (lv_at hl 1 rfl) ?_
  refine va_get (D := D) (ci := 0) (v := .int p0_op) (C := RX0) (T := TX0) (N := 7) hx hb hts hi_X0 hown hK hP 4 rfl rfl 0 (by decide) lk9 (fun _ h9 => h9) rfl dX0_copyFrom_2 ?_
  refine lv_aload_n hx hb dX0_copyFrom_5 rfl (lv_at hl 1 rfl) ?_
  refine va_get (D := D) (ci := 0) (v := .int p0_size) (C := RX0) (T := TX0) (N := 7) hx hb hts hi_X0 hown hK hP 4 rfl rfl 1 (by decide) lk29 (fun _ h9 => h9) rfl dX0_copyFrom_6 ?_
  refine lv_aload_n hx hb dX0_copyFrom_9 rfl (lv_at hl 1 rfl) ?_
  refine va_get (D := D) (ci := 0) (v := .int p0_cond) (C := RX0) (T := TX0) (N := 7) hx hb hts hi_X0 hown hK hP 4 rfl rfl 2 (by decide) lk32 (fun _ h9 => h9) rfl dX0_copyFrom_10 ?_
  obtain ⟨y1, y2, y3, y4, y5, q6⟩ : ∃ y1 y2 y3 y4 y5, (f_X0_begin o_kinds_f o_regs_f p0_op p0_size p0_cond) = (y1, y2, y3, y4, y5) := ⟨_, _, _, _, _, rfl⟩
  rw [q6] at E
  dsimp only at E
  refine qw_callV (As := [.int p0_op, .int p0_size, .int p0_cond]) (rest := []) (ws' := [(o, .inr (0, [.int y1, .int y2, .int y3, .long o_number, .ref o_kinds, .ref o_regs, .ref o_memory])), (o_kinds, .inl (cI, 3, .inl y4)), (o_regs, .inl (cI, 3, .inl y5)), (o_memory, .inr (1, [.int o_memory_base, .int o_memory_index, .int o_memory_scale, .int o_memory_disp])), (p0, .inr (0, [.int p0_op, .int p0_size, .int p0_cond, .long p0_number, .ref p0_kinds, .ref p0_regs, .ref p0_memory])), (p0_kinds, .inl (cI, 3, .inl p0_kinds_f)), (p0_regs, .inl (cI, 3, .inl p0_regs_f)), (p0_memory, .inr (1, [.int p0_memory_base, .int p0_memory_index, .int p0_memory_scale, .int p0_memory_disp]))]) (st1 := []) ⟨hx, hb, hml, hown, hts⟩ (c_X0_begin l D cI tT o o_kinds o_regs o_memory o_op o_size o_cond o_number o_kinds_f o_regs_f p0_op p0_size p0_cond y1 y2 y3 y4 y5 q6) (cwV 3 hts gX0_copyFrom_X0_begin rfl rfl rfl (by decide +kernel) ⟨Nat.le_of_ble_eq_true rfl, Nat.le_of_ble_eq_true rfl⟩) hXg hK hP hD hS hA hXs [0, 1, 2] rfl rfl  rfl rfl rfl rfl rfl rfl hl.1 rfl (Nat.le_of_ble_eq_true rfl) rfl ⟨Nat.zero_le _, Nat.zero_le _⟩ dX0_copyFrom_13 (fun H locs hP hD hS => ?_)
  refine lv_iconst (v := (0 : Int32)) hx hb dX0_copyFrom_16 (by decide) ?_
  refine lv_istore_n (lv' := [(2, .int (0 : Int32)), (0, .ref o), (1, .ref p0)]) hx hb dX0_copyFrom_17 rfl hl (by decide) rfl (fun ls hl => ?_)
  refine lv_iload_n hx hb dX0_copyFrom_18 rfl (lv_at hl 0 rfl) ?_
  refine lv_iconst (v := (3 : Int32)) hx hb dX0_copyFrom_19 (by decide) ?_
  refine lv_icmp_ge (tgt := 44) hx hb dX0_copyFrom_20 (by decide) (fun c9 => absurd c9 (by decide)) (fun _ => ?_)
  refine lv_aload_n hx hb dX0_copyFrom_23 rfl (lv_at hl 1 rfl) ?_
  refine lv_iload_n hx hb dX0_copyFrom_24 rfl (lv_at hl 0 rfl) ?_
  refine lv_aload_n hx hb dX0_copyFrom_25 rfl (lv_at hl 2 rfl) ?_
  refine lv_iload_n hx hb dX0_copyFrom_26 rfl (lv_at hl 0 rfl) ?_
  refine qw_callV (As := [.int (0 : Int32)]) (rest := [.int (0 : Int32), .ref o]) (ws' := [(o, .inr (0, [.int y1, .int y2, .int y3, .long o_number, .ref o_kinds, .ref o_regs, .ref o_memory])), (o_kinds, .inl (cI, 3, .inl y4)), (o_regs, .inl (cI, 3, .inl y5)), (o_memory, .inr (1, [.int o_memory_base, .int o_memory_index, .int o_memory_scale, .int o_memory_disp])), (p0, .inr (0, [.int p0_op, .int p0_size, .int p0_cond, .long p0_number, .ref p0_kinds, .ref p0_regs, .ref p0_memory])), (p0_kinds, .inl (cI, 3, .inl p0_kinds_f)), (p0_regs, .inl (cI, 3, .inl p0_regs_f)), (p0_memory, .inr (1, [.int p0_memory_base, .int p0_memory_index, .int p0_memory_scale, .int p0_memory_disp]))]) (st1 := [.int (f_X0_kindOf p0_kinds_f (0 : Int32)), .int (0 : Int32), .ref o]) ⟨hx, hb, hml, hown, hts⟩ (c_X0_kindOf l D cI tT p0 p0_kinds p0_regs p0_memory p0_op p0_size p0_cond p0_number p0_kinds_f (0 : Int32) (f_X0_kindOf p0_kinds_f (0 : Int32)) rfl) (cwV 1 hts gX0_copyFrom_X0_kindOf rfl rfl rfl (by decide +kernel) ⟨Nat.le_of_ble_eq_true rfl, Nat.le_of_ble_eq_true rfl⟩) hXg hK hP hD hS hA hXs [4, 5] rfl rfl  rfl rfl rfl rfl rfl rfl hl.1 rfl (Nat.le_of_ble_eq_true rfl) rfl ⟨Nat.zero_le _, Nat.zero_le _⟩ dX0_copyFrom_27 (fun H locs hP hD hS => ?_)
  refine lv_aload_n hx hb dX0_copyFrom_30 rfl (lv_at hl 2 rfl) ?_
  refine lv_iload_n hx hb dX0_copyFrom_31 rfl (lv_at hl 0 rfl) ?_
  refine qw_callV (As := [.int (0 : Int32)]) (rest := [.int (f_X0_kindOf p0_kinds_f (0 : Int32)), .int (0 : Int32), .ref o]) (ws' := [(o, .inr (0, [.int y1, .int y2, .int y3, .long o_number, .ref o_kinds, .ref o_regs, .ref o_memory])), (o_kinds, .inl (cI, 3, .inl y4)), (o_regs, .inl (cI, 3, .inl y5)), (o_memory, .inr (1, [.int o_memory_base, .int o_memory_index, .int o_memory_scale, .int o_memory_disp])), (p0, .inr (0, [.int p0_op, .int p0_size, .int p0_cond, .long p0_number, .ref p0_kinds, .ref p0_regs, .ref p0_memory])), (p0_kinds, .inl (cI, 3, .inl p0_kinds_f)), (p0_regs, .inl (cI, 3, .inl p0_regs_f)), (p0_memory, .inr (1, [.int p0_memory_base, .int p0_memory_index, .int p0_memory_scale, .int p0_memory_disp]))]) (st1 := [.int (f_X0_registerOf p0_regs_f (0 : Int32)), .int (f_X0_kindOf p0_kinds_f (0 : Int32)), .int (0 : Int32), .ref o]) ⟨hx, hb, hml, hown, hts⟩ (c_X0_registerOf l D cI tT p0 p0_kinds p0_regs p0_memory p0_op p0_size p0_cond p0_number p0_regs_f (0 : Int32) (f_X0_registerOf p0_regs_f (0 : Int32)) rfl) (cwV 1 hts gX0_copyFrom_X0_registerOf rfl rfl rfl (by decide +kernel) ⟨Nat.le_of_ble_eq_true rfl, Nat.le_of_ble_eq_true rfl⟩) hXg hK hP hD hS hA hXs [4, 6] rfl rfl  rfl rfl rfl rfl rfl rfl hl.1 rfl (Nat.le_of_ble_eq_true rfl) rfl ⟨Nat.zero_le _, Nat.zero_le _⟩ dX0_copyFrom_32 (fun H locs hP hD hS => ?_)
  obtain ⟨y7, y8, q9⟩ : ∃ y7 y8, (f_X0_setOperand y4 y5 (0 : Int32) (f_X0_kindOf p0_kinds_f (0 : Int32)) (f_X0_registerOf p0_regs_f (0 : Int32))) = (y7, y8) := ⟨_, _, rfl⟩
  rw [q9] at E
  dsimp only at E
  refine qw_callV (As := [.int (0 : Int32), .int (f_X0_kindOf p0_kinds_f (0 : Int32)), .int (f_X0_registerOf p0_regs_f (0 : Int32))]) (rest := []) (ws' := [(o, .inr (0, [.int y1, .int y2, .int y3, .long o_number, .ref o_kinds, .ref o_regs, .ref o_memory])), (o_kinds, .inl (cI, 3, .inl y7)), (o_regs, .inl (cI, 3, .inl y8)), (o_memory, .inr (1, [.int o_memory_base, .int o_memory_index, .int o_memory_scale, .int o_memory_disp])), (p0, .inr (0, [.int p0_op, .int p0_size, .int p0_cond, .long p0_number, .ref p0_kinds, .ref p0_regs, .ref p0_memory])), (p0_kinds, .inl (cI, 3, .inl p0_kinds_f)), (p0_regs, .inl (cI, 3, .inl p0_regs_f)), (p0_memory, .inr (1, [.int p0_memory_base, .int p0_memory_index, .int p0_memory_scale, .int p0_memory_disp]))]) (st1 := []) ⟨hx, hb, hml, hown, hts⟩ (c_X0_setOperand l D cI tT o o_kinds o_regs o_memory y1 y2 y3 o_number y4 y5 (0 : Int32) (f_X0_kindOf p0_kinds_f (0 : Int32)) (f_X0_registerOf p0_regs_f (0 : Int32)) y7 y8 q9) (cwV 3 hts gX0_copyFrom_X0_setOperand rfl rfl rfl (by decide +kernel) ⟨Nat.le_of_ble_eq_true rfl, Nat.le_of_ble_eq_true rfl⟩) hXg hK hP hD hS hA hXs [0, 1, 2] rfl rfl  rfl rfl rfl rfl rfl rfl hl.1 rfl (Nat.le_of_ble_eq_true rfl) rfl ⟨Nat.zero_le _, Nat.zero_le _⟩ dX0_copyFrom_35 (fun H locs hP hD hS => ?_)
  refine lv_iinc (v := (1 : Int32)) (lv' := [(2, .int (1 : Int32)), (0, .ref o), (1, .ref p0)]) hx hb dX0_copyFrom_38 hl (k := 0) rfl (by first | rfl | decide) (by decide) rfl (fun ls hl => ?_)
  refine lv_goto (tgt := 18) hx hb dX0_copyFrom_41 (by decide) ?_
  refine lv_iload_n hx hb dX0_copyFrom_18 rfl (lv_at hl 0 rfl) ?_
  refine lv_iconst (v := (3 : Int32)) hx hb dX0_copyFrom_19 (by decide) ?_
  refine lv_icmp_ge (tgt := 44) hx hb dX0_copyFrom_20 (by decide) (fun c9 => absurd c9 (by decide)) (fun _ => ?_)
  refine lv_aload_n hx hb dX0_copyFrom_23 rfl (lv_at hl 1 rfl) ?_
  refine lv_iload_n hx hb dX0_copyFrom_24 rfl (lv_at hl 0 rfl) ?_
  refine lv_aload_n hx hb dX0_copyFrom_25 rfl (lv_at hl 2 rfl) ?_
  refine lv_iload_n hx hb dX0_copyFrom_26 rfl (lv_at hl 0 rfl) ?_
  refine qw_callV (As := [.int (1 : Int32)]) (rest := [.int (1 : Int32), .ref o]) (ws' := [(o, .inr (0, [.int y1, .int y2, .int y3, .long o_number, .ref o_kinds, .ref o_regs, .ref o_memory])), (o_kinds, .inl (cI, 3, .inl y7)), (o_regs, .inl (cI, 3, .inl y8)), (o_memory, .inr (1, [.int o_memory_base, .int o_memory_index, .int o_memory_scale, .int o_memory_disp])), (p0, .inr (0, [.int p0_op, .int p0_size, .int p0_cond, .long p0_number, .ref p0_kinds, .ref p0_regs, .ref p0_memory])), (p0_kinds, .inl (cI, 3, .inl p0_kinds_f)), (p0_regs, .inl (cI, 3, .inl p0_regs_f)), (p0_memory, .inr (1, [.int p0_memory_base, .int p0_memory_index, .int p0_memory_scale, .int p0_memory_disp]))]) (st1 := [.int (f_X0_kindOf p0_kinds_f (1 : Int32)), .int (1 : Int32), .ref o]) ⟨hx, hb, hml, hown, hts⟩ (c_X0_kindOf l D cI tT p0 p0_kinds p0_regs p0_memory p0_op p0_size p0_cond p0_number p0_kinds_f (1 : Int32) (f_X0_kindOf p0_kinds_f (1 : Int32)) rfl) (cwV 1 hts gX0_copyFrom_X0_kindOf rfl rfl rfl (by decide +kernel) ⟨Nat.le_of_ble_eq_true rfl, Nat.le_of_ble_eq_true rfl⟩) hXg hK hP hD hS hA hXs [4, 5] rfl rfl  rfl rfl rfl rfl rfl rfl hl.1 rfl (Nat.le_of_ble_eq_true rfl) rfl ⟨Nat.zero_le _, Nat.zero_le _⟩ dX0_copyFrom_27 (fun H locs hP hD hS => ?_)
  refine lv_aload_n hx hb dX0_copyFrom_30 rfl (lv_at hl 2 rfl) ?_
  refine lv_iload_n hx hb dX0_copyFrom_31 rfl (lv_at hl 0 rfl) ?_
  refine qw_callV (As := [.int (1 : Int32)]) (rest := [.int (f_X0_kindOf p0_kinds_f (1 : Int32)), .int (1 : Int32), .ref o]) (ws' := [(o, .inr (0, [.int y1, .int y2, .int y3, .long o_number, .ref o_kinds, .ref o_regs, .ref o_memory])), (o_kinds, .inl (cI, 3, .inl y7)), (o_regs, .inl (cI, 3, .inl y8)), (o_memory, .inr (1, [.int o_memory_base, .int o_memory_index, .int o_memory_scale, .int o_memory_disp])), (p0, .inr (0, [.int p0_op, .int p0_size, .int p0_cond, .long p0_number, .ref p0_kinds, .ref p0_regs, .ref p0_memory])), (p0_kinds, .inl (cI, 3, .inl p0_kinds_f)), (p0_regs, .inl (cI, 3, .inl p0_regs_f)), (p0_memory, .inr (1, [.int p0_memory_base, .int p0_memory_index, .int p0_memory_scale, .int p0_memory_disp]))]) (st1 := [.int (f_X0_registerOf p0_regs_f (1 : Int32)), .int (f_X0_kindOf p0_kinds_f (1 : Int32)), .int (1 : Int32), .ref o]) ⟨hx, hb, hml, hown, hts⟩ (c_X0_registerOf l D cI tT p0 p0_kinds p0_regs p0_memory p0_op p0_size p0_cond p0_number p0_regs_f (1 : Int32) (f_X0_registerOf p0_regs_f (1 : Int32)) rfl) (cwV 1 hts gX0_copyFrom_X0_registerOf rfl rfl rfl (by decide +kernel) ⟨Nat.le_of_ble_eq_true rfl, Nat.le_of_ble_eq_true rfl⟩) hXg hK hP hD hS hA hXs [4, 6] rfl rfl  rfl rfl rfl rfl rfl rfl hl.1 rfl (Nat.le_of_ble_eq_true rfl) rfl ⟨Nat.zero_le _, Nat.zero_le _⟩ dX0_copyFrom_32 (fun H locs hP hD hS => ?_)
  obtain ⟨y10, y11, q12⟩ : ∃ y10 y11, (f_X0_setOperand y7 y8 (1 : Int32) (f_X0_kindOf p0_kinds_f (1 : Int32)) (f_X0_registerOf p0_regs_f (1 : Int32))) = (y10, y11) := ⟨_, _, rfl⟩
  rw [q12] at E
  dsimp only at E
  refine qw_callV (As := [.int (1 : Int32), .int (f_X0_kindOf p0_kinds_f (1 : Int32)), .int (f_X0_registerOf p0_regs_f (1 : Int32))]) (rest := []) (ws' := [(o, .inr (0, [.int y1, .int y2, .int y3, .long o_number, .ref o_kinds, .ref o_regs, .ref o_memory])), (o_kinds, .inl (cI, 3, .inl y10)), (o_regs, .inl (cI, 3, .inl y11)), (o_memory, .inr (1, [.int o_memory_base, .int o_memory_index, .int o_memory_scale, .int o_memory_disp])), (p0, .inr (0, [.int p0_op, .int p0_size, .int p0_cond, .long p0_number, .ref p0_kinds, .ref p0_regs, .ref p0_memory])), (p0_kinds, .inl (cI, 3, .inl p0_kinds_f)), (p0_regs, .inl (cI, 3, .inl p0_regs_f)), (p0_memory, .inr (1, [.int p0_memory_base, .int p0_memory_index, .int p0_memory_scale, .int p0_memory_disp]))]) (st1 := []) ⟨hx, hb, hml, hown, hts⟩ (c_X0_setOperand l D cI tT o o_kinds o_regs o_memory y1 y2 y3 o_number y7 y8 (1 : Int32) (f_X0_kindOf p0_kinds_f (1 : Int32)) (f_X0_registerOf p0_regs_f (1 : Int32)) y10 y11 q12) (cwV 3 hts gX0_copyFrom_X0_setOperand rfl rfl rfl (by decide +kernel) ⟨Nat.le_of_ble_eq_true rfl, Nat.le_of_ble_eq_true rfl⟩) hXg hK hP hD hS hA hXs [0, 1, 2] rfl rfl  rfl rfl rfl rfl rfl rfl hl.1 rfl (Nat.le_of_ble_eq_true rfl) rfl ⟨Nat.zero_le _, Nat.zero_le _⟩ dX0_copyFrom_35 (fun H locs hP hD hS => ?_)
  refine lv_iinc (v := (2 : Int32)) (lv' := [(2, .int (2 : Int32)), (0, .ref o), (1, .ref p0)]) hx hb dX0_copyFrom_38 hl (k := 0) rfl (by first | rfl | decide) (by decide) rfl (fun ls hl => ?_)
  refine lv_goto (tgt := 18) hx hb dX0_copyFrom_41 (by decide) ?_
  refine lv_iload_n hx hb dX0_copyFrom_18 rfl (lv_at hl 0 rfl) ?_
  refine lv_iconst (v := (3 : Int32)) hx hb dX0_copyFrom_19 (by decide) ?_
  refine lv_icmp_ge (tgt := 44) hx hb dX0_copyFrom_20 (by decide) (fun c9 => absurd c9 (by decide)) (fun _ => ?_)
  refine lv_aload_n hx hb dX0_copyFrom_23 rfl (lv_at hl 1 rfl) ?_
  refine lv_iload_n hx hb dX0_copyFrom_24 rfl (lv_at hl 0 rfl) ?_
  refine lv_aload_n hx hb dX0_copyFrom_25 rfl (lv_at hl 2 rfl) ?_
  refine lv_iload_n hx hb dX0_copyFrom_26 rfl (lv_at hl 0 rfl) ?_
  refine qw_callV (As := [.int (2 : Int32)]) (rest := [.int (2 : Int32), .ref o]) (ws' := [(o, .inr (0, [.int y1, .int y2, .int y3, .long o_number, .ref o_kinds, .ref o_regs, .ref o_memory])), (o_kinds, .inl (cI, 3, .inl y10)), (o_regs, .inl (cI, 3, .inl y11)), (o_memory, .inr (1, [.int o_memory_base, .int o_memory_index, .int o_memory_scale, .int o_memory_disp])), (p0, .inr (0, [.int p0_op, .int p0_size, .int p0_cond, .long p0_number, .ref p0_kinds, .ref p0_regs, .ref p0_memory])), (p0_kinds, .inl (cI, 3, .inl p0_kinds_f)), (p0_regs, .inl (cI, 3, .inl p0_regs_f)), (p0_memory, .inr (1, [.int p0_memory_base, .int p0_memory_index, .int p0_memory_scale, .int p0_memory_disp]))]) (st1 := [.int (f_X0_kindOf p0_kinds_f (2 : Int32)), .int (2 : Int32), .ref o]) ⟨hx, hb, hml, hown, hts⟩ (c_X0_kindOf l D cI tT p0 p0_kinds p0_regs p0_memory p0_op p0_size p0_cond p0_number p0_kinds_f (2 : Int32) (f_X0_kindOf p0_kinds_f (2 : Int32)) rfl) (cwV 1 hts gX0_copyFrom_X0_kindOf rfl rfl rfl (by decide +kernel) ⟨Nat.le_of_ble_eq_true rfl, Nat.le_of_ble_eq_true rfl⟩) hXg hK hP hD hS hA hXs [4, 5] rfl rfl  rfl rfl rfl rfl rfl rfl hl.1 rfl (Nat.le_of_ble_eq_true rfl) rfl ⟨Nat.zero_le _, Nat.zero_le _⟩ dX0_copyFrom_27 (fun H locs hP hD hS => ?_)
  refine lv_aload_n hx hb dX0_copyFrom_30 rfl (lv_at hl 2 rfl) ?_
  refine lv_iload_n hx hb dX0_copyFrom_31 rfl (lv_at hl 0 rfl) ?_
  refine qw_callV (As := [.int (2 : Int32)]) (rest := [.int (f_X0_kindOf p0_kinds_f (2 : Int32)), .int (2 : Int32), .ref o]) (ws' := [(o, .inr (0, [.int y1, .int y2, .int y3, .long o_number, .ref o_kinds, .ref o_regs, .ref o_memory])), (o_kinds, .inl (cI, 3, .inl y10)), (o_regs, .inl (cI, 3, .inl y11)), (o_memory, .inr (1, [.int o_memory_base, .int o_memory_index, .int o_memory_scale, .int o_memory_disp])), (p0, .inr (0, [.int p0_op, .int p0_size, .int p0_cond, .long p0_number, .ref p0_kinds, .ref p0_regs, .ref p0_memory])), (p0_kinds, .inl (cI, 3, .inl p0_kinds_f)), (p0_regs, .inl (cI, 3, .inl p0_regs_f)), (p0_memory, .inr (1, [.int p0_memory_base, .int p0_memory_index, .int p0_memory_scale, .int p0_memory_disp]))]) (st1 := [.int (f_X0_registerOf p0_regs_f (2 : Int32)), .int (f_X0_kindOf p0_kinds_f (2 : Int32)), .int (2 : Int32), .ref o]) ⟨hx, hb, hml, hown, hts⟩ (c_X0_registerOf l D cI tT p0 p0_kinds p0_regs p0_memory p0_op p0_size p0_cond p0_number p0_regs_f (2 : Int32) (f_X0_registerOf p0_regs_f (2 : Int32)) rfl) (cwV 1 hts gX0_copyFrom_X0_registerOf rfl rfl rfl (by decide +kernel) ⟨Nat.le_of_ble_eq_true rfl, Nat.le_of_ble_eq_true rfl⟩) hXg hK hP hD hS hA hXs [4, 6] rfl rfl  rfl rfl rfl rfl rfl rfl hl.1 rfl (Nat.le_of_ble_eq_true rfl) rfl ⟨Nat.zero_le _, Nat.zero_le _⟩ dX0_copyFrom_32 (fun H locs hP hD hS => ?_)
  obtain ⟨y13, y14, q15⟩ : ∃ y13 y14, (f_X0_setOperand y10 y11 (2 : Int32) (f_X0_kindOf p0_kinds_f (2 : Int32)) (f_X0_registerOf p0_regs_f (2 : Int32))) = (y13, y14) := ⟨_, _, rfl⟩
  rw [q15] at E
  dsimp only at E
  refine qw_callV (As := [.int (2 : Int32), .int (f_X0_kindOf p0_kinds_f (2 : Int32)), .int (f_X0_registerOf p0_regs_f (2 : Int32))]) (rest := []) (ws' := [(o, .inr (0, [.int y1, .int y2, .int y3, .long o_number, .ref o_kinds, .ref o_regs, .ref o_memory])), (o_kinds, .inl (cI, 3, .inl y13)), (o_regs, .inl (cI, 3, .inl y14)), (o_memory, .inr (1, [.int o_memory_base, .int o_memory_index, .int o_memory_scale, .int o_memory_disp])), (p0, .inr (0, [.int p0_op, .int p0_size, .int p0_cond, .long p0_number, .ref p0_kinds, .ref p0_regs, .ref p0_memory])), (p0_kinds, .inl (cI, 3, .inl p0_kinds_f)), (p0_regs, .inl (cI, 3, .inl p0_regs_f)), (p0_memory, .inr (1, [.int p0_memory_base, .int p0_memory_index, .int p0_memory_scale, .int p0_memory_disp]))]) (st1 := []) ⟨hx, hb, hml, hown, hts⟩ (c_X0_setOperand l D cI tT o o_kinds o_regs o_memory y1 y2 y3 o_number y10 y11 (2 : Int32) (f_X0_kindOf p0_kinds_f (2 : Int32)) (f_X0_registerOf p0_regs_f (2 : Int32)) y13 y14 q15) (cwV 3 hts gX0_copyFrom_X0_setOperand rfl rfl rfl (by decide +kernel) ⟨Nat.le_of_ble_eq_true rfl, Nat.le_of_ble_eq_true rfl⟩) hXg hK hP hD hS hA hXs [0, 1, 2] rfl rfl  rfl rfl rfl rfl rfl rfl hl.1 rfl (Nat.le_of_ble_eq_true rfl) rfl ⟨Nat.zero_le _, Nat.zero_le _⟩ dX0_copyFrom_35 (fun H locs hP hD hS => ?_)
  refine lv_iinc (v := (3 : Int32)) (lv' := [(2, .int (3 : Int32)), (0, .ref o), (1, .ref p0)]) hx hb dX0_copyFrom_38 hl (k := 0) rfl (by first | rfl | decide) (by decide) rfl (fun ls hl => ?_)
  refine lv_goto (tgt := 18) hx hb dX0_copyFrom_41 (by decide) ?_
  refine lv_iload_n hx hb dX0_copyFrom_18 rfl (lv_at hl 0 rfl) ?_
  refine lv_iconst (v := (3 : Int32)) hx hb dX0_copyFrom_19 (by decide) ?_
  refine lv_icmp_ge (tgt := 44) hx hb dX0_copyFrom_20 (by decide) (fun _ => ?_) (fun c9 => absurd c9 (by decide))
  refine lv_aload_n hx hb dX0_copyFrom_44 rfl (lv_at hl 2 rfl) ?_
  refine va_get (D := D) (ci := 0) (v := .ref p0_memory) (C := RX0) (T := TX0) (N := 7) hx hb hts hi_X0 hown hK hP 4 rfl rfl 6 (by decide) lk25 (fun _ h9 => h9) rfl dX0_copyFrom_45 ?_
  refine lv_astore_n (lv' := [(2, .ref p0_memory), (0, .ref o), (1, .ref p0)]) hx hb dX0_copyFrom_48 rfl hl (by decide) rfl (fun ls hl => ?_)
  refine lv_aload_n hx hb dX0_copyFrom_49 rfl (lv_at hl 1 rfl) ?_
  refine va_get (D := D) (ci := 0) (v := .ref o_memory) (C := RX0) (T := TX0) (N := 7) hx hb hts hi_X0 hown hK hP 0 rfl rfl 6 (by decide) lk25 (fun _ h9 => h9) rfl dX0_copyFrom_50 ?_
  refine lv_aload_n hx hb dX0_copyFrom_53 rfl (lv_at hl 0 rfl) ?_
  refine va_getN (D := D) (ci := 1) (v := .int p0_memory_base) (C := RX1) (T := TX1) (N := 4) hx hb hts hi_X1 hown hK hP 7 rfl rfl 0 (by decide) lk49 (fun _ h9 => h9) rfl dX0_copyFrom_54 ?_
  refine lv_aload_n hx hb dX0_copyFrom_57 rfl (lv_at hl 0 rfl) ?_
  refine va_getN (D := D) (ci := 1) (v := .int p0_memory_index) (C := RX1) (T := TX1) (N := 4) hx hb hts hi_X1 hown hK hP 7 rfl rfl 1 (by decide) lk52 (fun _ h9 => h9) rfl dX0_copyFrom_58 ?_
  refine lv_aload_n hx hb dX0_copyFrom_61 rfl (lv_at hl 0 rfl) ?_
  refine va_getN (D := D) (ci := 1) (v := .int p0_memory_scale) (C := RX1) (T := TX1) (N := 4) hx hb hts hi_X1 hown hK hP 7 rfl rfl 2 (by decide) lk55 (fun _ h9 => h9) rfl dX0_copyFrom_62 ?_
  refine lv_aload_n hx hb dX0_copyFrom_65 rfl (lv_at hl 0 rfl) ?_
  refine va_getN (D := D) (ci := 1) (v := .int p0_memory_disp) (C := RX1) (T := TX1) (N := 4) hx hb hts hi_X1 hown hK hP 7 rfl rfl 3 (by decide) lk58 (fun _ h9 => h9) rfl dX0_copyFrom_66 ?_
  obtain ⟨y16, y17, y18, y19, q20⟩ : ∃ y16 y17 y18 y19, (f_X1_become p0_memory_base p0_memory_index p0_memory_scale p0_memory_disp) = (y16, y17, y18, y19) := ⟨_, _, _, _, rfl⟩
  rw [q20] at E
  dsimp only at E
  refine qw_callV (As := [.int p0_memory_base, .int p0_memory_index, .int p0_memory_scale, .int p0_memory_disp]) (rest := []) (ws' := [(o, .inr (0, [.int y1, .int y2, .int y3, .long o_number, .ref o_kinds, .ref o_regs, .ref o_memory])), (o_kinds, .inl (cI, 3, .inl y13)), (o_regs, .inl (cI, 3, .inl y14)), (o_memory, .inr (1, [.int y16, .int y17, .int y18, .int y19])), (p0, .inr (0, [.int p0_op, .int p0_size, .int p0_cond, .long p0_number, .ref p0_kinds, .ref p0_regs, .ref p0_memory])), (p0_kinds, .inl (cI, 3, .inl p0_kinds_f)), (p0_regs, .inl (cI, 3, .inl p0_regs_f)), (p0_memory, .inr (1, [.int p0_memory_base, .int p0_memory_index, .int p0_memory_scale, .int p0_memory_disp]))]) (st1 := []) ⟨hx, hb, hml, hown, hts⟩ (c_X1_become l D cI tT o_memory o_memory_base o_memory_index o_memory_scale o_memory_disp p0_memory_base p0_memory_index p0_memory_scale p0_memory_disp y16 y17 y18 y19 q20) (cwV 4 hts gX0_copyFrom_X1_become rfl rfl rfl (by decide +kernel) ⟨Nat.le_of_ble_eq_true rfl, Nat.le_of_ble_eq_true rfl⟩) hXg hK hP hD hS hA hXs [3] rfl rfl  rfl rfl rfl rfl rfl rfl hl.1 rfl (Nat.le_of_ble_eq_true rfl) rfl ⟨Nat.zero_le _, Nat.zero_le _⟩ dX0_copyFrom_69 (fun H locs hP hD hS => ?_)
  refine lv_aload_n hx hb dX0_copyFrom_72 rfl (lv_at hl 1 rfl) ?_
  refine lv_aload_n hx hb dX0_copyFrom_73 rfl (lv_at hl 2 rfl) ?_
  refine va_get (D := D) (ci := 0) (v := .long p0_number) (C := RX0) (T := TX0) (N := 7) hx hb hts hi_X0 hown hK hP 4 rfl rfl 3 (by decide) lk65 (fun _ h9 => h9) rfl dX0_copyFrom_74 ?_
  refine va_put (D := D) (ci := 0) (v := .long p0_number) (ty := .long) (C := RX0) (T := TX0) (N := 7) hx hb hts hi_X0 tyX0 tyX0_ok nmX0 hown hK hP hD hS 0 rfl rfl 3 (by decide) lk65 (fun _ h9 => h9) rfl (by decide +kernel) rfl rfl (Nat.le_of_ble_eq_true rfl) dX0_copyFrom_77 (fun H locs hP hD hS => ?_)
  have hP : va_P D vwCl [(o, .inr (0, [.int y1, .int y2, .int y3, .long p0_number, .ref o_kinds, .ref o_regs, .ref o_memory])), (o_kinds, .inl (cI, 3, .inl y13)), (o_regs, .inl (cI, 3, .inl y14)), (o_memory, .inr (1, [.int y16, .int y17, .int y18, .int y19])), (p0, .inr (0, [.int p0_op, .int p0_size, .int p0_cond, .long p0_number, .ref p0_kinds, .ref p0_regs, .ref p0_memory])), (p0_kinds, .inl (cI, 3, .inl p0_kinds_f)), (p0_regs, .inl (cI, 3, .inl p0_regs_f)), (p0_memory, .inr (1, [.int p0_memory_base, .int p0_memory_index, .int p0_memory_scale, .int p0_memory_disp]))] H := hP
  have hD : va_D A [(o, .inr (0, [.int y1, .int y2, .int y3, .long p0_number, .ref o_kinds, .ref o_regs, .ref o_memory])), (o_kinds, .inl (cI, 3, .inl y13)), (o_regs, .inl (cI, 3, .inl y14)), (o_memory, .inr (1, [.int y16, .int y17, .int y18, .int y19])), (p0, .inr (0, [.int p0_op, .int p0_size, .int p0_cond, .long p0_number, .ref p0_kinds, .ref p0_regs, .ref p0_memory])), (p0_kinds, .inl (cI, 3, .inl p0_kinds_f)), (p0_regs, .inl (cI, 3, .inl p0_regs_f)), (p0_memory, .inr (1, [.int p0_memory_base, .int p0_memory_index, .int p0_memory_scale, .int p0_memory_disp]))] := hD
  cases E
  rw [hZ]
  exact qw_vret hx hb hr hlk hP hD hS dX0_copyFrom_80
