def f_X6_op (o_writer_from_kinds_f : (Nat → Int32)) (o_writer_from_regs_f : (Nat → Int32)) (p0 : Int32) (p1 : Int32) (p2 : Int32) : Int32 × Int32 × Int32 × (Nat → Int32) × (Nat → Int32) := (match (f_X0_begin o_writer_from_kinds_f o_writer_from_regs_f p0 p1 p2) with | (y1, y2, y3, y4, y5) => (y1, y2, y3, y4, y5))
set_option maxHeartbeats 4000000 in
set_option maxRecDepth 100000 in
theorem c_X6_op (l : Launch) (D : va_G) (cI : ClassId) (tT : Nat) (o : Nat) (o_writer_from : Nat) (o_encoded : Nat) (o_writer_out : Nat) (o_writer : Nat) (o_reader_in : Nat) (o_reader : Nat) (o_writer_from_kinds : Nat) (o_writer_from_regs : Nat) (o_writer_from_memory : Nat) (o_writer_from_op : Int32) (o_writer_from_size : Int32) (o_writer_from_cond : Int32) (o_writer_from_number : Int64) (o_writer_from_kinds_f : (Nat → Int32)) (o_writer_from_regs_f : (Nat → Int32)) (p0 : Int32) (p1 : Int32) (p2 : Int32) (o_writer_from_op_o : Int32) (o_writer_from_size_o : Int32) (o_writer_from_cond_o : Int32) (o_writer_from_kinds_f_o : (Nat → Int32)) (o_writer_from_regs_f_o : (Nat → Int32)) (hq : f_X6_op o_writer_from_kinds_f o_writer_from_regs_f p0 p1 p2 = (o_writer_from_op_o, o_writer_from_size_o, o_writer_from_cond_o, o_writer_from_kinds_f_o, o_writer_from_regs_f_o)) : qM l yX6_op wsX6_op (qr 2 47) (qX tT) D vwCl [(cI, .int)] [(o, .inr (5, [.ref o_writer_from, .ref o_encoded, .ref o_writer_out, .ref o_writer, .ref o_reader_in, .ref o_reader])), (o_writer_from, .inr (0, [.int o_writer_from_op, .int o_writer_from_size, .int o_writer_from_cond, .long o_writer_from_number, .ref o_writer_from_kinds, .ref o_writer_from_regs, .ref o_writer_from_memory])), (o_writer_from_kinds, .inl (cI, 3, .inl o_writer_from_kinds_f)), (o_writer_from_regs, .inl (cI, 3, .inl o_writer_from_regs_f))] [.ref o, .int p0, .int p1, .int p2] none [(o, .inr (5, [.ref o_writer_from, .ref o_encoded, .ref o_writer_out, .ref o_writer, .ref o_reader_in, .ref o_reader])), (o_writer_from, .inr (0, [.int o_writer_from_op_o, .int o_writer_from_size_o, .int o_writer_from_cond_o, .long o_writer_from_number, .ref o_writer_from_kinds, .ref o_writer_from_regs, .ref o_writer_from_memory])), (o_writer_from_kinds, .inl (cI, 3, .inl o_writer_from_kinds_f_o)), (o_writer_from_regs, .inl (cI, 3, .inl o_writer_from_regs_f_o))] := by
  refine qM_of (cc := cX6_op) (maxL := 4) (ret := none) (by decide) rfl (Nat.le_of_ble_eq_true rfl) ?_
  intro p e s m args below meth c A ls Z hx hb hml hr hts hown hlk hK hA hXs hP hD hS hl hZ
  have hown : s.vm.findClass RX6 = some m.cls := hown
  have hl : lv_has ls 4 [(0, .ref o), (1, .int p0), (2, .int p1), (3, .int p2)] := hl
  have hi_X6 : ∀ w ∈ wsX60, w ∈ wsX6_op := by decide +kernel
  have lk20 := hts (.fieldLink RX6 20 "InstructionCoder" "fields" "LInstructionCoder$Fields;") (by decide +kernel)
  have hXg := qX_ok tT
  have E := hq
  rw [f_X6_op] at E
  refine lv_aload_n hx hb dX6_op_0 rfl (lv_at hl 0 rfl) ?_
  refine va_get (D := D) (ci := 5) (v := .ref o_writer_from) (C := RX6) (T := TX6) (N := 6) hx hb hts hi_X6 hown hK hP 0 rfl rfl 0 (by decide) lk20 (fun _ h9 => h9) rfl dX6_op_1 ?_
  refine lv_iload_n hx hb dX6_op_4 rfl (lv_at hl 1 rfl) ?_
  refine lv_iload_n hx hb dX6_op_5 rfl (lv_at hl 2 rfl) ?_
  refine lv_iload_n hx hb dX6_op_6 rfl (lv_at hl 3 rfl) ?_
  obtain ⟨y1, y2, y3, y4, y5, q6⟩ : ∃ y1 y2 y3 y4 y5, (f_X0_begin o_writer_from_kinds_f o_writer_from_regs_f p0 p1 p2) = (y1, y2, y3, y4, y5) := ⟨_, _, _, _, _, rfl⟩
  rw [q6] at E
  dsimp only at E
  refine qw_callV (As := [.int p0, .int p1, .int p2]) (rest := []) (ws' := [(o, .inr (5, [.ref o_writer_from, .ref o_encoded, .ref o_writer_out, .ref o_writer, .ref o_reader_in, .ref o_reader])), (o_writer_from, .inr (0, [.int y1, .int y2, .int y3, .long o_writer_from_number, .ref o_writer_from_kinds, .ref o_writer_from_regs, .ref o_writer_from_memory])), (o_writer_from_kinds, .inl (cI, 3, .inl y4)), (o_writer_from_regs, .inl (cI, 3, .inl y5))]) (st1 := []) ⟨hx, hb, hml, hown, hts⟩ (c_X0_begin l D cI tT o_writer_from o_writer_from_kinds o_writer_from_regs o_writer_from_memory o_writer_from_op o_writer_from_size o_writer_from_cond o_writer_from_number o_writer_from_kinds_f o_writer_from_regs_f p0 p1 p2 y1 y2 y3 y4 y5 q6) (cwV 3 hts gX6_op_X0_begin rfl rfl rfl (by decide +kernel) ⟨Nat.le_of_ble_eq_true rfl, Nat.le_of_ble_eq_true rfl⟩) hXg hK hP hD hS hA hXs [1, 2, 3] rfl rfl  rfl rfl rfl rfl rfl rfl hl.1 rfl (Nat.le_of_ble_eq_true rfl) rfl ⟨Nat.zero_le _, Nat.zero_le _⟩ dX6_op_7 (fun H locs hP hD hS => ?_)
  cases E
  rw [hZ]
  exact qw_vret hx hb hr hlk hP hD hS dX6_op_10
def f_X6_operand_J7 (o_writer_from_kinds_f : (Nat → Int32)) (o_writer_from_regs_f : (Nat → Int32)) (p0 : Int32) (p1 : Int32) (p2 : Int32) (x6 : Int32) : Int32 × (Nat → Int32) × (Nat → Int32) := (if p2 < 0 then (((0 : Int32), o_writer_from_kinds_f, o_writer_from_regs_f)) else (if p2 ≤ x6 then (match (f_X0_setOperand o_writer_from_kinds_f o_writer_from_regs_f p0 p1 p2) with | (y10, y11) => ((1 : Int32), y10, y11)) else (((0 : Int32), o_writer_from_kinds_f, o_writer_from_regs_f))))
def f_X6_operand (o_writer_from_kinds_f : (Nat → Int32)) (o_writer_from_regs_f : (Nat → Int32)) (p0 : Int32) (p1 : Int32) (p2 : Int32) : Int32 × (Nat → Int32) × (Nat → Int32) := (if p0 < 0 then (((0 : Int32), o_writer_from_kinds_f, o_writer_from_regs_f)) else (if (3 : Int32) ≤ p0 then (((0 : Int32), o_writer_from_kinds_f, o_writer_from_regs_f)) else (if p1 < 0 then (((0 : Int32), o_writer_from_kinds_f, o_writer_from_regs_f)) else (if p1 ≤ (3 : Int32) then ((if p1 = (1 : Int32) then (f_X6_operand_J7 o_writer_from_kinds_f o_writer_from_regs_f p0 p1 p2 (15 : Int32)) else (f_X6_operand_J7 o_writer_from_kinds_f o_writer_from_regs_f p0 p1 p2 (0 : Int32)))) else (((0 : Int32), o_writer_from_kinds_f, o_writer_from_regs_f))))))
set_option maxHeartbeats 4000000 in
set_option maxRecDepth 100000 in
theorem c_X6_operand (l : Launch) (D : va_G) (cI : ClassId) (tT : Nat) (o : Nat) (o_writer_from : Nat) (o_encoded : Nat) (o_writer_out : Nat) (o_writer : Nat) (o_reader_in : Nat) (o_reader : Nat) (o_writer_from_kinds : Nat) (o_writer_from_regs : Nat) (o_writer_from_memory : Nat) (o_writer_from_op : Int32) (o_writer_from_size : Int32) (o_writer_from_cond : Int32) (o_writer_from_number : Int64) (o_writer_from_kinds_f : (Nat → Int32)) (o_writer_from_regs_f : (Nat → Int32)) (p0 : Int32) (p1 : Int32) (p2 : Int32) (r_o : Int32) (o_writer_from_kinds_f_o : (Nat → Int32)) (o_writer_from_regs_f_o : (Nat → Int32)) (hq : f_X6_operand o_writer_from_kinds_f o_writer_from_regs_f p0 p1 p2 = (r_o, o_writer_from_kinds_f_o, o_writer_from_regs_f_o)) : qM l yX6_operand wsX6_operand (qr 1 23) (qX tT) D vwCl [(cI, .int)] [(o, .inr (5, [.ref o_writer_from, .ref o_encoded, .ref o_writer_out, .ref o_writer, .ref o_reader_in, .ref o_reader])), (o_writer_from, .inr (0, [.int o_writer_from_op, .int o_writer_from_size, .int o_writer_from_cond, .long o_writer_from_number, .ref o_writer_from_kinds, .ref o_writer_from_regs, .ref o_writer_from_memory])), (o_writer_from_kinds, .inl (cI, 3, .inl o_writer_from_kinds_f)), (o_writer_from_regs, .inl (cI, 3, .inl o_writer_from_regs_f))] [.ref o, .int p0, .int p1, .int p2] (some (.int r_o)) [(o, .inr (5, [.ref o_writer_from, .ref o_encoded, .ref o_writer_out, .ref o_writer, .ref o_reader_in, .ref o_reader])), (o_writer_from, .inr (0, [.int o_writer_from_op, .int o_writer_from_size, .int o_writer_from_cond, .long o_writer_from_number, .ref o_writer_from_kinds, .ref o_writer_from_regs, .ref o_writer_from_memory])), (o_writer_from_kinds, .inl (cI, 3, .inl o_writer_from_kinds_f_o)), (o_writer_from_regs, .inl (cI, 3, .inl o_writer_from_regs_f_o))] := by
  refine qM_of (cc := cX6_operand) (maxL := 5) (ret := (some .boolean)) (by decide) rfl (Nat.le_of_ble_eq_true rfl) ?_
  intro p e s m args below meth c A ls Z hx hb hml hr hts hown hlk hK hA hXs hP hD hS hl hZ
  have hown : s.vm.findClass RX6 = some m.cls := hown
  have hl : lv_has ls 5 [(0, .ref o), (1, .int p0), (2, .int p1), (3, .int p2)] := hl
  have hi_X6 : ∀ w ∈ wsX60, w ∈ wsX6_operand := by decide +kernel
  have lk20 := hts (.fieldLink RX6 20 "InstructionCoder" "fields" "LInstructionCoder$Fields;") (by decide +kernel)
  have hXg := qX_ok tT
  have E := hq
  rw [f_X6_operand] at E
  refine lv_iload_n hx hb dX6_operand_0 rfl (lv_at hl 1 rfl) ?_
  refine lv_if_lt (tgt := 18) hx hb dX6_operand_1 (by decide) (fun c1 => ?_) (fun c1 => ?_)
  · rw [if_pos c1] at E
    refine lv_iconst (v := (0 : Int32)) hx hb dX6_operand_18 (by decide) ?_
    cases E
    rw [hZ]
    exact qw_zret hx hb hr hlk (Or.inl rfl) hP hD hS dX6_operand_19
  · rw [if_neg c1] at E
    refine lv_iload_n hx hb dX6_operand_4 rfl (lv_at hl 1 rfl) ?_
    refine lv_iconst (v := (3 : Int32)) hx hb dX6_operand_5 (by decide) ?_
    refine lv_icmp_ge (tgt := 18) hx hb dX6_operand_6 (by decide) (fun c2 => ?_) (fun c2 => ?_)
    · rw [if_pos c2] at E
      refine lv_iconst (v := (0 : Int32)) hx hb dX6_operand_18 (by decide) ?_
      cases E
      rw [hZ]
      exact qw_zret hx hb hr hlk (Or.inl rfl) hP hD hS dX6_operand_19
    · rw [if_neg c2] at E
      refine lv_iload_n hx hb dX6_operand_9 rfl (lv_at hl 2 rfl) ?_
      refine lv_if_lt (tgt := 18) hx hb dX6_operand_10 (by decide) (fun c3 => ?_) (fun c3 => ?_)
      · rw [if_pos c3] at E
        refine lv_iconst (v := (0 : Int32)) hx hb dX6_operand_18 (by decide) ?_
        cases E
        rw [hZ]
        exact qw_zret hx hb hr hlk (Or.inl rfl) hP hD hS dX6_operand_19
      · rw [if_neg c3] at E
        refine lv_iload_n hx hb dX6_operand_13 rfl (lv_at hl 2 rfl) ?_
        refine lv_iconst (v := (3 : Int32)) hx hb dX6_operand_14 (by decide) ?_
        refine lv_icmp_le (tgt := 20) hx hb dX6_operand_15 (by decide) (fun c4 => ?_) (fun c4 => ?_)
        · rw [if_pos c4] at E
          refine lv_iload_n hx hb dX6_operand_20 rfl (lv_at hl 2 rfl) ?_
          refine lv_iconst (v := (1 : Int32)) hx hb dX6_operand_21 (by decide) ?_
          have J7 : ∀ (x6 : Int32) (ls : Array Slot) (H : Heap) (locs : List Loc), f_X6_operand_J7 o_writer_from_kinds_f o_writer_from_regs_f p0 p1 p2 x6 = (r_o, o_writer_from_kinds_f_o, o_writer_from_regs_f_o) → lv_has ls 5 [(0, .ref o), (1, .int p0), (2, .int p1), (3, .int p2)] → va_P D vwCl [(o, .inr (5, [.ref o_writer_from, .ref o_encoded, .ref o_writer_out, .ref o_writer, .ref o_reader_in, .ref o_reader])), (o_writer_from, .inr (0, [.int o_writer_from_op, .int o_writer_from_size, .int o_writer_from_cond, .long o_writer_from_number, .ref o_writer_from_kinds, .ref o_writer_from_regs, .ref o_writer_from_memory])), (o_writer_from_kinds, .inl (cI, 3, .inl o_writer_from_kinds_f)), (o_writer_from_regs, .inl (cI, 3, .inl o_writer_from_regs_f))] H → va_D A [(o, .inr (5, [.ref o_writer_from, .ref o_encoded, .ref o_writer_out, .ref o_writer, .ref o_reader_in, .ref o_reader])), (o_writer_from, .inr (0, [.int o_writer_from_op, .int o_writer_from_size, .int o_writer_from_cond, .long o_writer_from_number, .ref o_writer_from_kinds, .ref o_writer_from_regs, .ref o_writer_from_memory])), (o_writer_from_kinds, .inl (cI, 3, .inl o_writer_from_kinds_f)), (o_writer_from_regs, .inl (cI, 3, .inl o_writer_from_regs_f))] → va_S A s.heap H locs → W p l e (qr 1 23) s m args below meth c H locs 0 0 Z (F0 m 31 ls [.int x6]) := by
            intro x6 ls H locs E hl hP hD hS
            rw [f_X6_operand_J7] at E
            refine lv_istore (lv' := [(4, .int x6), (0, .ref o), (1, .int p0), (2, .int p1), (3, .int p2)]) hx hb dX6_operand_31 hl (by decide) rfl (fun ls hl => ?_)
            refine lv_iload_n hx hb dX6_operand_33 rfl (lv_at hl 4 rfl) ?_
            refine lv_if_lt (tgt := 43) hx hb dX6_operand_34 (by decide) (fun c8 => ?_) (fun c8 => ?_)
            · rw [if_pos c8] at E
              refine lv_iconst (v := (0 : Int32)) hx hb dX6_operand_43 (by decide) ?_
              cases E
              rw [hZ]
              exact qw_zret hx hb hr hlk (Or.inl rfl) hP hD hS dX6_operand_44
            · rw [if_neg c8] at E
              refine lv_iload_n hx hb dX6_operand_37 rfl (lv_at hl 4 rfl) ?_
              refine lv_iload hx hb dX6_operand_38 (lv_at hl 0 rfl) ?_
              refine lv_icmp_le (tgt := 45) hx hb dX6_operand_40 (by decide) (fun c9 => ?_) (fun c9 => ?_)
              · rw [if_pos c9] at E
                refine lv_aload_n hx hb dX6_operand_45 rfl (lv_at hl 1 rfl) ?_
                refine va_get (D := D) (ci := 5) (v := .ref o_writer_from) (C := RX6) (T := TX6) (N := 6) hx hb hts hi_X6 hown hK hP 0 rfl rfl 0 (by decide) lk20 (fun _ h9 => h9) rfl dX6_operand_46 ?_
                refine lv_iload_n hx hb dX6_operand_49 rfl (lv_at hl 2 rfl) ?_
                refine lv_iload_n hx hb dX6_operand_50 rfl (lv_at hl 3 rfl) ?_
                refine lv_iload_n hx hb dX6_operand_51 rfl (lv_at hl 4 rfl) ?_
                obtain ⟨y10, y11, q12⟩ : ∃ y10 y11, (f_X0_setOperand o_writer_from_kinds_f o_writer_from_regs_f p0 p1 p2) = (y10, y11) := ⟨_, _, rfl⟩
                rw [q12] at E
                dsimp only at E
                refine qw_callV (As := [.int p0, .int p1, .int p2]) (rest := []) (ws' := [(o, .inr (5, [.ref o_writer_from, .ref o_encoded, .ref o_writer_out, .ref o_writer, .ref o_reader_in, .ref o_reader])), (o_writer_from, .inr (0, [.int o_writer_from_op, .int o_writer_from_size, .int o_writer_from_cond, .long o_writer_from_number, .ref o_writer_from_kinds, .ref o_writer_from_regs, .ref o_writer_from_memory])), (o_writer_from_kinds, .inl (cI, 3, .inl y10)), (o_writer_from_regs, .inl (cI, 3, .inl y11))]) (st1 := []) ⟨hx, hb, hml, hown, hts⟩ (c_X0_setOperand l D cI tT o_writer_from o_writer_from_kinds o_writer_from_regs o_writer_from_memory o_writer_from_op o_writer_from_size o_writer_from_cond o_writer_from_number o_writer_from_kinds_f o_writer_from_regs_f p0 p1 p2 y10 y11 q12) (cwV 3 hts gX6_operand_X0_setOperand rfl rfl rfl (by decide +kernel) ⟨Nat.le_of_ble_eq_true rfl, Nat.le_of_ble_eq_true rfl⟩) hXg hK hP hD hS hA hXs [1, 2, 3] rfl rfl  rfl rfl rfl rfl rfl rfl hl.1 rfl (Nat.le_of_ble_eq_true rfl) rfl ⟨Nat.zero_le _, Nat.zero_le _⟩ dX6_operand_52 (fun H locs hP hD hS => ?_)
                refine lv_iconst (v := (1 : Int32)) hx hb dX6_operand_55 (by decide) ?_
                cases E
                rw [hZ]
                exact qw_zret hx hb hr hlk (Or.inr rfl) hP hD hS dX6_operand_56
              · rw [if_neg c9] at E
                refine lv_iconst (v := (0 : Int32)) hx hb dX6_operand_43 (by decide) ?_
                cases E
                rw [hZ]
                exact qw_zret hx hb hr hlk (Or.inl rfl) hP hD hS dX6_operand_44
          refine lv_icmp_ne (tgt := 30) hx hb dX6_operand_22 (by decide) (fun c5 => ?_) (fun c5 => ?_)
          · rw [if_neg c5] at E
            refine lv_iconst (v := (0 : Int32)) hx hb dX6_operand_30 (by decide) ?_
            exact J7 (0 : Int32) ls _ _ E (lv_sub hl [0, 1, 2, 3] rfl) hP hD hS
          · rw [if_pos c5] at E
            refine lv_bipush (v := (15 : Int32)) hx hb dX6_operand_25 (by decide) ?_
            refine lv_goto (tgt := 31) hx hb dX6_operand_27 (by decide) ?_
            exact J7 (15 : Int32) ls _ _ E (lv_sub hl [0, 1, 2, 3] rfl) hP hD hS
        · rw [if_neg c4] at E
          refine lv_iconst (v := (0 : Int32)) hx hb dX6_operand_18 (by decide) ?_
          cases E
          rw [hZ]
          exact qw_zret hx hb hr hlk (Or.inl rfl) hP hD hS dX6_operand_19
def f_X6_memory (p0 : Int32) (p1 : Int32) (p2 : Int32) (p3 : Int32) : Int32 × Int32 × Int32 × Int32 := (match (f_X1_become p0 p1 p2 p3) with | (y1, y2, y3, y4) => (y1, y2, y3, y4))
set_option maxHeartbeats 4000000 in
set_option maxRecDepth 100000 in
theorem c_X6_memory (l : Launch) (D : va_G) (cI : ClassId) (tT : Nat) (o : Nat) (o_writer_from : Nat) (o_encoded : Nat) (o_writer_out : Nat) (o_writer : Nat) (o_reader_in : Nat) (o_reader : Nat) (o_writer_from_kinds : Nat) (o_writer_from_regs : Nat) (o_writer_from_memory : Nat) (o_writer_from_op : Int32) (o_writer_from_size : Int32) (o_writer_from_cond : Int32) (o_writer_from_number : Int64) (o_writer_from_memory_base : Int32) (o_writer_from_memory_index : Int32) (o_writer_from_memory_scale : Int32) (o_writer_from_memory_disp : Int32) (p0 : Int32) (p1 : Int32) (p2 : Int32) (p3 : Int32) (o_writer_from_memory_base_o : Int32) (o_writer_from_memory_index_o : Int32) (o_writer_from_memory_scale_o : Int32) (o_writer_from_memory_disp_o : Int32) (hq : f_X6_memory p0 p1 p2 p3 = (o_writer_from_memory_base_o, o_writer_from_memory_index_o, o_writer_from_memory_scale_o, o_writer_from_memory_disp_o)) : qM l yX6_memory wsX6_memory (qr 1 24) (qX tT) D vwCl [(cI, .int)] [(o, .inr (5, [.ref o_writer_from, .ref o_encoded, .ref o_writer_out, .ref o_writer, .ref o_reader_in, .ref o_reader])), (o_writer_from, .inr (0, [.int o_writer_from_op, .int o_writer_from_size, .int o_writer_from_cond, .long o_writer_from_number, .ref o_writer_from_kinds, .ref o_writer_from_regs, .ref o_writer_from_memory])), (o_writer_from_memory, .inr (1, [.int o_writer_from_memory_base, .int o_writer_from_memory_index, .int o_writer_from_memory_scale, .int o_writer_from_memory_disp]))] [.ref o, .int p0, .int p1, .int p2, .int p3] none [(o, .inr (5, [.ref o_writer_from, .ref o_encoded, .ref o_writer_out, .ref o_writer, .ref o_reader_in, .ref o_reader])), (o_writer_from, .inr (0, [.int o_writer_from_op, .int o_writer_from_size, .int o_writer_from_cond, .long o_writer_from_number, .ref o_writer_from_kinds, .ref o_writer_from_regs, .ref o_writer_from_memory])), (o_writer_from_memory, .inr (1, [.int o_writer_from_memory_base_o, .int o_writer_from_memory_index_o, .int o_writer_from_memory_scale_o, .int o_writer_from_memory_disp_o]))] := by
  refine qM_of (cc := cX6_memory) (maxL := 5) (ret := none) (by decide) rfl (Nat.le_of_ble_eq_true rfl) ?_
  intro p e s m args below meth c A ls Z hx hb hml hr hts hown hlk hK hA hXs hP hD hS hl hZ
  have hown : s.vm.findClass RX6 = some m.cls := hown
  have hl : lv_has ls 5 [(0, .ref o), (1, .int p0), (2, .int p1), (3, .int p2), (4, .int p3)] := hl
  have hi_X0 : ∀ w ∈ wsX00, w ∈ wsX6_memory := by decide +kernel
  have hi_X6 : ∀ w ∈ wsX60, w ∈ wsX6_memory := by decide +kernel
  have lk20 := hts (.fieldLink RX6 20 "InstructionCoder" "fields" "LInstructionCoder$Fields;") (by decide +kernel)
  have lk58 := va_Nw.use (A := args) rfl (hXs.2.2 (.fieldLinkNest RX6 58 "InstructionCoder$Fields" "memory" "LInstructionCoder$Memory;" "InstructionCoder") (by decide +kernel))
  have hXg := qX_ok tT
  have E := hq
  rw [f_X6_memory] at E
  refine lv_aload_n hx hb dX6_memory_0 rfl (lv_at hl 0 rfl) ?_
  refine va_get (D := D) (ci := 5) (v := .ref o_writer_from) (C := RX6) (T := TX6) (N := 6) hx hb hts hi_X6 hown hK hP 0 rfl rfl 0 (by decide) lk20 (fun _ h9 => h9) rfl dX6_memory_1 ?_
  refine va_getN (D := D) (ci := 0) (v := .ref o_writer_from_memory) (C := RX0) (T := TX0) (N := 7) hx hb hts hi_X0 hown hK hP 1 rfl rfl 6 (by decide) lk58 (fun _ h9 => h9) rfl dX6_memory_4 ?_
  refine lv_iload_n hx hb dX6_memory_7 rfl (lv_at hl 1 rfl) ?_
  refine lv_iload_n hx hb dX6_memory_8 rfl (lv_at hl 2 rfl) ?_
  refine lv_iload_n hx hb dX6_memory_9 rfl (lv_at hl 3 rfl) ?_
  refine lv_iload hx hb dX6_memory_10 (lv_at hl 4 rfl) ?_
  obtain ⟨y1, y2, y3, y4, q5⟩ : ∃ y1 y2 y3 y4, (f_X1_become p0 p1 p2 p3) = (y1, y2, y3, y4) := ⟨_, _, _, _, rfl⟩
  rw [q5] at E
  dsimp only at E
  refine qw_callV (As := [.int p0, .int p1, .int p2, .int p3]) (rest := []) (ws' := [(o, .inr (5, [.ref o_writer_from, .ref o_encoded, .ref o_writer_out, .ref o_writer, .ref o_reader_in, .ref o_reader])), (o_writer_from, .inr (0, [.int o_writer_from_op, .int o_writer_from_size, .int o_writer_from_cond, .long o_writer_from_number, .ref o_writer_from_kinds, .ref o_writer_from_regs, .ref o_writer_from_memory])), (o_writer_from_memory, .inr (1, [.int y1, .int y2, .int y3, .int y4]))]) (st1 := []) ⟨hx, hb, hml, hown, hts⟩ (c_X1_become l D cI tT o_writer_from_memory o_writer_from_memory_base o_writer_from_memory_index o_writer_from_memory_scale o_writer_from_memory_disp p0 p1 p2 p3 y1 y2 y3 y4 q5) (cwV 4 hts gX6_memory_X1_become rfl rfl rfl (by decide +kernel) ⟨Nat.le_of_ble_eq_true rfl, Nat.le_of_ble_eq_true rfl⟩) hXg hK hP hD hS hA hXs [2] rfl rfl  rfl rfl rfl rfl rfl rfl hl.1 rfl (Nat.le_of_ble_eq_true rfl) rfl ⟨Nat.zero_le _, Nat.zero_le _⟩ dX6_memory_12 (fun H locs hP hD hS => ?_)
  cases E
  rw [hZ]
  exact qw_vret hx hb hr hlk hP hD hS dX6_memory_15
def f_X6_number (p0 : Int64) : Int64 := (p0)
set_option maxHeartbeats 4000000 in
set_option maxRecDepth 100000 in
theorem c_X6_number (l : Launch) (D : va_G) (cI : ClassId) (tT : Nat) (o : Nat) (o_writer_from : Nat) (o_encoded : Nat) (o_writer_out : Nat) (o_writer : Nat) (o_reader_in : Nat) (o_reader : Nat) (o_writer_from_kinds : Nat) (o_writer_from_regs : Nat) (o_writer_from_memory : Nat) (o_writer_from_op : Int32) (o_writer_from_size : Int32) (o_writer_from_cond : Int32) (o_writer_from_number : Int64) (p0 : Int64) (o_writer_from_number_o : Int64) (hq : f_X6_number p0 = o_writer_from_number_o) : qM l yX6_number wsX6_number (qr 0 0) (qX tT) D vwCl [(cI, .int)] [(o, .inr (5, [.ref o_writer_from, .ref o_encoded, .ref o_writer_out, .ref o_writer, .ref o_reader_in, .ref o_reader])), (o_writer_from, .inr (0, [.int o_writer_from_op, .int o_writer_from_size, .int o_writer_from_cond, .long o_writer_from_number, .ref o_writer_from_kinds, .ref o_writer_from_regs, .ref o_writer_from_memory]))] [.ref o, .long p0] none [(o, .inr (5, [.ref o_writer_from, .ref o_encoded, .ref o_writer_out, .ref o_writer, .ref o_reader_in, .ref o_reader])), (o_writer_from, .inr (0, [.int o_writer_from_op, .int o_writer_from_size, .int o_writer_from_cond, .long o_writer_from_number_o, .ref o_writer_from_kinds, .ref o_writer_from_regs, .ref o_writer_from_memory]))] := by
  refine qM_of (cc := cX6_number) (maxL := 3) (ret := none) (by decide) rfl (Nat.le_of_ble_eq_true rfl) ?_
  intro p e s m args below meth c A ls Z hx hb hml hr hts hown hlk hK hA hXs hP hD hS hl hZ
  have hown : s.vm.findClass RX6 = some m.cls := hown
  have hl : lv_has ls 3 [(0, .ref o), (1, .long p0)] := hl
  have hi_X0 : ∀ w ∈ wsX00, w ∈ wsX6_number := by decide +kernel
  have hi_X6 : ∀ w ∈ wsX60, w ∈ wsX6_number := by decide +kernel
  have lk20 := hts (.fieldLink RX6 20 "InstructionCoder" "fields" "LInstructionCoder$Fields;") (by decide +kernel)
  have lk68 := va_Nw.use (A := args) rfl (hXs.2.2 (.fieldLinkNest RX6 68 "InstructionCoder$Fields" "number" "J" "InstructionCoder") (by decide +kernel))
  have E := hq
  rw [f_X6_number] at E
  refine lv_aload_n hx hb dX6_number_0 rfl (lv_at hl 0 rfl) ?_
  refine va_get (D := D) (ci := 5) (v := .ref o_writer_from) (C := RX6) (T := TX6) (N := 6) hx hb hts hi_X6 hown hK hP 0 rfl rfl 0 (by decide) lk20 (fun _ h9 => h9) rfl dX6_number_1 ?_
  refine lv_lload_n hx hb dX6_number_4 rfl (lv_at hl 1 rfl) ?_
  refine va_putN (D := D) (ci := 0) (v := .long p0) (ty := .long) (C := RX0) (T := TX0) (N := 7) hx hb hts hi_X0 tyX0 tyX0_ok nmX0 hown hK hP hD hS 1 rfl rfl 3 (by decide) lk68 (fun _ h9 => h9) rfl (by decide +kernel) rfl rfl (Nat.le_of_ble_eq_true rfl) dX6_number_5 (fun H locs hP hD hS => ?_)
  have hP : va_P D vwCl [(o, .inr (5, [.ref o_writer_from, .ref o_encoded, .ref o_writer_out, .ref o_writer, .ref o_reader_in, .ref o_reader])), (o_writer_from, .inr (0, [.int o_writer_from_op, .int o_writer_from_size, .int o_writer_from_cond, .long p0, .ref o_writer_from_kinds, .ref o_writer_from_regs, .ref o_writer_from_memory]))] H := hP
  have hD : va_D A [(o, .inr (5, [.ref o_writer_from, .ref o_encoded, .ref o_writer_out, .ref o_writer, .ref o_reader_in, .ref o_reader])), (o_writer_from, .inr (0, [.int o_writer_from_op, .int o_writer_from_size, .int o_writer_from_cond, .long p0, .ref o_writer_from_kinds, .ref o_writer_from_regs, .ref o_writer_from_memory]))] := hD
  cases E
  rw [hZ]
  exact qw_vret hx hb hr hlk hP hD hS dX6_number_8
def f_X6_octet (o_encoded_count : Int32) (o_encoded_row_f : (Nat → Int32)) (p0 : Int32) : Int32 := ((f_X2_at o_encoded_count o_encoded_row_f p0))
set_option maxHeartbeats 4000000 in
set_option maxRecDepth 100000 in
theorem c_X6_octet (l : Launch) (D : va_G) (cI : ClassId) (tT : Nat) (o : Nat) (o_writer_from : Nat) (o_encoded : Nat) (o_writer_out : Nat) (o_writer : Nat) (o_reader_in : Nat) (o_reader : Nat) (o_encoded_row : Nat) (o_encoded_count : Int32) (o_encoded_row_f : (Nat → Int32)) (p0 : Int32) (r_o : Int32) (hq : f_X6_octet o_encoded_count o_encoded_row_f p0 = r_o) : qM l yX6_octet wsX6_octet (qr 1 21) (qX tT) D vwCl [(cI, .int)] [(o, .inr (5, [.ref o_writer_from, .ref o_encoded, .ref o_writer_out, .ref o_writer, .ref o_reader_in, .ref o_reader])), (o_encoded, .inr (2, [.ref o_encoded_row, .int o_encoded_count])), (o_encoded_row, .inl (cI, 16, .inl o_encoded_row_f))] [.ref o, .int p0] (some (.int r_o)) [(o, .inr (5, [.ref o_writer_from, .ref o_encoded, .ref o_writer_out, .ref o_writer, .ref o_reader_in, .ref o_reader])), (o_encoded, .inr (2, [.ref o_encoded_row, .int o_encoded_count])), (o_encoded_row, .inl (cI, 16, .inl o_encoded_row_f))] := by
  refine qM_of (cc := cX6_octet) (maxL := 2) (ret := (some .int)) (by decide) rfl (Nat.le_of_ble_eq_true rfl) ?_
  intro p e s m args below meth c A ls Z hx hb hml hr hts hown hlk hK hA hXs hP hD hS hl hZ
  have hown : s.vm.findClass RX6 = some m.cls := hown
  have hl : lv_has ls 2 [(0, .ref o), (1, .int p0)] := hl
  have hi_X6 : ∀ w ∈ wsX60, w ∈ wsX6_octet := by decide +kernel
  have lk33 := hts (.fieldLink RX6 33 "InstructionCoder" "encoded" "LInstructionCoder$Octets;") (by decide +kernel)
  have hXg := qX_ok tT
  have E := hq
  rw [f_X6_octet] at E
  refine lv_aload_n hx hb dX6_octet_0 rfl (lv_at hl 0 rfl) ?_
  refine va_get (D := D) (ci := 5) (v := .ref o_encoded) (C := RX6) (T := TX6) (N := 6) hx hb hts hi_X6 hown hK hP 0 rfl rfl 1 (by decide) lk33 (fun _ h9 => h9) rfl dX6_octet_1 ?_
  refine lv_iload_n hx hb dX6_octet_4 rfl (lv_at hl 1 rfl) ?_
  refine qw_callV (As := [.int p0]) (rest := []) (ws' := [(o, .inr (5, [.ref o_writer_from, .ref o_encoded, .ref o_writer_out, .ref o_writer, .ref o_reader_in, .ref o_reader])), (o_encoded, .inr (2, [.ref o_encoded_row, .int o_encoded_count])), (o_encoded_row, .inl (cI, 16, .inl o_encoded_row_f))]) (st1 := [.int (f_X2_at o_encoded_count o_encoded_row_f p0)]) ⟨hx, hb, hml, hown, hts⟩ (c_X2_at l D cI tT o_encoded o_encoded_row o_encoded_count o_encoded_row_f p0 (f_X2_at o_encoded_count o_encoded_row_f p0) rfl) (cwV 1 hts gX6_octet_X2_at rfl rfl rfl (by decide +kernel) ⟨Nat.le_of_ble_eq_true rfl, Nat.le_of_ble_eq_true rfl⟩) hXg hK hP hD hS hA hXs [1, 2] rfl rfl  rfl rfl rfl rfl rfl rfl hl.1 rfl (Nat.le_of_ble_eq_true rfl) rfl ⟨Nat.zero_le _, Nat.zero_le _⟩ dX6_octet_5 (fun H locs hP hD hS => ?_)
  cases E
  rw [hZ]
  exact qw_iret hx hb hr hlk hP hD hS dX6_octet_8
def f_X6_feed_L11 (p0 : Int64) : Nat → Int32 → Int32 → (Nat → Int32) → Int32 × Int32 × (Nat → Int32)
  | 0, _, _, _ => (0, 0, (fun _ => 0))
  | n + 1, x4, x5, x6 => (if x4 < 0 then (((1 : Int32), x5, x6)) else (match (f_X2_append x5 x6 ((((p0).toUInt64 >>> ((((8 : Int32) * x4)).toInt64.toUInt64 &&& Int64.toUInt64 63)).toInt64).toInt32)) with | (y8, y9) => f_X6_feed_L11 p0 n (x4 + (-1 : Int32)) y8 y9))
def f_X6_feed (o_reader_in_count : Int32) (o_reader_in_row_f : (Nat → Int32)) (p0 : Int64) (p1 : Int32) : Int32 × Int32 × (Nat → Int32) := (if p1 < (1 : Int32) then (((0 : Int32), o_reader_in_count, o_reader_in_row_f)) else (if (8 : Int32) < p1 then (((0 : Int32), o_reader_in_count, o_reader_in_row_f)) else (if p1 ≤ (f_X2_room o_reader_in_count) then (f_X6_feed_L11 p0 ((((p1 - (1 : Int32))).toInt + 1).toNat + 1) (p1 - (1 : Int32)) o_reader_in_count o_reader_in_row_f) else (((0 : Int32), o_reader_in_count, o_reader_in_row_f)))))
set_option maxHeartbeats 4000000 in
set_option maxRecDepth 100000 in
theorem c_X6_feed (l : Launch) (D : va_G) (cI : ClassId) (tT : Nat) (o : Nat) (o_writer_from : Nat) (o_encoded : Nat) (o_writer_out : Nat) (o_writer : Nat) (o_reader_in : Nat) (o_reader : Nat) (o_reader_in_row : Nat) (o_reader_in_count : Int32) (o_reader_in_row_f : (Nat → Int32)) (p0 : Int64) (p1 : Int32) (r_o : Int32) (o_reader_in_count_o : Int32) (o_reader_in_row_f_o : (Nat → Int32)) (hq : f_X6_feed o_reader_in_count o_reader_in_row_f p0 p1 = (r_o, o_reader_in_count_o, o_reader_in_row_f_o)) : qM l yX6_feed wsX6_feed (qr 1 21) (qX tT) D vwCl [(cI, .int)] [(o, .inr (5, [.ref o_writer_from, .ref o_encoded, .ref o_writer_out, .ref o_writer, .ref o_reader_in, .ref o_reader])), (o_reader_in, .inr (2, [.ref o_reader_in_row, .int o_reader_in_count])), (o_reader_in_row, .inl (cI, 16, .inl o_reader_in_row_f))] [.ref o, .long p0, .int p1] (some (.int r_o)) [(o, .inr (5, [.ref o_writer_from, .ref o_encoded, .ref o_writer_out, .ref o_writer, .ref o_reader_in, .ref o_reader])), (o_reader_in, .inr (2, [.ref o_reader_in_row, .int o_reader_in_count_o])), (o_reader_in_row, .inl (cI, 16, .inl o_reader_in_row_f_o))] := by
  refine qM_of (cc := cX6_feed) (maxL := 5) (ret := (some .boolean)) (by decide) rfl (Nat.le_of_ble_eq_true rfl) ?_
  intro p e s m args below meth c A ls Z hx hb hml hr hts hown hlk hK hA hXs hP hD hS hl hZ
  have hown : s.vm.findClass RX6 = some m.cls := hown
  have hl : lv_has ls 5 [(0, .ref o), (1, .long p0), (3, .int p1)] := hl
  have hi_X6 : ∀ w ∈ wsX60, w ∈ wsX6_feed := by decide +kernel
  have lk46 := hts (.fieldLink RX6 46 "InstructionCoder" "fed" "LInstructionCoder$Octets;") (by decide +kernel)
  have hXg := qX_ok tT
  have E := hq
  rw [f_X6_feed] at E
  refine lv_iload_n hx hb dX6_feed_0 rfl (lv_at hl 2 rfl) ?_
  refine lv_iconst (v := (1 : Int32)) hx hb dX6_feed_1 (by decide) ?_
  refine lv_icmp_lt (tgt := 22) hx hb dX6_feed_2 (by decide) (fun c1 => ?_) (fun c1 => ?_)
  · rw [if_pos c1] at E
    refine lv_iconst (v := (0 : Int32)) hx hb dX6_feed_22 (by decide) ?_
    cases E
    rw [hZ]
    exact qw_zret hx hb hr hlk (Or.inl rfl) hP hD hS dX6_feed_23
  · rw [if_neg c1] at E
    refine lv_iload_n hx hb dX6_feed_5 rfl (lv_at hl 2 rfl) ?_
    refine lv_bipush (v := (8 : Int32)) hx hb dX6_feed_6 (by decide) ?_
    refine lv_icmp_gt (tgt := 22) hx hb dX6_feed_8 (by decide) (fun c2 => ?_) (fun c2 => ?_)
    · rw [if_pos c2] at E
      refine lv_iconst (v := (0 : Int32)) hx hb dX6_feed_22 (by decide) ?_
      cases E
      rw [hZ]
      exact qw_zret hx hb hr hlk (Or.inl rfl) hP hD hS dX6_feed_23
    · rw [if_neg c2] at E
      refine lv_iload_n hx hb dX6_feed_11 rfl (lv_at hl 2 rfl) ?_
      refine lv_aload_n hx hb dX6_feed_12 rfl (lv_at hl 0 rfl) ?_
      refine va_get (D := D) (ci := 5) (v := .ref o_reader_in) (C := RX6) (T := TX6) (N := 6) hx hb hts hi_X6 hown hK hP 0 rfl rfl 4 (by decide) lk46 (fun _ h9 => h9) rfl dX6_feed_13 ?_
      refine qw_callV (As := []) (rest := [.int p1]) (ws' := [(o, .inr (5, [.ref o_writer_from, .ref o_encoded, .ref o_writer_out, .ref o_writer, .ref o_reader_in, .ref o_reader])), (o_reader_in, .inr (2, [.ref o_reader_in_row, .int o_reader_in_count])), (o_reader_in_row, .inl (cI, 16, .inl o_reader_in_row_f))]) (st1 := [.int (f_X2_room o_reader_in_count), .int p1]) ⟨hx, hb, hml, hown, hts⟩ (c_X2_room l D cI tT o_reader_in o_reader_in_row o_reader_in_count (f_X2_room o_reader_in_count) rfl) (cwV 0 hts gX6_feed_X2_room rfl rfl rfl (by decide +kernel) ⟨Nat.le_of_ble_eq_true rfl, Nat.le_of_ble_eq_true rfl⟩) hXg hK hP hD hS hA hXs [1] rfl rfl  rfl rfl rfl rfl rfl rfl hl.1 rfl (Nat.le_of_ble_eq_true rfl) rfl ⟨Nat.zero_le _, Nat.zero_le _⟩ dX6_feed_16 (fun H locs hP hD hS => ?_)
      refine lv_icmp_le (tgt := 24) hx hb dX6_feed_19 (by decide) (fun c3 => ?_) (fun c3 => ?_)
      · rw [if_pos c3] at E
        refine lv_iload_n hx hb dX6_feed_24 rfl (lv_at hl 2 rfl) ?_
        refine lv_iconst (v := (1 : Int32)) hx hb dX6_feed_25 (by decide) ?_
        refine lv_isub hx hb dX6_feed_26 ?_
        refine lv_istore (lv' := [(4, .int (p1 - (1 : Int32))), (0, .ref o), (1, .long p0), (3, .int p1)]) hx hb dX6_feed_27 hl (by decide) rfl (fun ls hl => ?_)
        have L11 : ∀ (n : Nat) (x4 : Int32) (x5 : Int32) (x6 : (Nat → Int32)) (ls : Array Slot) (H : Heap) (locs : List Loc), ((x4).toInt + 1).toNat < n → f_X6_feed_L11 p0 n x4 x5 x6 = (r_o, o_reader_in_count_o, o_reader_in_row_f_o) → lv_has ls 5 [(4, .int x4), (0, .ref o), (1, .long p0), (3, .int p1)] → va_P D vwCl [(o, .inr (5, [.ref o_writer_from, .ref o_encoded, .ref o_writer_out, .ref o_writer, .ref o_reader_in, .ref o_reader])), (o_reader_in, .inr (2, [.ref o_reader_in_row, .int x5])), (o_reader_in_row, .inl (cI, 16, .inl x6))] H → va_D A [(o, .inr (5, [.ref o_writer_from, .ref o_encoded, .ref o_writer_out, .ref o_writer, .ref o_reader_in, .ref o_reader])), (o_reader_in, .inr (2, [.ref o_reader_in_row, .int x5])), (o_reader_in_row, .inl (cI, 16, .inl x6))] → va_S A s.heap H locs → W p l e (qr 1 21) s m args below meth c H locs 0 0 Z (F0 m 29 ls []) := by
          intro n
          induction n with
          | zero => intro x4 x5 x6  ls H locs hm; exact absurd hm (Nat.not_lt_zero _)
          | succ n ih =>
            intro x4 x5 x6  ls H locs hm E hl hP hD hS
            rw [f_X6_feed_L11] at E
            refine lv_iload hx hb dX6_feed_29 (lv_at hl 0 rfl) ?_
            refine lv_if_lt (tgt := 55) hx hb dX6_feed_31 (by decide) (fun c7 => ?_) (fun c7 => ?_)
            · rw [if_pos c7] at E
              refine lv_iconst (v := (1 : Int32)) hx hb dX6_feed_55 (by decide) ?_
              cases E
              rw [hZ]
              exact qw_zret hx hb hr hlk (Or.inr rfl) hP hD hS dX6_feed_56
            · rw [if_neg c7] at E
              refine lv_aload_n hx hb dX6_feed_34 rfl (lv_at hl 1 rfl) ?_
              refine va_get (D := D) (ci := 5) (v := .ref o_reader_in) (C := RX6) (T := TX6) (N := 6) hx hb hts hi_X6 hown hK hP 0 rfl rfl 4 (by decide) lk46 (fun _ h9 => h9) rfl dX6_feed_35 ?_
              refine lv_lload_n hx hb dX6_feed_38 rfl (lv_at hl 2 rfl) ?_
              refine lv_bipush (v := (8 : Int32)) hx hb dX6_feed_39 (by decide) ?_
              refine lv_iload hx hb dX6_feed_41 (lv_at hl 0 rfl) ?_
              refine lv_imul hx hb dX6_feed_43 ?_
              refine lv_lushr (v := ((p0).toUInt64 >>> ((((8 : Int32) * x4)).toInt64.toUInt64 &&& Int64.toUInt64 63)).toInt64) hx hb dX6_feed_44 rfl ?_
              refine lv_l2i (v := (((p0).toUInt64 >>> ((((8 : Int32) * x4)).toInt64.toUInt64 &&& Int64.toUInt64 63)).toInt64).toInt32) hx hb dX6_feed_45 rfl ?_
              obtain ⟨y8, y9, q10⟩ : ∃ y8 y9, (f_X2_append x5 x6 ((((p0).toUInt64 >>> ((((8 : Int32) * x4)).toInt64.toUInt64 &&& Int64.toUInt64 63)).toInt64).toInt32)) = (y8, y9) := ⟨_, _, rfl⟩
              rw [q10] at E
              dsimp only at E
              refine qw_callV (As := [.int ((((p0).toUInt64 >>> ((((8 : Int32) * x4)).toInt64.toUInt64 &&& Int64.toUInt64 63)).toInt64).toInt32)]) (rest := []) (ws' := [(o, .inr (5, [.ref o_writer_from, .ref o_encoded, .ref o_writer_out, .ref o_writer, .ref o_reader_in, .ref o_reader])), (o_reader_in, .inr (2, [.ref o_reader_in_row, .int y8])), (o_reader_in_row, .inl (cI, 16, .inl y9))]) (st1 := []) ⟨hx, hb, hml, hown, hts⟩ (c_X2_append l D cI tT o_reader_in o_reader_in_row x5 x6 ((((p0).toUInt64 >>> ((((8 : Int32) * x4)).toInt64.toUInt64 &&& Int64.toUInt64 63)).toInt64).toInt32) y8 y9 q10) (cwV 1 hts gX6_feed_X2_append rfl rfl rfl (by decide +kernel) ⟨Nat.le_of_ble_eq_true rfl, Nat.le_of_ble_eq_true rfl⟩) hXg hK hP hD hS hA hXs [1, 2] rfl rfl  rfl rfl rfl rfl rfl rfl hl.1 rfl (Nat.le_of_ble_eq_true rfl) rfl ⟨Nat.zero_le _, Nat.zero_le _⟩ dX6_feed_46 (fun H locs hP hD hS => ?_)
              refine lv_iinc (v := x4 + (-1 : Int32)) (lv' := [(4, .int (x4 + (-1 : Int32))), (0, .ref o), (1, .long p0), (3, .int p1)]) hx hb dX6_feed_49 hl (k := 0) rfl (by first | rfl | decide) (by decide) rfl (fun ls hl => ?_)
              refine lv_goto (tgt := 29) hx hb dX6_feed_52 (by decide) ?_
              exact ih (x4 + (-1 : Int32)) y8 y9  ls _ _ (qw_down hm c7) E (lv_sub hl [0, 1, 2, 3] rfl) hP hD hS
        exact L11 _ (p1 - (1 : Int32)) o_reader_in_count o_reader_in_row_f  ls _ _ (Nat.lt_succ_self _) E (lv_sub hl [0, 1, 2, 3] rfl) hP hD hS
      · rw [if_neg c3] at E
        refine lv_iconst (v := (0 : Int32)) hx hb dX6_feed_22 (by decide) ?_
        cases E
        rw [hZ]
        exact qw_zret hx hb hr hlk (Or.inl rfl) hP hD hS dX6_feed_23
def f_X6_field (o_writer_from_op : Int32) (o_writer_from_size : Int32) (o_writer_from_cond : Int32) (o_writer_from_kinds_f : (Nat → Int32)) (o_writer_from_regs_f : (Nat → Int32)) (o_writer_from_memory_base : Int32) (o_writer_from_memory_index : Int32) (o_writer_from_memory_scale : Int32) (o_writer_from_memory_disp : Int32) (p0 : Int32) : Int32 := (if p0 = (0 : Int32) then (o_writer_from_op) else (if p0 = (1 : Int32) then (o_writer_from_size) else (if p0 = (2 : Int32) then (o_writer_from_cond) else (if p0 = (3 : Int32) then ((f_X0_kindOf o_writer_from_kinds_f ((p0 - (3 : Int32)) / (2 : Int32)))) else (if p0 = (4 : Int32) then ((f_X0_registerOf o_writer_from_regs_f ((p0 - (4 : Int32)) / (2 : Int32)))) else (if p0 = (5 : Int32) then ((f_X0_kindOf o_writer_from_kinds_f ((p0 - (3 : Int32)) / (2 : Int32)))) else (if p0 = (6 : Int32) then ((f_X0_registerOf o_writer_from_regs_f ((p0 - (4 : Int32)) / (2 : Int32)))) else (if p0 = (7 : Int32) then ((f_X0_kindOf o_writer_from_kinds_f ((p0 - (3 : Int32)) / (2 : Int32)))) else (if p0 = (8 : Int32) then ((f_X0_registerOf o_writer_from_regs_f ((p0 - (4 : Int32)) / (2 : Int32)))) else (if p0 = (9 : Int32) then (o_writer_from_memory_base) else (if p0 = (10 : Int32) then (o_writer_from_memory_index) else (if p0 = (11 : Int32) then (o_writer_from_memory_scale) else (if p0 = (12 : Int32) then (o_writer_from_memory_disp) else ((0 : Int32)))))))))))))))
set_option maxHeartbeats 4000000 in
set_option maxRecDepth 100000 in
theorem c_X6_field (l : Launch) (D : va_G) (cI : ClassId) (tT : Nat) (o : Nat) (o_writer_from : Nat) (o_encoded : Nat) (o_writer_out : Nat) (o_writer : Nat) (o_reader_in : Nat) (o_reader : Nat) (o_writer_from_kinds : Nat) (o_writer_from_regs : Nat) (o_writer_from_memory : Nat) (o_writer_from_op : Int32) (o_writer_from_size : Int32) (o_writer_from_cond : Int32) (o_writer_from_number : Int64) (o_writer_from_kinds_f : (Nat → Int32)) (o_writer_from_regs_f : (Nat → Int32)) (o_writer_from_memory_base : Int32) (o_writer_from_memory_index : Int32) (o_writer_from_memory_scale : Int32) (o_writer_from_memory_disp : Int32) (p0 : Int32) (r_o : Int32) (hq : f_X6_field o_writer_from_op o_writer_from_size o_writer_from_cond o_writer_from_kinds_f o_writer_from_regs_f o_writer_from_memory_base o_writer_from_memory_index o_writer_from_memory_scale o_writer_from_memory_disp p0 = r_o) : qM l yX6_field wsX6_field (qr 1 21) (qX tT) D vwCl [(cI, .int)] [(o, .inr (5, [.ref o_writer_from, .ref o_encoded, .ref o_writer_out, .ref o_writer, .ref o_reader_in, .ref o_reader])), (o_writer_from, .inr (0, [.int o_writer_from_op, .int o_writer_from_size, .int o_writer_from_cond, .long o_writer_from_number, .ref o_writer_from_kinds, .ref o_writer_from_regs, .ref o_writer_from_memory])), (o_writer_from_kinds, .inl (cI, 3, .inl o_writer_from_kinds_f)), (o_writer_from_regs, .inl (cI, 3, .inl o_writer_from_regs_f)), (o_writer_from_memory, .inr (1, [.int o_writer_from_memory_base, .int o_writer_from_memory_index, .int o_writer_from_memory_scale, .int o_writer_from_memory_disp]))] [.ref o, .int p0] (some (.int r_o)) [(o, .inr (5, [.ref o_writer_from, .ref o_encoded, .ref o_writer_out, .ref o_writer, .ref o_reader_in, .ref o_reader])), (o_writer_from, .inr (0, [.int o_writer_from_op, .int o_writer_from_size, .int o_writer_from_cond, .long o_writer_from_number, .ref o_writer_from_kinds, .ref o_writer_from_regs, .ref o_writer_from_memory])), (o_writer_from_kinds, .inl (cI, 3, .inl o_writer_from_kinds_f)), (o_writer_from_regs, .inl (cI, 3, .inl o_writer_from_regs_f)), (o_writer_from_memory, .inr (1, [.int o_writer_from_memory_base, .int o_writer_from_memory_index, .int o_writer_from_memory_scale, .int o_writer_from_memory_disp]))] := by
  refine qM_of (cc := cX6_field) (maxL := 2) (ret := (some .int)) (by decide) rfl (Nat.le_of_ble_eq_true rfl) ?_
  intro p e s m args below meth c A ls Z hx hb hml hr hts hown hlk hK hA hXs hP hD hS hl hZ
  have hown : s.vm.findClass RX6 = some m.cls := hown
  have hl : lv_has ls 2 [(0, .ref o), (1, .int p0)] := hl
  have hi_X0 : ∀ w ∈ wsX00, w ∈ wsX6_field := by decide +kernel
  have hi_X1 : ∀ w ∈ wsX10, w ∈ wsX6_field := by decide +kernel
  have hi_X6 : ∀ w ∈ wsX60, w ∈ wsX6_field := by decide +kernel
  have lk125 := va_Nw.use (A := args) rfl (hXs.2.2 (.fieldLinkNest RX6 125 "InstructionCoder$Fields" "op" "I" "InstructionCoder") (by decide +kernel))
  have lk128 := va_Nw.use (A := args) rfl (hXs.2.2 (.fieldLinkNest RX6 128 "InstructionCoder$Fields" "size" "I" "InstructionCoder") (by decide +kernel))
  have lk131 := va_Nw.use (A := args) rfl (hXs.2.2 (.fieldLinkNest RX6 131 "InstructionCoder$Fields" "condition" "I" "InstructionCoder") (by decide +kernel))
  have lk140 := va_Nw.use (A := args) rfl (hXs.2.2 (.fieldLinkNest RX6 140 "InstructionCoder$Memory" "base" "I" "InstructionCoder") (by decide +kernel))
  have lk143 := va_Nw.use (A := args) rfl (hXs.2.2 (.fieldLinkNest RX6 143 "InstructionCoder$Memory" "index" "I" "InstructionCoder") (by decide +kernel))
  have lk146 := va_Nw.use (A := args) rfl (hXs.2.2 (.fieldLinkNest RX6 146 "InstructionCoder$Memory" "scale" "I" "InstructionCoder") (by decide +kernel))
  have lk149 := va_Nw.use (A := args) rfl (hXs.2.2 (.fieldLinkNest RX6 149 "InstructionCoder$Memory" "displacement" "I" "InstructionCoder") (by decide +kernel))
  have lk20 := hts (.fieldLink RX6 20 "InstructionCoder" "fields" "LInstructionCoder$Fields;") (by decide +kernel)
  have lk58 := va_Nw.use (A := args) rfl (hXs.2.2 (.fieldLinkNest RX6 58 "InstructionCoder$Fields" "memory" "LInstructionCoder$Memory;" "InstructionCoder") (by decide +kernel))
  have hXg := qX_ok tT
  have E := hq
  rw [f_X6_field] at E
  refine lv_iload_n hx hb dX6_field_0 rfl (lv_at hl 1 rfl) ?_
  by_cases c1 : p0 = (0 : Int32)
  · rw [if_pos c1] at E
    refine lv_tableIn (off := (67 : Int)) (tgt := 68) hx hb dX6_field_1 (by rw [c1]; decide) (by rw [c1]; decide) (by rw [c1]; rfl) (by decide) ?_
    refine lv_aload_n hx hb dX6_field_68 rfl (lv_at hl 0 rfl) ?_
    refine va_get (D := D) (ci := 5) (v := .ref o_writer_from) (C := RX6) (T := TX6) (N := 6) hx hb hts hi_X6 hown hK hP 0 rfl rfl 0 (by decide) lk20 (fun _ h9 => h9) rfl dX6_field_69 ?_
    refine va_getN (D := D) (ci := 0) (v := .int o_writer_from_op) (C := RX0) (T := TX0) (N := 7) hx hb hts hi_X0 hown hK hP 1 rfl rfl 0 (by decide) lk125 (fun _ h9 => h9) rfl dX6_field_72 ?_
    cases E
    rw [hZ]
    exact qw_iret hx hb hr hlk hP hD hS dX6_field_75
  · rw [if_neg c1] at E
    by_cases c2 : p0 = (1 : Int32)
    · rw [if_pos c2] at E
      refine lv_tableIn (off := (75 : Int)) (tgt := 76) hx hb dX6_field_1 (by rw [c2]; decide) (by rw [c2]; decide) (by rw [c2]; rfl) (by decide) ?_
      refine lv_aload_n hx hb dX6_field_76 rfl (lv_at hl 0 rfl) ?_
      refine va_get (D := D) (ci := 5) (v := .ref o_writer_from) (C := RX6) (T := TX6) (N := 6) hx hb hts hi_X6 hown hK hP 0 rfl rfl 0 (by decide) lk20 (fun _ h9 => h9) rfl dX6_field_77 ?_
      refine va_getN (D := D) (ci := 0) (v := .int o_writer_from_size) (C := RX0) (T := TX0) (N := 7) hx hb hts hi_X0 hown hK hP 1 rfl rfl 1 (by decide) lk128 (fun _ h9 => h9) rfl dX6_field_80 ?_
      cases E
      rw [hZ]
      exact qw_iret hx hb hr hlk hP hD hS dX6_field_83
    · rw [if_neg c2] at E
      by_cases c3 : p0 = (2 : Int32)
      · rw [if_pos c3] at E
        refine lv_tableIn (off := (83 : Int)) (tgt := 84) hx hb dX6_field_1 (by rw [c3]; decide) (by rw [c3]; decide) (by rw [c3]; rfl) (by decide) ?_
        refine lv_aload_n hx hb dX6_field_84 rfl (lv_at hl 0 rfl) ?_
        refine va_get (D := D) (ci := 5) (v := .ref o_writer_from) (C := RX6) (T := TX6) (N := 6) hx hb hts hi_X6 hown hK hP 0 rfl rfl 0 (by decide) lk20 (fun _ h9 => h9) rfl dX6_field_85 ?_
        refine va_getN (D := D) (ci := 0) (v := .int o_writer_from_cond) (C := RX0) (T := TX0) (N := 7) hx hb hts hi_X0 hown hK hP 1 rfl rfl 2 (by decide) lk131 (fun _ h9 => h9) rfl dX6_field_88 ?_
        cases E
        rw [hZ]
        exact qw_iret hx hb hr hlk hP hD hS dX6_field_91
      · rw [if_neg c3] at E
        by_cases c4 : p0 = (3 : Int32)
        · rw [if_pos c4] at E
          refine lv_tableIn (off := (91 : Int)) (tgt := 92) hx hb dX6_field_1 (by rw [c4]; decide) (by rw [c4]; decide) (by rw [c4]; rfl) (by decide) ?_
          refine lv_aload_n hx hb dX6_field_92 rfl (lv_at hl 0 rfl) ?_
          refine va_get (D := D) (ci := 5) (v := .ref o_writer_from) (C := RX6) (T := TX6) (N := 6) hx hb hts hi_X6 hown hK hP 0 rfl rfl 0 (by decide) lk20 (fun _ h9 => h9) rfl dX6_field_93 ?_
          refine lv_iload_n hx hb dX6_field_96 rfl (lv_at hl 1 rfl) ?_
          refine lv_iconst (v := (3 : Int32)) hx hb dX6_field_97 (by decide) ?_
          refine lv_isub hx hb dX6_field_98 ?_
          refine lv_iconst (v := (2 : Int32)) hx hb dX6_field_99 (by decide) ?_
          refine lv_idiv hx hb dX6_field_100 (by decide) ?_
          refine qw_callV (As := [.int ((p0 - (3 : Int32)) / (2 : Int32))]) (rest := []) (ws' := [(o, .inr (5, [.ref o_writer_from, .ref o_encoded, .ref o_writer_out, .ref o_writer, .ref o_reader_in, .ref o_reader])), (o_writer_from, .inr (0, [.int o_writer_from_op, .int o_writer_from_size, .int o_writer_from_cond, .long o_writer_from_number, .ref o_writer_from_kinds, .ref o_writer_from_regs, .ref o_writer_from_memory])), (o_writer_from_kinds, .inl (cI, 3, .inl o_writer_from_kinds_f)), (o_writer_from_regs, .inl (cI, 3, .inl o_writer_from_regs_f)), (o_writer_from_memory, .inr (1, [.int o_writer_from_memory_base, .int o_writer_from_memory_index, .int o_writer_from_memory_scale, .int o_writer_from_memory_disp]))]) (st1 := [.int (f_X0_kindOf o_writer_from_kinds_f ((p0 - (3 : Int32)) / (2 : Int32)))]) ⟨hx, hb, hml, hown, hts⟩ (c_X0_kindOf l D cI tT o_writer_from o_writer_from_kinds o_writer_from_regs o_writer_from_memory o_writer_from_op o_writer_from_size o_writer_from_cond o_writer_from_number o_writer_from_kinds_f ((p0 - (3 : Int32)) / (2 : Int32)) (f_X0_kindOf o_writer_from_kinds_f ((p0 - (3 : Int32)) / (2 : Int32))) rfl) (cwV 1 hts gX6_field_X0_kindOf rfl rfl rfl (by decide +kernel) ⟨Nat.le_of_ble_eq_true rfl, Nat.le_of_ble_eq_true rfl⟩) hXg hK hP hD hS hA hXs [1, 2] rfl rfl  rfl rfl rfl rfl rfl rfl hl.1 rfl (Nat.le_of_ble_eq_true rfl) rfl ⟨Nat.zero_le _, Nat.zero_le _⟩ dX6_field_101 (fun H locs hP hD hS => ?_)
          cases E
          rw [hZ]
          exact qw_iret hx hb hr hlk hP hD hS dX6_field_104
        · rw [if_neg c4] at E
          by_cases c5 : p0 = (4 : Int32)
          · rw [if_pos c5] at E
            refine lv_tableIn (off := (104 : Int)) (tgt := 105) hx hb dX6_field_1 (by rw [c5]; decide) (by rw [c5]; decide) (by rw [c5]; rfl) (by decide) ?_
            refine lv_aload_n hx hb dX6_field_105 rfl (lv_at hl 0 rfl) ?_
            refine va_get (D := D) (ci := 5) (v := .ref o_writer_from) (C := RX6) (T := TX6) (N := 6) hx hb hts hi_X6 hown hK hP 0 rfl rfl 0 (by decide) lk20 (fun _ h9 => h9) rfl dX6_field_106 ?_
            refine lv_iload_n hx hb dX6_field_109 rfl (lv_at hl 1 rfl) ?_
            refine lv_iconst (v := (4 : Int32)) hx hb dX6_field_110 (by decide) ?_
            refine lv_isub hx hb dX6_field_111 ?_
            refine lv_iconst (v := (2 : Int32)) hx hb dX6_field_112 (by decide) ?_
            refine lv_idiv hx hb dX6_field_113 (by decide) ?_
            refine qw_callV (As := [.int ((p0 - (4 : Int32)) / (2 : Int32))]) (rest := []) (ws' := [(o, .inr (5, [.ref o_writer_from, .ref o_encoded, .ref o_writer_out, .ref o_writer, .ref o_reader_in, .ref o_reader])), (o_writer_from, .inr (0, [.int o_writer_from_op, .int o_writer_from_size, .int o_writer_from_cond, .long o_writer_from_number, .ref o_writer_from_kinds, .ref o_writer_from_regs, .ref o_writer_from_memory])), (o_writer_from_kinds, .inl (cI, 3, .inl o_writer_from_kinds_f)), (o_writer_from_regs, .inl (cI, 3, .inl o_writer_from_regs_f)), (o_writer_from_memory, .inr (1, [.int o_writer_from_memory_base, .int o_writer_from_memory_index, .int o_writer_from_memory_scale, .int o_writer_from_memory_disp]))]) (st1 := [.int (f_X0_registerOf o_writer_from_regs_f ((p0 - (4 : Int32)) / (2 : Int32)))]) ⟨hx, hb, hml, hown, hts⟩ (c_X0_registerOf l D cI tT o_writer_from o_writer_from_kinds o_writer_from_regs o_writer_from_memory o_writer_from_op o_writer_from_size o_writer_from_cond o_writer_from_number o_writer_from_regs_f ((p0 - (4 : Int32)) / (2 : Int32)) (f_X0_registerOf o_writer_from_regs_f ((p0 - (4 : Int32)) / (2 : Int32))) rfl) (cwV 1 hts gX6_field_X0_registerOf rfl rfl rfl (by decide +kernel) ⟨Nat.le_of_ble_eq_true rfl, Nat.le_of_ble_eq_true rfl⟩) hXg hK hP hD hS hA hXs [1, 3] rfl rfl  rfl rfl rfl rfl rfl rfl hl.1 rfl (Nat.le_of_ble_eq_true rfl) rfl ⟨Nat.zero_le _, Nat.zero_le _⟩ dX6_field_114 (fun H locs hP hD hS => ?_)
            cases E
            rw [hZ]
            exact qw_iret hx hb hr hlk hP hD hS dX6_field_117
          · rw [if_neg c5] at E
            by_cases c6 : p0 = (5 : Int32)
            · rw [if_pos c6] at E
              refine lv_tableIn (off := (91 : Int)) (tgt := 92) hx hb dX6_field_1 (by rw [c6]; decide) (by rw [c6]; decide) (by rw [c6]; rfl) (by decide) ?_
              refine lv_aload_n hx hb dX6_field_92 rfl (lv_at hl 0 rfl) ?_
              refine va_get (D := D) (ci := 5) (v := .ref o_writer_from) (C := RX6) (T := TX6) (N := 6) hx hb hts hi_X6 hown hK hP 0 rfl rfl 0 (by decide) lk20 (fun _ h9 => h9) rfl dX6_field_93 ?_
              refine lv_iload_n hx hb dX6_field_96 rfl (lv_at hl 1 rfl) ?_
              refine lv_iconst (v := (3 : Int32)) hx hb dX6_field_97 (by decide) ?_
              refine lv_isub hx hb dX6_field_98 ?_
              refine lv_iconst (v := (2 : Int32)) hx hb dX6_field_99 (by decide) ?_
              refine lv_idiv hx hb dX6_field_100 (by decide) ?_
              refine qw_callV (As := [.int ((p0 - (3 : Int32)) / (2 : Int32))]) (rest := []) (ws' := [(o, .inr (5, [.ref o_writer_from, .ref o_encoded, .ref o_writer_out, .ref o_writer, .ref o_reader_in, .ref o_reader])), (o_writer_from, .inr (0, [.int o_writer_from_op, .int o_writer_from_size, .int o_writer_from_cond, .long o_writer_from_number, .ref o_writer_from_kinds, .ref o_writer_from_regs, .ref o_writer_from_memory])), (o_writer_from_kinds, .inl (cI, 3, .inl o_writer_from_kinds_f)), (o_writer_from_regs, .inl (cI, 3, .inl o_writer_from_regs_f)), (o_writer_from_memory, .inr (1, [.int o_writer_from_memory_base, .int o_writer_from_memory_index, .int o_writer_from_memory_scale, .int o_writer_from_memory_disp]))]) (st1 := [.int (f_X0_kindOf o_writer_from_kinds_f ((p0 - (3 : Int32)) / (2 : Int32)))]) ⟨hx, hb, hml, hown, hts⟩ (c_X0_kindOf l D cI tT o_writer_from o_writer_from_kinds o_writer_from_regs o_writer_from_memory o_writer_from_op o_writer_from_size o_writer_from_cond o_writer_from_number o_writer_from_kinds_f ((p0 - (3 : Int32)) / (2 : Int32)) (f_X0_kindOf o_writer_from_kinds_f ((p0 - (3 : Int32)) / (2 : Int32))) rfl) (cwV 1 hts gX6_field_X0_kindOf rfl rfl rfl (by decide +kernel) ⟨Nat.le_of_ble_eq_true rfl, Nat.le_of_ble_eq_true rfl⟩) hXg hK hP hD hS hA hXs [1, 2] rfl rfl  rfl rfl rfl rfl rfl rfl hl.1 rfl (Nat.le_of_ble_eq_true rfl) rfl ⟨Nat.zero_le _, Nat.zero_le _⟩ dX6_field_101 (fun H locs hP hD hS => ?_)
              cases E
              rw [hZ]
              exact qw_iret hx hb hr hlk hP hD hS dX6_field_104
            · rw [if_neg c6] at E
              by_cases c7 : p0 = (6 : Int32)
              · rw [if_pos c7] at E
                refine lv_tableIn (off := (104 : Int)) (tgt := 105) hx hb dX6_field_1 (by rw [c7]; decide) (by rw [c7]; decide) (by rw [c7]; rfl) (by decide) ?_
                refine lv_aload_n hx hb dX6_field_105 rfl (lv_at hl 0 rfl) ?_
                refine va_get (D := D) (ci := 5) (v := .ref o_writer_from) (C := RX6) (T := TX6) (N := 6) hx hb hts hi_X6 hown hK hP 0 rfl rfl 0 (by decide) lk20 (fun _ h9 => h9) rfl dX6_field_106 ?_
                refine lv_iload_n hx hb dX6_field_109 rfl (lv_at hl 1 rfl) ?_
                refine lv_iconst (v := (4 : Int32)) hx hb dX6_field_110 (by decide) ?_
                refine lv_isub hx hb dX6_field_111 ?_
                refine lv_iconst (v := (2 : Int32)) hx hb dX6_field_112 (by decide) ?_
                refine lv_idiv hx hb dX6_field_113 (by decide) ?_
                refine qw_callV (As := [.int ((p0 - (4 : Int32)) / (2 : Int32))]) (rest := []) (ws' := [(o, .inr (5, [.ref o_writer_from, .ref o_encoded, .ref o_writer_out, .ref o_writer, .ref o_reader_in, .ref o_reader])), (o_writer_from, .inr (0, [.int o_writer_from_op, .int o_writer_from_size, .int o_writer_from_cond, .long o_writer_from_number, .ref o_writer_from_kinds, .ref o_writer_from_regs, .ref o_writer_from_memory])), (o_writer_from_kinds, .inl (cI, 3, .inl o_writer_from_kinds_f)), (o_writer_from_regs, .inl (cI, 3, .inl o_writer_from_regs_f)), (o_writer_from_memory, .inr (1, [.int o_writer_from_memory_base, .int o_writer_from_memory_index, .int o_writer_from_memory_scale, .int o_writer_from_memory_disp]))]) (st1 := [.int (f_X0_registerOf o_writer_from_regs_f ((p0 - (4 : Int32)) / (2 : Int32)))]) ⟨hx, hb, hml, hown, hts⟩ (c_X0_registerOf l D cI tT o_writer_from o_writer_from_kinds o_writer_from_regs o_writer_from_memory o_writer_from_op o_writer_from_size o_writer_from_cond o_writer_from_number o_writer_from_regs_f ((p0 - (4 : Int32)) / (2 : Int32)) (f_X0_registerOf o_writer_from_regs_f ((p0 - (4 : Int32)) / (2 : Int32))) rfl) (cwV 1 hts gX6_field_X0_registerOf rfl rfl rfl (by decide +kernel) ⟨Nat.le_of_ble_eq_true rfl, Nat.le_of_ble_eq_true rfl⟩) hXg hK hP hD hS hA hXs [1, 3] rfl rfl  rfl rfl rfl rfl rfl rfl hl.1 rfl (Nat.le_of_ble_eq_true rfl) rfl ⟨Nat.zero_le _, Nat.zero_le _⟩ dX6_field_114 (fun H locs hP hD hS => ?_)
                cases E
                rw [hZ]
                exact qw_iret hx hb hr hlk hP hD hS dX6_field_117
              · rw [if_neg c7] at E
                by_cases c8 : p0 = (7 : Int32)
                · rw [if_pos c8] at E
                  refine lv_tableIn (off := (91 : Int)) (tgt := 92) hx hb dX6_field_1 (by rw [c8]; decide) (by rw [c8]; decide) (by rw [c8]; rfl) (by decide) ?_
                  refine lv_aload_n hx hb dX6_field_92 rfl (lv_at hl 0 rfl) ?_
                  refine va_get (D := D) (ci := 5) (v := .ref o_writer_from) (C := RX6) (T := TX6) (N := 6) hx hb hts hi_X6 hown hK hP 0 rfl rfl 0 (by decide) lk20 (fun _ h9 => h9) rfl dX6_field_93 ?_
                  refine lv_iload_n hx hb dX6_field_96 rfl (lv_at hl 1 rfl) ?_
                  refine lv_iconst (v := (3 : Int32)) hx hb dX6_field_97 (by decide) ?_
                  refine lv_isub hx hb dX6_field_98 ?_
                  refine lv_iconst (v := (2 : Int32)) hx hb dX6_field_99 (by decide) ?_
                  refine lv_idiv hx hb dX6_field_100 (by decide) ?_
                  refine qw_callV (As := [.int ((p0 - (3 : Int32)) / (2 : Int32))]) (rest := []) (ws' := [(o, .inr (5, [.ref o_writer_from, .ref o_encoded, .ref o_writer_out, .ref o_writer, .ref o_reader_in, .ref o_reader])), (o_writer_from, .inr (0, [.int o_writer_from_op, .int o_writer_from_size, .int o_writer_from_cond, .long o_writer_from_number, .ref o_writer_from_kinds, .ref o_writer_from_regs, .ref o_writer_from_memory])), (o_writer_from_kinds, .inl (cI, 3, .inl o_writer_from_kinds_f)), (o_writer_from_regs, .inl (cI, 3, .inl o_writer_from_regs_f)), (o_writer_from_memory, .inr (1, [.int o_writer_from_memory_base, .int o_writer_from_memory_index, .int o_writer_from_memory_scale, .int o_writer_from_memory_disp]))]) (st1 := [.int (f_X0_kindOf o_writer_from_kinds_f ((p0 - (3 : Int32)) / (2 : Int32)))]) ⟨hx, hb, hml, hown, hts⟩ (c_X0_kindOf l D cI tT o_writer_from o_writer_from_kinds o_writer_from_regs o_writer_from_memory o_writer_from_op o_writer_from_size o_writer_from_cond o_writer_from_number o_writer_from_kinds_f ((p0 - (3 : Int32)) / (2 : Int32)) (f_X0_kindOf o_writer_from_kinds_f ((p0 - (3 : Int32)) / (2 : Int32))) rfl) (cwV 1 hts gX6_field_X0_kindOf rfl rfl rfl (by decide +kernel) ⟨Nat.le_of_ble_eq_true rfl, Nat.le_of_ble_eq_true rfl⟩) hXg hK hP hD hS hA hXs [1, 2] rfl rfl  rfl rfl rfl rfl rfl rfl hl.1 rfl (Nat.le_of_ble_eq_true rfl) rfl ⟨Nat.zero_le _, Nat.zero_le _⟩ dX6_field_101 (fun H locs hP hD hS => ?_)
                  cases E
                  rw [hZ]
                  exact qw_iret hx hb hr hlk hP hD hS dX6_field_104
                · rw [if_neg c8] at E
                  by_cases c9 : p0 = (8 : Int32)
                  · rw [if_pos c9] at E
                    refine lv_tableIn (off := (104 : Int)) (tgt := 105) hx hb dX6_field_1 (by rw [c9]; decide) (by rw [c9]; decide) (by rw [c9]; rfl) (by decide) ?_
                    refine lv_aload_n hx hb dX6_field_105 rfl (lv_at hl 0 rfl) ?_
                    refine va_get (D := D) (ci := 5) (v := .ref o_writer_from) (C := RX6) (T := TX6) (N := 6) hx hb hts hi_X6 hown hK hP 0 rfl rfl 0 (by decide) lk20 (fun _ h9 => h9) rfl dX6_field_106 ?_
                    refine lv_iload_n hx hb dX6_field_109 rfl (lv_at hl 1 rfl) ?_
                    refine lv_iconst (v := (4 : Int32)) hx hb dX6_field_110 (by decide) ?_
                    refine lv_isub hx hb dX6_field_111 ?_
                    refine lv_iconst (v := (2 : Int32)) hx hb dX6_field_112 (by decide) ?_
                    refine lv_idiv hx hb dX6_field_113 (by decide) ?_
                    refine qw_callV (As := [.int ((p0 - (4 : Int32)) / (2 : Int32))]) (rest := []) (ws' := [(o, .inr (5, [.ref o_writer_from, .ref o_encoded, .ref o_writer_out, .ref o_writer, .ref o_reader_in, .ref o_reader])), (o_writer_from, .inr (0, [.int o_writer_from_op, .int o_writer_from_size, .int o_writer_from_cond, .long o_writer_from_number, .ref o_writer_from_kinds, .ref o_writer_from_regs, .ref o_writer_from_memory])), (o_writer_from_kinds, .inl (cI, 3, .inl o_writer_from_kinds_f)), (o_writer_from_regs, .inl (cI, 3, .inl o_writer_from_regs_f)), (o_writer_from_memory, .inr (1, [.int o_writer_from_memory_base, .int o_writer_from_memory_index, .int o_writer_from_memory_scale, .int o_writer_from_memory_disp]))]) (st1 := [.int (f_X0_registerOf o_writer_from_regs_f ((p0 - (4 : Int32)) / (2 : Int32)))]) ⟨hx, hb, hml, hown, hts⟩ (c_X0_registerOf l D cI tT o_writer_from o_writer_from_kinds o_writer_from_regs o_writer_from_memory o_writer_from_op o_writer_from_size o_writer_from_cond o_writer_from_number o_writer_from_regs_f ((p0 - (4 : Int32)) / (2 : Int32)) (f_X0_registerOf o_writer_from_regs_f ((p0 - (4 : Int32)) / (2 : Int32))) rfl) (cwV 1 hts gX6_field_X0_registerOf rfl rfl rfl (by decide +kernel) ⟨Nat.le_of_ble_eq_true rfl, Nat.le_of_ble_eq_true rfl⟩) hXg hK hP hD hS hA hXs [1, 3] rfl rfl  rfl rfl rfl rfl rfl rfl hl.1 rfl (Nat.le_of_ble_eq_true rfl) rfl ⟨Nat.zero_le _, Nat.zero_le _⟩ dX6_field_114 (fun H locs hP hD hS => ?_)
                    cases E
                    rw [hZ]
                    exact qw_iret hx hb hr hlk hP hD hS dX6_field_117
                  · rw [if_neg c9] at E
                    by_cases c10 : p0 = (9 : Int32)
                    · rw [if_pos c10] at E
                      refine lv_tableIn (off := (117 : Int)) (tgt := 118) hx hb dX6_field_1 (by rw [c10]; decide) (by rw [c10]; decide) (by rw [c10]; rfl) (by decide) ?_
                      refine lv_aload_n hx hb dX6_field_118 rfl (lv_at hl 0 rfl) ?_
                      refine va_get (D := D) (ci := 5) (v := .ref o_writer_from) (C := RX6) (T := TX6) (N := 6) hx hb hts hi_X6 hown hK hP 0 rfl rfl 0 (by decide) lk20 (fun _ h9 => h9) rfl dX6_field_119 ?_
                      refine va_getN (D := D) (ci := 0) (v := .ref o_writer_from_memory) (C := RX0) (T := TX0) (N := 7) hx hb hts hi_X0 hown hK hP 1 rfl rfl 6 (by decide) lk58 (fun _ h9 => h9) rfl dX6_field_122 ?_
                      refine va_getN (D := D) (ci := 1) (v := .int o_writer_from_memory_base) (C := RX1) (T := TX1) (N := 4) hx hb hts hi_X1 hown hK hP 4 rfl rfl 0 (by decide) lk140 (fun _ h9 => h9) rfl dX6_field_125 ?_
                      cases E
                      rw [hZ]
                      exact qw_iret hx hb hr hlk hP hD hS dX6_field_128
                    · rw [if_neg c10] at E
                      by_cases c11 : p0 = (10 : Int32)
                      · rw [if_pos c11] at E
                        refine lv_tableIn (off := (128 : Int)) (tgt := 129) hx hb dX6_field_1 (by rw [c11]; decide) (by rw [c11]; decide) (by rw [c11]; rfl) (by decide) ?_
                        refine lv_aload_n hx hb dX6_field_129 rfl (lv_at hl 0 rfl) ?_
                        refine va_get (D := D) (ci := 5) (v := .ref o_writer_from) (C := RX6) (T := TX6) (N := 6) hx hb hts hi_X6 hown hK hP 0 rfl rfl 0 (by decide) lk20 (fun _ h9 => h9) rfl dX6_field_130 ?_
                        refine va_getN (D := D) (ci := 0) (v := .ref o_writer_from_memory) (C := RX0) (T := TX0) (N := 7) hx hb hts hi_X0 hown hK hP 1 rfl rfl 6 (by decide) lk58 (fun _ h9 => h9) rfl dX6_field_133 ?_
                        refine va_getN (D := D) (ci := 1) (v := .int o_writer_from_memory_index) (C := RX1) (T := TX1) (N := 4) hx hb hts hi_X1 hown hK hP 4 rfl rfl 1 (by decide) lk143 (fun _ h9 => h9) rfl dX6_field_136 ?_
                        cases E
                        rw [hZ]
                        exact qw_iret hx hb hr hlk hP hD hS dX6_field_139
                      · rw [if_neg c11] at E
                        by_cases c12 : p0 = (11 : Int32)
                        · rw [if_pos c12] at E
                          refine lv_tableIn (off := (139 : Int)) (tgt := 140) hx hb dX6_field_1 (by rw [c12]; decide) (by rw [c12]; decide) (by rw [c12]; rfl) (by decide) ?_
                          refine lv_aload_n hx hb dX6_field_140 rfl (lv_at hl 0 rfl) ?_
                          refine va_get (D := D) (ci := 5) (v := .ref o_writer_from) (C := RX6) (T := TX6) (N := 6) hx hb hts hi_X6 hown hK hP 0 rfl rfl 0 (by decide) lk20 (fun _ h9 => h9) rfl dX6_field_141 ?_
                          refine va_getN (D := D) (ci := 0) (v := .ref o_writer_from_memory) (C := RX0) (T := TX0) (N := 7) hx hb hts hi_X0 hown hK hP 1 rfl rfl 6 (by decide) lk58 (fun _ h9 => h9) rfl dX6_field_144 ?_
                          refine va_getN (D := D) (ci := 1) (v := .int o_writer_from_memory_scale) (C := RX1) (T := TX1) (N := 4) hx hb hts hi_X1 hown hK hP 4 rfl rfl 2 (by decide) lk146 (fun _ h9 => h9) rfl dX6_field_147 ?_
                          cases E
                          rw [hZ]
                          exact qw_iret hx hb hr hlk hP hD hS dX6_field_150
                        · rw [if_neg c12] at E
                          by_cases c13 : p0 = (12 : Int32)
                          · rw [if_pos c13] at E
                            refine lv_tableIn (off := (150 : Int)) (tgt := 151) hx hb dX6_field_1 (by rw [c13]; decide) (by rw [c13]; decide) (by rw [c13]; rfl) (by decide) ?_
                            refine lv_aload_n hx hb dX6_field_151 rfl (lv_at hl 0 rfl) ?_
                            refine va_get (D := D) (ci := 5) (v := .ref o_writer_from) (C := RX6) (T := TX6) (N := 6) hx hb hts hi_X6 hown hK hP 0 rfl rfl 0 (by decide) lk20 (fun _ h9 => h9) rfl dX6_field_152 ?_
                            refine va_getN (D := D) (ci := 0) (v := .ref o_writer_from_memory) (C := RX0) (T := TX0) (N := 7) hx hb hts hi_X0 hown hK hP 1 rfl rfl 6 (by decide) lk58 (fun _ h9 => h9) rfl dX6_field_155 ?_
                            refine va_getN (D := D) (ci := 1) (v := .int o_writer_from_memory_disp) (C := RX1) (T := TX1) (N := 4) hx hb hts hi_X1 hown hK hP 4 rfl rfl 3 (by decide) lk149 (fun _ h9 => h9) rfl dX6_field_158 ?_
                            cases E
                            rw [hZ]
                            exact qw_iret hx hb hr hlk hP hD hS dX6_field_161
                          · rw [if_neg c13] at E
                            refine lv_tableOut (tgt := 162) hx hb dX6_field_1 (by have nc1 := lv_neT c1 (a := 0) rfl; have nc2 := lv_neT c2 (a := 1) rfl; have nc3 := lv_neT c3 (a := 2) rfl; have nc4 := lv_neT c4 (a := 3) rfl; have nc5 := lv_neT c5 (a := 4) rfl; have nc6 := lv_neT c6 (a := 5) rfl; have nc7 := lv_neT c7 (a := 6) rfl; have nc8 := lv_neT c8 (a := 7) rfl; have nc9 := lv_neT c9 (a := 8) rfl; have nc10 := lv_neT c10 (a := 9) rfl; have nc11 := lv_neT c11 (a := 10) rfl; have nc12 := lv_neT c12 (a := 11) rfl; have nc13 := lv_neT c13 (a := 12) rfl; omega) (by decide) ?_
                            refine lv_iconst (v := (0 : Int32)) hx hb dX6_field_162 (by decide) ?_
                            cases E
                            rw [hZ]
                            exact qw_iret hx hb hr hlk hP hD hS dX6_field_163
def f_X6_value (o_writer_from_number : Int64) : Int64 := (o_writer_from_number)
set_option maxHeartbeats 4000000 in
set_option maxRecDepth 100000 in
theorem c_X6_value (l : Launch) (D : va_G) (cI : ClassId) (tT : Nat) (o : Nat) (o_writer_from : Nat) (o_encoded : Nat) (o_writer_out : Nat) (o_writer : Nat) (o_reader_in : Nat) (o_reader : Nat) (o_writer_from_kinds : Nat) (o_writer_from_regs : Nat) (o_writer_from_memory : Nat) (o_writer_from_op : Int32) (o_writer_from_size : Int32) (o_writer_from_cond : Int32) (o_writer_from_number : Int64) (r_o : Int64) (hq : f_X6_value o_writer_from_number = r_o) : qM l yX6_value wsX6_value (qr 0 0) (qX tT) D vwCl [(cI, .int)] [(o, .inr (5, [.ref o_writer_from, .ref o_encoded, .ref o_writer_out, .ref o_writer, .ref o_reader_in, .ref o_reader])), (o_writer_from, .inr (0, [.int o_writer_from_op, .int o_writer_from_size, .int o_writer_from_cond, .long o_writer_from_number, .ref o_writer_from_kinds, .ref o_writer_from_regs, .ref o_writer_from_memory]))] [.ref o] (some (.long r_o)) [(o, .inr (5, [.ref o_writer_from, .ref o_encoded, .ref o_writer_out, .ref o_writer, .ref o_reader_in, .ref o_reader])), (o_writer_from, .inr (0, [.int o_writer_from_op, .int o_writer_from_size, .int o_writer_from_cond, .long o_writer_from_number, .ref o_writer_from_kinds, .ref o_writer_from_regs, .ref o_writer_from_memory]))] := by
  refine qM_of (cc := cX6_value) (maxL := 1) (ret := (some .long)) (by decide) rfl (Nat.le_of_ble_eq_true rfl) ?_
  intro p e s m args below meth c A ls Z hx hb hml hr hts hown hlk hK hA hXs hP hD hS hl hZ
  have hown : s.vm.findClass RX6 = some m.cls := hown
  have hl : lv_has ls 1 [(0, .ref o)] := hl
  have hi_X0 : ∀ w ∈ wsX00, w ∈ wsX6_value := by decide +kernel
  have hi_X6 : ∀ w ∈ wsX60, w ∈ wsX6_value := by decide +kernel
  have lk20 := hts (.fieldLink RX6 20 "InstructionCoder" "fields" "LInstructionCoder$Fields;") (by decide +kernel)
  have lk68 := va_Nw.use (A := args) rfl (hXs.2.2 (.fieldLinkNest RX6 68 "InstructionCoder$Fields" "number" "J" "InstructionCoder") (by decide +kernel))
  have E := hq
  rw [f_X6_value] at E
  refine lv_aload_n hx hb dX6_value_0 rfl (lv_at hl 0 rfl) ?_
  refine va_get (D := D) (ci := 5) (v := .ref o_writer_from) (C := RX6) (T := TX6) (N := 6) hx hb hts hi_X6 hown hK hP 0 rfl rfl 0 (by decide) lk20 (fun _ h9 => h9) rfl dX6_value_1 ?_
  refine va_getN (D := D) (ci := 0) (v := .long o_writer_from_number) (C := RX0) (T := TX0) (N := 7) hx hb hts hi_X0 hown hK hP 1 rfl rfl 3 (by decide) lk68 (fun _ h9 => h9) rfl dX6_value_4 ?_
  cases E
  rw [hZ]
  exact qw_lret hx hb hr hlk hP hD hS dX6_value_7
