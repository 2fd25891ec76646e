def f_X7_take_J13 (x3 : Int32) (x4 : Int32) (x12 : Int64) : Int64 × Int32 × Int32 := ((x12, x3, x4))
def f_X7_take_L14 (o_given : Int32) (o_fed_f : (Nat → Int32)) (p0 : Int32) : Nat → Int32 → Int64 → Int32 → Int32 → Int64 × Int32 × Int32
  | 0, _, _, _, _ => (0, 0, 0)
  | n + 1, x1, x2, x3, x4 => (if p0 ≤ x1 then ((if p0 = 0 then (f_X7_take_J13 x3 x4 x2) else (if p0 = (8 : Int32) then (f_X7_take_J13 x3 x4 x2) else (f_X7_take_J13 x3 x4 ((x2 <<< ((((64 : Int32) - ((8 : Int32) * p0))).toInt64 &&& 63)) >>> ((((64 : Int32) - ((8 : Int32) * p0))).toInt64 &&& 63)))))) else (match (f_X7_next o_given x3 x4 o_fed_f) with | (y6, y7, y8) => f_X7_take_L14 o_given o_fed_f p0 n (x1 + (1 : Int32)) (x2 ||| (((y6).toInt64) <<< ((((8 : Int32) * x1)).toInt64 &&& 63))) y7 y8))
def f_X7_take (o_given : Int32) (o_at : Int32) (o_short0 : Int32) (o_fed_f : (Nat → Int32)) (p0 : Int32) : Int64 × Int32 × Int32 := (f_X7_take_L14 o_given o_fed_f p0 (((p0).toInt - ((0 : Int32)).toInt).toNat + 1) (0 : Int32) (0 : Int64) o_at o_short0)
set_option maxHeartbeats 4000000 in
set_option maxRecDepth 100000 in
theorem c_X7_take (l : Launch) (D : va_G) (cI : ClassId) (tT : Nat) (o : Nat) (o_ops : Nat) (o_sizes : Nat) (o_patterns : Nat) (o_leads : Nat) (o_codes : Nat) (o_tells : Nat) (o_numbers : Nat) (o_fields : Nat) (o_found : Nat) (o_bytes : Nat) (o_trial : Nat) (o_fed : Nat) (o_thrown : Int32) (o_number : Int64) (o_foundNumber : Int64) (o_length : Int32) (o_tried : Int32) (o_given : Int32) (o_at : Int32) (o_pfx : Int32) (o_pfd : Int32) (o_short0 : Int32) (o_fed_f : (Nat → Int32)) (p0 : Int32) (hv_o_at : qv (0) (30) o_at) (hv_o_given : qv (0) (16) o_given) (hv_p0 : qv (0) (8) p0) (ha_o_fed_f : ∀ j : Nat, qv 0 255 (o_fed_f j)) (r_o : Int64) (o_at_o : Int32) (o_short0_o : Int32) (hq : f_X7_take o_given o_at o_short0 o_fed_f p0 = (r_o, o_at_o, o_short0_o)) : qM l yX7_take wsX7_take (qr 1 20) (qX tT) D vwCl [(cI, .int)] [(o, .inr (6, [.int o_thrown, .int (115 : Int32), .ref o_ops, .ref o_sizes, .ref o_patterns, .ref o_leads, .ref o_codes, .ref o_tells, .ref o_numbers, .ref o_fields, .ref o_found, .long o_number, .long o_foundNumber, .ref o_bytes, .ref o_trial, .ref o_fed, .int o_length, .int o_tried, .int o_given, .int o_at, .int o_pfx, .int o_pfd, .int o_short0])), (o_fed, .inl (cI, 16, .inl o_fed_f))] [.ref o, .int p0] (some (.long r_o)) [(o, .inr (6, [.int o_thrown, .int (115 : Int32), .ref o_ops, .ref o_sizes, .ref o_patterns, .ref o_leads, .ref o_codes, .ref o_tells, .ref o_numbers, .ref o_fields, .ref o_found, .long o_number, .long o_foundNumber, .ref o_bytes, .ref o_trial, .ref o_fed, .int o_length, .int o_tried, .int o_given, .int o_at_o, .int o_pfx, .int o_pfd, .int o_short0_o])), (o_fed, .inl (cI, 16, .inl o_fed_f))] := by
  refine qM_of (cc := cX7_take) (maxL := 5) (ret := (some .long)) (by decide) rfl (Nat.le_of_ble_eq_true rfl) ?_
  intro p e s m args below meth c A ls Z hx hb hml hr hts hown hlk hK hA hXs hP hD hS hl hZ
  have hown : s.vm.findClass RX7 = some m.cls := hown
  have hl : lv_has ls 5 [(0, .ref o), (1, .int p0)] := hl
  have hXg := qX_ok tT
  have E := hq
  rw [f_X7_take] at E
  refine lv_lconst (v := (0 : Int64)) hx hb dX7_take_0 (by decide) ?_
  refine lv_lstore_n (lv' := [(2, .long (0 : Int64)), (0, .ref o), (1, .int p0)]) hx hb dX7_take_1 rfl hl (by decide) rfl (fun ls hl => ?_)
  refine lv_iconst (v := (0 : Int32)) hx hb dX7_take_2 (by decide) ?_
  refine lv_istore (lv' := [(4, .int (0 : Int32)), (2, .long (0 : Int64)), (0, .ref o), (1, .int p0)]) hx hb dX7_take_3 hl (by decide) rfl (fun ls hl => ?_)
  have L14 : ∀ (n : Nat) (x1 : Int32) (x2 : Int64) (x3 : Int32) (x4 : Int32) (hv_x1 : qv (0) (8) x1) (hrel : x3.toInt = o_at.toInt + x1.toInt) (ls : Array Slot) (H : Heap) (locs : List Loc), ((p0).toInt - (x1).toInt).toNat < n → f_X7_take_L14 o_given o_fed_f p0 n x1 x2 x3 x4 = (r_o, o_at_o, o_short0_o) → lv_has ls 5 [(4, .int x1), (2, .long x2), (0, .ref o), (1, .int p0)] → va_P D vwCl [(o, .inr (6, [.int o_thrown, .int (115 : Int32), .ref o_ops, .ref o_sizes, .ref o_patterns, .ref o_leads, .ref o_codes, .ref o_tells, .ref o_numbers, .ref o_fields, .ref o_found, .long o_number, .long o_foundNumber, .ref o_bytes, .ref o_trial, .ref o_fed, .int o_length, .int o_tried, .int o_given, .int x3, .int o_pfx, .int o_pfd, .int x4])), (o_fed, .inl (cI, 16, .inl o_fed_f))] H → va_D A [(o, .inr (6, [.int o_thrown, .int (115 : Int32), .ref o_ops, .ref o_sizes, .ref o_patterns, .ref o_leads, .ref o_codes, .ref o_tells, .ref o_numbers, .ref o_fields, .ref o_found, .long o_number, .long o_foundNumber, .ref o_bytes, .ref o_trial, .ref o_fed, .int o_length, .int o_tried, .int o_given, .int x3, .int o_pfx, .int o_pfd, .int x4])), (o_fed, .inl (cI, 16, .inl o_fed_f))] → va_S A s.heap H locs → W p l e (qr 1 20) s m args below meth c H locs 0 0 Z (F0 m 5 ls []) := by
    intro n
    induction n with
    | zero => intro x1 x2 x3 x4 hv_x1 hrel ls H locs hm; exact absurd hm (Nat.not_lt_zero _)
    | succ n ih =>
      intro x1 x2 x3 x4 hv_x1 hrel ls H locs hm E hl hP hD hS
      rw [f_X7_take_L14] at E
      refine lv_iload hx hb dX7_take_5 (lv_at hl 0 rfl) ?_
      refine lv_iload_n hx hb dX7_take_7 rfl (lv_at hl 3 rfl) ?_
      refine lv_icmp_ge (tgt := 31) hx hb dX7_take_8 (by decide) (fun c5 => ?_) (fun c5 => ?_)
      · rw [if_pos c5] at E
        refine lv_iload_n hx hb dX7_take_31 rfl (lv_at hl 3 rfl) ?_
        have J13 : ∀ (x12 : Int64) (ls : Array Slot) (H : Heap) (locs : List Loc), f_X7_take_J13 x3 x4 x12 = (r_o, o_at_o, o_short0_o) → lv_has ls 5 [(4, .int x1), (2, .long x2), (0, .ref o), (1, .int p0)] → va_P D vwCl [(o, .inr (6, [.int o_thrown, .int (115 : Int32), .ref o_ops, .ref o_sizes, .ref o_patterns, .ref o_leads, .ref o_codes, .ref o_tells, .ref o_numbers, .ref o_fields, .ref o_found, .long o_number, .long o_foundNumber, .ref o_bytes, .ref o_trial, .ref o_fed, .int o_length, .int o_tried, .int o_given, .int x3, .int o_pfx, .int o_pfd, .int x4])), (o_fed, .inl (cI, 16, .inl o_fed_f))] H → va_D A [(o, .inr (6, [.int o_thrown, .int (115 : Int32), .ref o_ops, .ref o_sizes, .ref o_patterns, .ref o_leads, .ref o_codes, .ref o_tells, .ref o_numbers, .ref o_fields, .ref o_found, .long o_number, .long o_foundNumber, .ref o_bytes, .ref o_trial, .ref o_fed, .int o_length, .int o_tried, .int o_given, .int x3, .int o_pfx, .int o_pfd, .int x4])), (o_fed, .inl (cI, 16, .inl o_fed_f))] → va_S A s.heap H locs → W p l e (qr 1 20) s m args below meth c H locs 0 0 Z (F0 m 62 ls [.long x12]) := by
          intro x12 ls H locs E hl hP hD hS
          rw [f_X7_take_J13] at E
          cases E
          rw [hZ]
          exact qw_lret hx hb hr hlk hP hD hS dX7_take_62
        refine lv_if_eq (tgt := 41) hx hb dX7_take_32 (by decide) (fun c10 => ?_) (fun c10 => ?_)
        · rw [if_pos c10] at E
          refine lv_lload_n hx hb dX7_take_41 rfl (lv_at hl 1 rfl) ?_
          refine lv_goto (tgt := 62) hx hb dX7_take_42 (by decide) ?_
          exact J13 x2 ls _ _ E (lv_sub hl [0, 1, 2, 3] rfl) hP hD hS
        · rw [if_neg c10] at E
          refine lv_iload_n hx hb dX7_take_35 rfl (lv_at hl 3 rfl) ?_
          refine lv_bipush (v := (8 : Int32)) hx hb dX7_take_36 (by decide) ?_
          refine lv_icmp_ne (tgt := 45) hx hb dX7_take_38 (by decide) (fun c11 => ?_) (fun c11 => ?_)
          · rw [if_neg c11] at E
            refine lv_lload_n hx hb dX7_take_45 rfl (lv_at hl 1 rfl) ?_
            refine lv_bipush (v := (64 : Int32)) hx hb dX7_take_46 (by decide) ?_
            refine lv_bipush (v := (8 : Int32)) hx hb dX7_take_48 (by decide) ?_
            refine lv_iload_n hx hb dX7_take_50 rfl (lv_at hl 3 rfl) ?_
            refine lv_imul hx hb dX7_take_51 ?_
            refine lv_isub hx hb dX7_take_52 ?_
            refine lv_lshl (v := (x2 <<< ((((64 : Int32) - ((8 : Int32) * p0))).toInt64 &&& 63))) hx hb dX7_take_53 rfl ?_
            refine lv_bipush (v := (64 : Int32)) hx hb dX7_take_54 (by decide) ?_
            refine lv_bipush (v := (8 : Int32)) hx hb dX7_take_56 (by decide) ?_
            refine lv_iload_n hx hb dX7_take_58 rfl (lv_at hl 3 rfl) ?_
            refine lv_imul hx hb dX7_take_59 ?_
            refine lv_isub hx hb dX7_take_60 ?_
            refine lv_lshr (v := ((x2 <<< ((((64 : Int32) - ((8 : Int32) * p0))).toInt64 &&& 63)) >>> ((((64 : Int32) - ((8 : Int32) * p0))).toInt64 &&& 63))) hx hb dX7_take_61 rfl ?_
            exact J13 ((x2 <<< ((((64 : Int32) - ((8 : Int32) * p0))).toInt64 &&& 63)) >>> ((((64 : Int32) - ((8 : Int32) * p0))).toInt64 &&& 63)) ls _ _ E (lv_sub hl [0, 1, 2, 3] rfl) hP hD hS
          · rw [if_pos c11] at E
            refine lv_lload_n hx hb dX7_take_41 rfl (lv_at hl 1 rfl) ?_
            refine lv_goto (tgt := 62) hx hb dX7_take_42 (by decide) ?_
            exact J13 x2 ls _ _ E (lv_sub hl [0, 1, 2, 3] rfl) hP hD hS
      · rw [if_neg c5] at E
        refine lv_lload_n hx hb dX7_take_11 rfl (lv_at hl 1 rfl) ?_
        refine lv_aload_n hx hb dX7_take_12 rfl (lv_at hl 2 rfl) ?_
        obtain ⟨y6, y7, y8, q9⟩ : ∃ y6 y7 y8, (f_X7_next o_given x3 x4 o_fed_f) = (y6, y7, y8) := ⟨_, _, _, rfl⟩
        rw [q9] at E
        dsimp only at E
        refine qw_callV (As := []) (rest := [.long x2]) (ws' := [(o, .inr (6, [.int o_thrown, .int (115 : Int32), .ref o_ops, .ref o_sizes, .ref o_patterns, .ref o_leads, .ref o_codes, .ref o_tells, .ref o_numbers, .ref o_fields, .ref o_found, .long o_number, .long o_foundNumber, .ref o_bytes, .ref o_trial, .ref o_fed, .int o_length, .int o_tried, .int o_given, .int y7, .int o_pfx, .int o_pfd, .int y8])), (o_fed, .inl (cI, 16, .inl o_fed_f))]) (st1 := [.int y6, .long x2]) ⟨hx, hb, hml, hown, hts⟩ (c_X7_next l D cI tT o o_ops o_sizes o_patterns o_leads o_codes o_tells o_numbers o_fields o_found o_bytes o_trial o_fed o_thrown o_number o_foundNumber o_length o_tried o_given x3 o_pfx o_pfd x4 o_fed_f (qv_w (⟨(qv_rel hrel hv_o_at (⟨hv_x1.1, (qv_h4 c5 (qv_ub (⟨(qv_l2 c5 (qv_lb1 (⟨hv_x1.1, (qv_h4 c5 (qv_ub (⟨hv_p0.1, hv_p0.2⟩ : qv (0) (8) p0) (by decide)))⟩ : qv (0) (7) x1) (by decide))), hv_p0.2⟩ : qv (1) (8) p0) (by decide)))⟩ : qv (0) (7) x1) (by decide) (by decide) : qv (0) (37) x3).1, (qv_rel hrel hv_o_at (⟨hv_x1.1, (qv_h4 c5 (qv_ub (⟨(qv_l2 c5 (qv_lb1 (⟨hv_x1.1, (qv_h4 c5 (qv_ub (⟨hv_p0.1, hv_p0.2⟩ : qv (0) (8) p0) (by decide)))⟩ : qv (0) (7) x1) (by decide))), hv_p0.2⟩ : qv (1) (8) p0) (by decide)))⟩ : qv (0) (7) x1) (by decide) (by decide) : qv (0) (37) x3).2⟩ : qv (0) (37) x3) (by decide) (by decide) : qv (0) (60) x3) (qv_w (⟨hv_o_given.1, hv_o_given.2⟩ : qv (0) (16) o_given) (by decide) (by decide) : qv (0) (16) o_given) ha_o_fed_f y6 y7 y8 q9) (cwV 0 hts gX7_take_X7_next rfl rfl rfl (by decide +kernel) ⟨Nat.le_of_ble_eq_true rfl, Nat.le_of_ble_eq_true rfl⟩) hXg hK hP hD hS hA hXs [0, 1] rfl rfl  rfl rfl rfl rfl rfl rfl hl.1 rfl (Nat.le_of_ble_eq_true rfl) rfl ⟨Nat.zero_le _, Nat.zero_le _⟩ dX7_take_13 (fun H locs hP hD hS => ?_)
        refine lv_i2l (v := (y6).toInt64) hx hb dX7_take_16 rfl ?_
        refine lv_bipush (v := (8 : Int32)) hx hb dX7_take_17 (by decide) ?_
        refine lv_iload hx hb dX7_take_19 (lv_at hl 0 rfl) ?_
        refine lv_imul hx hb dX7_take_21 ?_
        refine lv_lshl (v := (((y6).toInt64) <<< ((((8 : Int32) * x1)).toInt64 &&& 63))) hx hb dX7_take_22 rfl ?_
        refine lv_lor hx hb dX7_take_23 ?_
        refine lv_lstore_n (lv' := [(2, .long (x2 ||| (((y6).toInt64) <<< ((((8 : Int32) * x1)).toInt64 &&& 63)))), (4, .int x1), (0, .ref o), (1, .int p0)]) hx hb dX7_take_24 rfl hl (by decide) rfl (fun ls hl => ?_)
        refine lv_iinc (v := x1 + (1 : Int32)) (lv' := [(4, .int (x1 + (1 : Int32))), (2, .long (x2 ||| (((y6).toInt64) <<< ((((8 : Int32) * x1)).toInt64 &&& 63)))), (0, .ref o), (1, .int p0)]) hx hb dX7_take_25 hl (k := 1) rfl (by first | rfl | decide) (by decide) rfl (fun ls hl => ?_)
        refine lv_goto (tgt := 5) hx hb dX7_take_28 (by decide) ?_
        exact ih (x1 + (1 : Int32)) (x2 ||| (((y6).toInt64) <<< ((((8 : Int32) * x1)).toInt64 &&& 63))) y7 y8 (qv_w (qv_add (⟨hv_x1.1, (qv_h4 c5 (qv_ub (⟨(qv_l2 c5 (qv_lb1 (⟨hv_x1.1, hv_x1.2⟩ : qv (0) (8) x1) (by decide))), hv_p0.2⟩ : qv (1) (8) p0) (by decide)))⟩ : qv (0) (7) x1) (⟨by decide, by decide⟩ : qv (1) (1) (1 : Int32)) (by decide) (by decide) (by decide) (by decide) : qv (1) (8) (x1 + (1 : Int32))) (by decide) (by decide) : qv (0) (8) (x1 + (1 : Int32))) (rel_X7_take hrel hv_o_at (qv_w (⟨hv_x1.1, (qv_h4 c5 (qv_ub (⟨(qv_l2 c5 (qv_lb1 (⟨hv_x1.1, (qv_h4 c5 (qv_ub (⟨hv_p0.1, hv_p0.2⟩ : qv (0) (8) p0) (by decide)))⟩ : qv (0) (7) x1) (by decide))), hv_p0.2⟩ : qv (1) (8) p0) (by decide)))⟩ : qv (0) (7) x1) (by decide) (by decide) : qv (0) (7) x1) q9) ls _ _ (qw_up hm c5) E (lv_sub hl [0, 1, 2, 3] rfl) hP hD hS
  exact L14 _ (0 : Int32) (0 : Int64) o_at o_short0 (qv_w (⟨by decide, by decide⟩ : qv (0) (0) (0 : Int32)) (by decide) (by decide) : qv (0) (8) (0 : Int32)) (by simp) ls _ _ (Nat.lt_succ_self _) E (lv_sub hl [0, 1, 2, 3] rfl) hP hD hS
