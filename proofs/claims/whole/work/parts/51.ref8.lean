def f_X7_takeForm_J43 (o_at : Int32) (o_pfx : Int32) (o_found_f : (Nat → Int32)) (p0 : Int32) (p1 : Int32) (x42 : Int32) : Int32 × Int32 × (Nat → Int32) := ((o_at, x42, (upd (upd o_found_f (((3 : Int32) + ((2 : Int32) * p1))).toNatClampNeg (1 : Int32)) (((4 : Int32) + ((2 : Int32) * p1))).toNatClampNeg (((o_pfx &&& (1 : Int32)) * (8 : Int32)) + (p0 &&& (7 : Int32))))))
def f_X7_takeForm_J34 (o_given : Int32) (o_found_f : (Nat → Int32)) (o_fed_f : (Nat → Int32)) (p1 : Int32) (x8 : Int32) (x9 : Int32) (x20 : Int32) (x26 : Int32) (x29 : Int32) (x33 : Int32) : Int32 × Int32 × (Nat → Int32) := (match (f_X7_take o_given x8 x9 o_fed_f x33) with | (y35, y36, y37) => (y36, y37, (upd (upd (upd (upd (upd o_found_f (((3 : Int32) + ((2 : Int32) * p1))).toNatClampNeg (2 : Int32)) ((9 : Int32)).toNatClampNeg x20) ((10 : Int32)).toNatClampNeg x26) ((11 : Int32)).toNatClampNeg x29) ((12 : Int32)).toNatClampNeg ((y35).toInt32))))
def f_X7_takeForm_J30 (o_given : Int32) (o_found_f : (Nat → Int32)) (o_fed_f : (Nat → Int32)) (p0 : Int32) (p1 : Int32) (x8 : Int32) (x9 : Int32) (x16 : Int32) (x20 : Int32) (x26 : Int32) (x29 : Int32) : Int32 × Int32 × (Nat → Int32) := ((if x16 = 0 then (if (p0 >>> ((6 : Int32) &&& 31)) = (2 : Int32) then (f_X7_takeForm_J34 o_given o_found_f o_fed_f p1 x8 x9 x20 x26 x29 (4 : Int32)) else (f_X7_takeForm_J34 o_given o_found_f o_fed_f p1 x8 x9 x20 x26 x29 (p0 >>> ((6 : Int32) &&& 31)))) else (f_X7_takeForm_J34 o_given o_found_f o_fed_f p1 x8 x9 x20 x26 x29 (4 : Int32))))
def f_X7_takeForm_J27 (o_given : Int32) (o_found_f : (Nat → Int32)) (o_fed_f : (Nat → Int32)) (p0 : Int32) (p1 : Int32) (x7 : Int32) (x8 : Int32) (x9 : Int32) (x16 : Int32) (x20 : Int32) (x23 : Int32) (x26 : Int32) : Int32 × Int32 × (Nat → Int32) := ((if x23 = (4 : Int32) then (f_X7_takeForm_J30 o_given o_found_f o_fed_f p0 p1 x8 x9 x16 x20 x26 (1 : Int32)) else (f_X7_takeForm_J30 o_given o_found_f o_fed_f p0 p1 x8 x9 x16 x20 x26 ((1 : Int32) <<< ((x7 >>> ((6 : Int32) &&& 31)) &&& 31)))))
def f_X7_takeForm_J24 (o_given : Int32) (o_found_f : (Nat → Int32)) (o_fed_f : (Nat → Int32)) (p0 : Int32) (p1 : Int32) (x7 : Int32) (x8 : Int32) (x9 : Int32) (x16 : Int32) (x20 : Int32) (x23 : Int32) : Int32 × Int32 × (Nat → Int32) := ((if x23 = (4 : Int32) then (f_X7_takeForm_J27 o_given o_found_f o_fed_f p0 p1 x7 x8 x9 x16 x20 x23 (-1 : Int32)) else (f_X7_takeForm_J27 o_given o_found_f o_fed_f p0 p1 x7 x8 x9 x16 x20 x23 x23)))
def f_X7_takeForm_J21 (o_given : Int32) (o_pfx : Int32) (o_found_f : (Nat → Int32)) (o_fed_f : (Nat → Int32)) (p0 : Int32) (p1 : Int32) (x7 : Int32) (x8 : Int32) (x9 : Int32) (x16 : Int32) (x20 : Int32) : Int32 × Int32 × (Nat → Int32) := ((if 0 ≤ x7 then (f_X7_takeForm_J24 o_given o_found_f o_fed_f p0 p1 x7 x8 x9 x16 x20 ((((o_pfx >>> ((1 : Int32) &&& 31)) &&& (1 : Int32)) * (8 : Int32)) + ((x7 >>> ((3 : Int32) &&& 31)) &&& (7 : Int32)))) else (f_X7_takeForm_J24 o_given o_found_f o_fed_f p0 p1 x7 x8 x9 x16 x20 (4 : Int32))))
def f_X7_takeForm_J17 (o_given : Int32) (o_pfx : Int32) (o_found_f : (Nat → Int32)) (o_fed_f : (Nat → Int32)) (p0 : Int32) (p1 : Int32) (x7 : Int32) (x8 : Int32) (x9 : Int32) (x12 : Int32) (x16 : Int32) : Int32 × Int32 × (Nat → Int32) := ((if x16 = 0 then (f_X7_takeForm_J21 o_given o_pfx o_found_f o_fed_f p0 p1 x7 x8 x9 x16 (((o_pfx &&& (1 : Int32)) * (8 : Int32)) + x12)) else (if 0 ≤ x7 then (f_X7_takeForm_J21 o_given o_pfx o_found_f o_fed_f p0 p1 x7 x8 x9 x16 (-1 : Int32)) else (f_X7_takeForm_J21 o_given o_pfx o_found_f o_fed_f p0 p1 x7 x8 x9 x16 (16 : Int32)))))
def f_X7_takeForm_J13 (o_given : Int32) (o_pfx : Int32) (o_found_f : (Nat → Int32)) (o_fed_f : (Nat → Int32)) (p0 : Int32) (p1 : Int32) (x7 : Int32) (x8 : Int32) (x9 : Int32) (x12 : Int32) : Int32 × Int32 × (Nat → Int32) := ((if (p0 >>> ((6 : Int32) &&& 31)) = 0 then (if x12 = (5 : Int32) then (f_X7_takeForm_J17 o_given o_pfx o_found_f o_fed_f p0 p1 x7 x8 x9 x12 (1 : Int32)) else (f_X7_takeForm_J17 o_given o_pfx o_found_f o_fed_f p0 p1 x7 x8 x9 x12 (0 : Int32))) else (f_X7_takeForm_J17 o_given o_pfx o_found_f o_fed_f p0 p1 x7 x8 x9 x12 (0 : Int32))))
def f_X7_takeForm_J10 (o_given : Int32) (o_pfx : Int32) (o_found_f : (Nat → Int32)) (o_fed_f : (Nat → Int32)) (p0 : Int32) (p1 : Int32) (x7 : Int32) (x8 : Int32) (x9 : Int32) : Int32 × Int32 × (Nat → Int32) := ((if 0 ≤ x7 then (f_X7_takeForm_J13 o_given o_pfx o_found_f o_fed_f p0 p1 x7 x8 x9 (x7 &&& (7 : Int32))) else (f_X7_takeForm_J13 o_given o_pfx o_found_f o_fed_f p0 p1 x7 x8 x9 (p0 &&& (7 : Int32)))))
def f_X7_takeForm (o_given : Int32) (o_at : Int32) (o_pfx : Int32) (o_pfd : Int32) (o_short0 : Int32) (o_found_f : (Nat → Int32)) (o_fed_f : (Nat → Int32)) (p0 : Int32) (p1 : Int32) (p2 : Int32) : Int32 × Int32 × (Nat → Int32) := (if (p0 >>> ((6 : Int32) &&& 31)) = (3 : Int32) then ((if p2 = (1 : Int32) then (if o_pfd = 0 then (if (p0 &&& (7 : Int32)) ≤ (3 : Int32) then (f_X7_takeForm_J43 o_at o_pfx o_found_f p0 p1 o_short0) else (f_X7_takeForm_J43 o_at o_pfx o_found_f p0 p1 (1 : Int32))) else (f_X7_takeForm_J43 o_at o_pfx o_found_f p0 p1 o_short0)) else (f_X7_takeForm_J43 o_at o_pfx o_found_f p0 p1 o_short0))) else ((if (p0 &&& (7 : Int32)) = (4 : Int32) then (match (f_X7_next o_given o_at o_short0 o_fed_f) with | (y3, y4, y5) => f_X7_takeForm_J10 o_given o_pfx o_found_f o_fed_f p0 p1 y3 y4 y5) else (f_X7_takeForm_J10 o_given o_pfx o_found_f o_fed_f p0 p1 (-1 : Int32) o_at o_short0))))
set_option maxHeartbeats 4000000 in
set_option maxRecDepth 100000 in
theorem c_X7_takeForm (l : Launch) (D : va_G) (cI : ClassId) (tT : Nat) (o : Nat) (o_ops : Nat) (o_sizes : Nat) (o_patterns : Nat) (o_leads : Nat) (o_codes : Nat) (o_tells : Nat) (o_numbers : Nat) (o_fields : Nat) (o_found : Nat) (o_bytes : Nat) (o_trial : Nat) (o_fed : Nat) (o_thrown : Int32) (o_number : Int64) (o_foundNumber : Int64) (o_length : Int32) (o_tried : Int32) (o_given : Int32) (o_at : Int32) (o_pfx : Int32) (o_pfd : Int32) (o_short0 : Int32) (o_found_f : (Nat → Int32)) (o_fed_f : (Nat → Int32)) (p0 : Int32) (p1 : Int32) (p2 : Int32) (hv_o_at : qv (0) (20) o_at) (hv_o_given : qv (0) (16) o_given) (hv_p0 : qv (0) (255) p0) (hv_p1 : qv (0) (2) p1) (ha_o_fed_f : ∀ j : Nat, qv 0 255 (o_fed_f j)) (o_at_o : Int32) (o_short0_o : Int32) (o_found_f_o : (Nat → Int32)) (hq : f_X7_takeForm o_given o_at o_pfx o_pfd o_short0 o_found_f o_fed_f p0 p1 p2 = (o_at_o, o_short0_o, o_found_f_o)) : qM l yX7_takeForm wsX7_takeForm (qr 2 44) (qX tT) D vwCl [(cI, .int)] [(o, .inr (6, [.int o_thrown, .int (115 : Int32), .ref o_ops, .ref o_sizes, .ref o_patterns, .ref o_leads, .ref o_codes, .ref o_tells, .ref o_numbers, .ref o_fields, .ref o_found, .long o_number, .long o_foundNumber, .ref o_bytes, .ref o_trial, .ref o_fed, .int o_length, .int o_tried, .int o_given, .int o_at, .int o_pfx, .int o_pfd, .int o_short0])), (o_found, .inl (cI, 13, .inl o_found_f)), (o_fed, .inl (cI, 16, .inl o_fed_f))] [.ref o, .int p0, .int p1, .int p2] none [(o, .inr (6, [.int o_thrown, .int (115 : Int32), .ref o_ops, .ref o_sizes, .ref o_patterns, .ref o_leads, .ref o_codes, .ref o_tells, .ref o_numbers, .ref o_fields, .ref o_found, .long o_number, .long o_foundNumber, .ref o_bytes, .ref o_trial, .ref o_fed, .int o_length, .int o_tried, .int o_given, .int o_at_o, .int o_pfx, .int o_pfd, .int o_short0_o])), (o_found, .inl (cI, 13, .inl o_found_f_o)), (o_fed, .inl (cI, 16, .inl o_fed_f))] := by
  refine qM_of (cc := cX7_takeForm) (maxL := 11) (ret := none) (by decide) rfl (Nat.le_of_ble_eq_true rfl) ?_
  intro p e s m args below meth c A ls Z hx hb hml hr hts hown hlk hK hA hXs hP hD hS hl hZ
  have hown : s.vm.findClass RX7 = some m.cls := hown
  have hl : lv_has ls 11 [(0, .ref o), (1, .int p0), (2, .int p1), (3, .int p2)] := hl
  have hi_X7 : ∀ w ∈ wsX70, w ∈ wsX7_takeForm := by decide +kernel
  have lk125 := hts (.fieldLink RX7 125 "InstructionCoderModel" "short0" "Z") (by decide +kernel)
  have lk136 := hts (.fieldLink RX7 136 "InstructionCoderModel" "prefix" "I") (by decide +kernel)
  have lk139 := hts (.fieldLink RX7 139 "InstructionCoderModel" "prefixed" "Z") (by decide +kernel)
  have lk34 := hts (.fieldLink RX7 34 "InstructionCoderModel" "found" "[I") (by decide +kernel)
  have hXg := qX_ok tT
  have E := hq
  rw [f_X7_takeForm] at E
  refine lv_iload_n hx hb dX7_takeForm_0 rfl (lv_at hl 1 rfl) ?_
  refine lv_bipush (v := (6 : Int32)) hx hb dX7_takeForm_1 (by decide) ?_
  refine lv_ishr hx hb dX7_takeForm_3 ?_
  refine lv_istore (lv' := [(4, .int (p0 >>> ((6 : Int32) &&& 31))), (0, .ref o), (1, .int p0), (2, .int p1), (3, .int p2)]) hx hb dX7_takeForm_4 hl (by decide) rfl (fun ls hl => ?_)
  refine lv_iload_n hx hb dX7_takeForm_6 rfl (lv_at hl 2 rfl) ?_
  refine lv_bipush (v := (7 : Int32)) hx hb dX7_takeForm_7 (by decide) ?_
  refine lv_iand hx hb dX7_takeForm_9 ?_
  refine lv_istore (lv' := [(5, .int (p0 &&& (7 : Int32))), (4, .int (p0 >>> ((6 : Int32) &&& 31))), (0, .ref o), (1, .int p0), (2, .int p1), (3, .int p2)]) hx hb dX7_takeForm_10 hl (by decide) rfl (fun ls hl => ?_)
  refine lv_aload_n hx hb dX7_takeForm_12 rfl (lv_at hl 2 rfl) ?_
  refine va_get (D := D) (ci := 6) (v := .int o_pfx) (C := RX7) (T := TX7) (N := 23) hx hb hts hi_X7 hown hK hP 0 rfl rfl 20 (by decide) lk136 (fun _ h9 => h9) rfl dX7_takeForm_13 ?_
  refine lv_iconst (v := (1 : Int32)) hx hb dX7_takeForm_16 (by decide) ?_
  refine lv_iand hx hb dX7_takeForm_17 ?_
  refine lv_bipush (v := (8 : Int32)) hx hb dX7_takeForm_18 (by decide) ?_
  refine lv_imul hx hb dX7_takeForm_20 ?_
  refine lv_istore (lv' := [(6, .int ((o_pfx &&& (1 : Int32)) * (8 : Int32))), (5, .int (p0 &&& (7 : Int32))), (4, .int (p0 >>> ((6 : Int32) &&& 31))), (0, .ref o), (1, .int p0), (2, .int p1), (3, .int p2)]) hx hb dX7_takeForm_21 hl (by decide) rfl (fun ls hl => ?_)
  refine lv_iload hx hb dX7_takeForm_23 (lv_at hl 2 rfl) ?_
  refine lv_iconst (v := (3 : Int32)) hx hb dX7_takeForm_25 (by decide) ?_
  refine lv_icmp_ne (tgt := 79) hx hb dX7_takeForm_26 (by decide) (fun c1 => ?_) (fun c1 => ?_)
  · rw [if_neg c1] at E
    refine lv_aload_n hx hb dX7_takeForm_79 rfl (lv_at hl 3 rfl) ?_
    refine va_get (D := D) (ci := 6) (v := .ref o_found) (C := RX7) (T := TX7) (N := 23) hx hb hts hi_X7 hown hK hP 0 rfl rfl 10 (by decide) lk34 (fun _ h9 => h9) rfl dX7_takeForm_80 ?_
    refine lv_iconst (v := (3 : Int32)) hx hb dX7_takeForm_83 (by decide) ?_
    refine lv_iconst (v := (2 : Int32)) hx hb dX7_takeForm_84 (by decide) ?_
    refine lv_iload_n hx hb dX7_takeForm_85 rfl (lv_at hl 5 rfl) ?_
    refine lv_imul hx hb dX7_takeForm_86 ?_
    refine lv_iadd hx hb dX7_takeForm_87 ?_
    refine lv_iconst (v := (2 : Int32)) hx hb dX7_takeForm_88 (by decide) ?_
    refine va_iast hx hb hK hP hD hS 1 0 rfl rfl (qv_in (qv_add (⟨by decide, by decide⟩ : qv (3) (3) (3 : Int32)) (qv_mul (k := 2) (⟨hv_p1.1, hv_p1.2⟩ : qv (0) (2) p1) (by decide) (by decide) (by decide) (by decide) (by decide) : qv (0) (4) ((2 : Int32) * p1)) (by decide) (by decide) (by decide) (by decide) : qv (3) (7) ((3 : Int32) + ((2 : Int32) * p1))) (by decide) (by decide)) dX7_takeForm_89 (fun H locs hP hD hS => ?_)
    have hP : va_P D vwCl [(o, .inr (6, [.int o_thrown, .int (115 : Int32), .ref o_ops, .ref o_sizes, .ref o_patterns, .ref o_leads, .ref o_codes, .ref o_tells, .ref o_numbers, .ref o_fields, .ref o_found, .long o_number, .long o_foundNumber, .ref o_bytes, .ref o_trial, .ref o_fed, .int o_length, .int o_tried, .int o_given, .int o_at, .int o_pfx, .int o_pfd, .int o_short0])), (o_found, .inl (cI, 13, .inl (upd o_found_f (((3 : Int32) + ((2 : Int32) * p1))).toNatClampNeg (2 : Int32)))), (o_fed, .inl (cI, 16, .inl o_fed_f))] H := hP
    have hD : va_D A [(o, .inr (6, [.int o_thrown, .int (115 : Int32), .ref o_ops, .ref o_sizes, .ref o_patterns, .ref o_leads, .ref o_codes, .ref o_tells, .ref o_numbers, .ref o_fields, .ref o_found, .long o_number, .long o_foundNumber, .ref o_bytes, .ref o_trial, .ref o_fed, .int o_length, .int o_tried, .int o_given, .int o_at, .int o_pfx, .int o_pfd, .int o_short0])), (o_found, .inl (cI, 13, .inl (upd o_found_f (((3 : Int32) + ((2 : Int32) * p1))).toNatClampNeg (2 : Int32)))), (o_fed, .inl (cI, 16, .inl o_fed_f))] := hD
    refine lv_iload hx hb dX7_takeForm_90 (lv_at hl 1 rfl) ?_
    refine lv_iconst (v := (4 : Int32)) hx hb dX7_takeForm_92 (by decide) ?_
    have J10 : ∀ (x7 : Int32) (hv_x7 : qv (-1) (255) x7) (x8 : Int32) (hv_x8 : qv (0) (21) x8) (x9 : Int32) (ls : Array Slot) (H : Heap) (locs : List Loc), f_X7_takeForm_J10 o_given o_pfx o_found_f o_fed_f p0 p1 x7 x8 x9 = (o_at_o, o_short0_o, o_found_f_o) → lv_has ls 11 [(6, .int ((o_pfx &&& (1 : Int32)) * (8 : Int32))), (5, .int (p0 &&& (7 : Int32))), (4, .int (p0 >>> ((6 : Int32) &&& 31))), (0, .ref o), (1, .int p0), (2, .int p1), (3, .int p2)] → va_P D vwCl [(o, .inr (6, [.int o_thrown, .int (115 : Int32), .ref o_ops, .ref o_sizes, .ref o_patterns, .ref o_leads, .ref o_codes, .ref o_tells, .ref o_numbers, .ref o_fields, .ref o_found, .long o_number, .long o_foundNumber, .ref o_bytes, .ref o_trial, .ref o_fed, .int o_length, .int o_tried, .int o_given, .int x8, .int o_pfx, .int o_pfd, .int x9])), (o_found, .inl (cI, 13, .inl (upd o_found_f (((3 : Int32) + ((2 : Int32) * p1))).toNatClampNeg (2 : Int32)))), (o_fed, .inl (cI, 16, .inl o_fed_f))] H → va_D A [(o, .inr (6, [.int o_thrown, .int (115 : Int32), .ref o_ops, .ref o_sizes, .ref o_patterns, .ref o_leads, .ref o_codes, .ref o_tells, .ref o_numbers, .ref o_fields, .ref o_found, .long o_number, .long o_foundNumber, .ref o_bytes, .ref o_trial, .ref o_fed, .int o_length, .int o_tried, .int o_given, .int x8, .int o_pfx, .int o_pfd, .int x9])), (o_found, .inl (cI, 13, .inl (upd o_found_f (((3 : Int32) + ((2 : Int32) * p1))).toNatClampNeg (2 : Int32)))), (o_fed, .inl (cI, 16, .inl o_fed_f))] → va_S A s.heap H locs → W p l e (qr 2 44) s m args below meth c H locs 0 0 Z (F0 m 104 ls [.int x7]) := by
      intro x7 hv_x7 x8 hv_x8 x9 ls H locs E hl hP hD hS
      rw [f_X7_takeForm_J10] at E
      refine lv_istore (lv' := [(7, .int x7), (6, .int ((o_pfx &&& (1 : Int32)) * (8 : Int32))), (5, .int (p0 &&& (7 : Int32))), (4, .int (p0 >>> ((6 : Int32) &&& 31))), (0, .ref o), (1, .int p0), (2, .int p1), (3, .int p2)]) hx hb dX7_takeForm_104 hl (by decide) rfl (fun ls hl => ?_)
      refine lv_iload hx hb dX7_takeForm_106 (lv_at hl 0 rfl) ?_
      have J13 : ∀ (x12 : Int32) (ls : Array Slot) (H : Heap) (locs : List Loc), f_X7_takeForm_J13 o_given o_pfx o_found_f o_fed_f p0 p1 x7 x8 x9 x12 = (o_at_o, o_short0_o, o_found_f_o) → lv_has ls 11 [(7, .int x7), (6, .int ((o_pfx &&& (1 : Int32)) * (8 : Int32))), (5, .int (p0 &&& (7 : Int32))), (4, .int (p0 >>> ((6 : Int32) &&& 31))), (0, .ref o), (1, .int p0), (2, .int p1), (3, .int p2)] → va_P D vwCl [(o, .inr (6, [.int o_thrown, .int (115 : Int32), .ref o_ops, .ref o_sizes, .ref o_patterns, .ref o_leads, .ref o_codes, .ref o_tells, .ref o_numbers, .ref o_fields, .ref o_found, .long o_number, .long o_foundNumber, .ref o_bytes, .ref o_trial, .ref o_fed, .int o_length, .int o_tried, .int o_given, .int x8, .int o_pfx, .int o_pfd, .int x9])), (o_found, .inl (cI, 13, .inl (upd o_found_f (((3 : Int32) + ((2 : Int32) * p1))).toNatClampNeg (2 : Int32)))), (o_fed, .inl (cI, 16, .inl o_fed_f))] H → va_D A [(o, .inr (6, [.int o_thrown, .int (115 : Int32), .ref o_ops, .ref o_sizes, .ref o_patterns, .ref o_leads, .ref o_codes, .ref o_tells, .ref o_numbers, .ref o_fields, .ref o_found, .long o_number, .long o_foundNumber, .ref o_bytes, .ref o_trial, .ref o_fed, .int o_length, .int o_tried, .int o_given, .int x8, .int o_pfx, .int o_pfd, .int x9])), (o_found, .inl (cI, 13, .inl (upd o_found_f (((3 : Int32) + ((2 : Int32) * p1))).toNatClampNeg (2 : Int32)))), (o_fed, .inl (cI, 16, .inl o_fed_f))] → va_S A s.heap H locs → W p l e (qr 2 44) s m args below meth c H locs 0 0 Z (F0 m 121 ls [.int x12]) := by
        intro x12 ls H locs E hl hP hD hS
        rw [f_X7_takeForm_J13] at E
        refine lv_istore (lv' := [(8, .int x12), (7, .int x7), (6, .int ((o_pfx &&& (1 : Int32)) * (8 : Int32))), (5, .int (p0 &&& (7 : Int32))), (4, .int (p0 >>> ((6 : Int32) &&& 31))), (0, .ref o), (1, .int p0), (2, .int p1), (3, .int p2)]) hx hb dX7_takeForm_121 hl (by decide) rfl (fun ls hl => ?_)
        refine lv_iload hx hb dX7_takeForm_123 (lv_at hl 4 rfl) ?_
        have J17 : ∀ (x16 : Int32) (hb_x16 : x16 = 0 ∨ x16 = 1) (hv_x16 : qv (0) (1) x16) (ls : Array Slot) (H : Heap) (locs : List Loc), f_X7_takeForm_J17 o_given o_pfx o_found_f o_fed_f p0 p1 x7 x8 x9 x12 x16 = (o_at_o, o_short0_o, o_found_f_o) → lv_has ls 11 [(8, .int x12), (7, .int x7), (6, .int ((o_pfx &&& (1 : Int32)) * (8 : Int32))), (5, .int (p0 &&& (7 : Int32))), (4, .int (p0 >>> ((6 : Int32) &&& 31))), (0, .ref o), (1, .int p0), (2, .int p1), (3, .int p2)] → va_P D vwCl [(o, .inr (6, [.int o_thrown, .int (115 : Int32), .ref o_ops, .ref o_sizes, .ref o_patterns, .ref o_leads, .ref o_codes, .ref o_tells, .ref o_numbers, .ref o_fields, .ref o_found, .long o_number, .long o_foundNumber, .ref o_bytes, .ref o_trial, .ref o_fed, .int o_length, .int o_tried, .int o_given, .int x8, .int o_pfx, .int o_pfd, .int x9])), (o_found, .inl (cI, 13, .inl (upd o_found_f (((3 : Int32) + ((2 : Int32) * p1))).toNatClampNeg (2 : Int32)))), (o_fed, .inl (cI, 16, .inl o_fed_f))] H → va_D A [(o, .inr (6, [.int o_thrown, .int (115 : Int32), .ref o_ops, .ref o_sizes, .ref o_patterns, .ref o_leads, .ref o_codes, .ref o_tells, .ref o_numbers, .ref o_fields, .ref o_found, .long o_number, .long o_foundNumber, .ref o_bytes, .ref o_trial, .ref o_fed, .int o_length, .int o_tried, .int o_given, .int x8, .int o_pfx, .int o_pfd, .int x9])), (o_found, .inl (cI, 13, .inl (upd o_found_f (((3 : Int32) + ((2 : Int32) * p1))).toNatClampNeg (2 : Int32)))), (o_fed, .inl (cI, 16, .inl o_fed_f))] → va_S A s.heap H locs → W p l e (qr 2 44) s m args below meth c H locs 0 0 Z (F0 m 139 ls [.int x16]) := by
          intro x16 hb_x16 hv_x16 ls H locs E hl hP hD hS
          rw [f_X7_takeForm_J17] at E
          refine lv_istore (lv' := [(9, .int x16), (8, .int x12), (7, .int x7), (6, .int ((o_pfx &&& (1 : Int32)) * (8 : Int32))), (5, .int (p0 &&& (7 : Int32))), (4, .int (p0 >>> ((6 : Int32) &&& 31))), (0, .ref o), (1, .int p0), (2, .int p1), (3, .int p2)]) hx hb dX7_takeForm_139 hl (by decide) rfl (fun ls hl => ?_)
          refine lv_aload_n hx hb dX7_takeForm_141 rfl (lv_at hl 6 rfl) ?_
          refine va_get (D := D) (ci := 6) (v := .ref o_found) (C := RX7) (T := TX7) (N := 23) hx hb hts hi_X7 hown hK hP 0 rfl rfl 10 (by decide) lk34 (fun _ h9 => h9) rfl dX7_takeForm_142 ?_
          refine lv_bipush (v := (9 : Int32)) hx hb dX7_takeForm_145 (by decide) ?_
          refine lv_iload hx hb dX7_takeForm_147 (lv_at hl 0 rfl) ?_
          have J21 : ∀ (x20 : Int32) (ls : Array Slot) (H : Heap) (locs : List Loc), f_X7_takeForm_J21 o_given o_pfx o_found_f o_fed_f p0 p1 x7 x8 x9 x16 x20 = (o_at_o, o_short0_o, o_found_f_o) → lv_has ls 11 [(9, .int x16), (8, .int x12), (7, .int x7), (6, .int ((o_pfx &&& (1 : Int32)) * (8 : Int32))), (5, .int (p0 &&& (7 : Int32))), (4, .int (p0 >>> ((6 : Int32) &&& 31))), (0, .ref o), (1, .int p0), (2, .int p1), (3, .int p2)] → va_P D vwCl [(o, .inr (6, [.int o_thrown, .int (115 : Int32), .ref o_ops, .ref o_sizes, .ref o_patterns, .ref o_leads, .ref o_codes, .ref o_tells, .ref o_numbers, .ref o_fields, .ref o_found, .long o_number, .long o_foundNumber, .ref o_bytes, .ref o_trial, .ref o_fed, .int o_length, .int o_tried, .int o_given, .int x8, .int o_pfx, .int o_pfd, .int x9])), (o_found, .inl (cI, 13, .inl (upd o_found_f (((3 : Int32) + ((2 : Int32) * p1))).toNatClampNeg (2 : Int32)))), (o_fed, .inl (cI, 16, .inl o_fed_f))] H → va_D A [(o, .inr (6, [.int o_thrown, .int (115 : Int32), .ref o_ops, .ref o_sizes, .ref o_patterns, .ref o_leads, .ref o_codes, .ref o_tells, .ref o_numbers, .ref o_fields, .ref o_found, .long o_number, .long o_foundNumber, .ref o_bytes, .ref o_trial, .ref o_fed, .int o_length, .int o_tried, .int o_given, .int x8, .int o_pfx, .int o_pfd, .int x9])), (o_found, .inl (cI, 13, .inl (upd o_found_f (((3 : Int32) + ((2 : Int32) * p1))).toNatClampNeg (2 : Int32)))), (o_fed, .inl (cI, 16, .inl o_fed_f))] → va_S A s.heap H locs → W p l e (qr 2 44) s m args below meth c H locs 0 0 Z (F0 m 171 ls [.int x20, .int (9 : Int32), .ref o_found]) := by
            intro x20 ls H locs E hl hP hD hS
            rw [f_X7_takeForm_J21] at E
            refine va_iast hx hb hK hP hD hS 1 0 rfl rfl (qw_in0 (x := (9 : Int32)) (n := 13) (by decide) (by decide)) dX7_takeForm_171 (fun H locs hP hD hS => ?_)
            have hP : va_P D vwCl [(o, .inr (6, [.int o_thrown, .int (115 : Int32), .ref o_ops, .ref o_sizes, .ref o_patterns, .ref o_leads, .ref o_codes, .ref o_tells, .ref o_numbers, .ref o_fields, .ref o_found, .long o_number, .long o_foundNumber, .ref o_bytes, .ref o_trial, .ref o_fed, .int o_length, .int o_tried, .int o_given, .int x8, .int o_pfx, .int o_pfd, .int x9])), (o_found, .inl (cI, 13, .inl (upd (upd o_found_f (((3 : Int32) + ((2 : Int32) * p1))).toNatClampNeg (2 : Int32)) ((9 : Int32)).toNatClampNeg x20))), (o_fed, .inl (cI, 16, .inl o_fed_f))] H := hP
            have hD : va_D A [(o, .inr (6, [.int o_thrown, .int (115 : Int32), .ref o_ops, .ref o_sizes, .ref o_patterns, .ref o_leads, .ref o_codes, .ref o_tells, .ref o_numbers, .ref o_fields, .ref o_found, .long o_number, .long o_foundNumber, .ref o_bytes, .ref o_trial, .ref o_fed, .int o_length, .int o_tried, .int o_given, .int x8, .int o_pfx, .int o_pfd, .int x9])), (o_found, .inl (cI, 13, .inl (upd (upd o_found_f (((3 : Int32) + ((2 : Int32) * p1))).toNatClampNeg (2 : Int32)) ((9 : Int32)).toNatClampNeg x20))), (o_fed, .inl (cI, 16, .inl o_fed_f))] := hD
            refine lv_iload hx hb dX7_takeForm_172 (lv_at hl 2 rfl) ?_
            have J24 : ∀ (x23 : Int32) (ls : Array Slot) (H : Heap) (locs : List Loc), f_X7_takeForm_J24 o_given o_found_f o_fed_f p0 p1 x7 x8 x9 x16 x20 x23 = (o_at_o, o_short0_o, o_found_f_o) → lv_has ls 11 [(9, .int x16), (8, .int x12), (7, .int x7), (6, .int ((o_pfx &&& (1 : Int32)) * (8 : Int32))), (5, .int (p0 &&& (7 : Int32))), (4, .int (p0 >>> ((6 : Int32) &&& 31))), (0, .ref o), (1, .int p0), (2, .int p1), (3, .int p2)] → va_P D vwCl [(o, .inr (6, [.int o_thrown, .int (115 : Int32), .ref o_ops, .ref o_sizes, .ref o_patterns, .ref o_leads, .ref o_codes, .ref o_tells, .ref o_numbers, .ref o_fields, .ref o_found, .long o_number, .long o_foundNumber, .ref o_bytes, .ref o_trial, .ref o_fed, .int o_length, .int o_tried, .int o_given, .int x8, .int o_pfx, .int o_pfd, .int x9])), (o_found, .inl (cI, 13, .inl (upd (upd o_found_f (((3 : Int32) + ((2 : Int32) * p1))).toNatClampNeg (2 : Int32)) ((9 : Int32)).toNatClampNeg x20))), (o_fed, .inl (cI, 16, .inl o_fed_f))] H → va_D A [(o, .inr (6, [.int o_thrown, .int (115 : Int32), .ref o_ops, .ref o_sizes, .ref o_patterns, .ref o_leads, .ref o_codes, .ref o_tells, .ref o_numbers, .ref o_fields, .ref o_found, .long o_number, .long o_foundNumber, .ref o_bytes, .ref o_trial, .ref o_fed, .int o_length, .int o_tried, .int o_given, .int x8, .int o_pfx, .int o_pfd, .int x9])), (o_found, .inl (cI, 13, .inl (upd (upd o_found_f (((3 : Int32) + ((2 : Int32) * p1))).toNatClampNeg (2 : Int32)) ((9 : Int32)).toNatClampNeg x20))), (o_fed, .inl (cI, 16, .inl o_fed_f))] → va_S A s.heap H locs → W p l e (qr 2 44) s m args below meth c H locs 0 0 Z (F0 m 200 ls [.int x23]) := by
              intro x23 ls H locs E hl hP hD hS
              rw [f_X7_takeForm_J24] at E
              refine lv_istore (lv' := [(10, .int x23), (9, .int x16), (8, .int x12), (7, .int x7), (6, .int ((o_pfx &&& (1 : Int32)) * (8 : Int32))), (5, .int (p0 &&& (7 : Int32))), (4, .int (p0 >>> ((6 : Int32) &&& 31))), (0, .ref o), (1, .int p0), (2, .int p1), (3, .int p2)]) hx hb dX7_takeForm_200 hl (by decide) rfl (fun ls hl => ?_)
              refine lv_aload_n hx hb dX7_takeForm_202 rfl (lv_at hl 7 rfl) ?_
              refine va_get (D := D) (ci := 6) (v := .ref o_found) (C := RX7) (T := TX7) (N := 23) hx hb hts hi_X7 hown hK hP 0 rfl rfl 10 (by decide) lk34 (fun _ h9 => h9) rfl dX7_takeForm_203 ?_
              refine lv_bipush (v := (10 : Int32)) hx hb dX7_takeForm_206 (by decide) ?_
              refine lv_iload hx hb dX7_takeForm_208 (lv_at hl 0 rfl) ?_
              refine lv_iconst (v := (4 : Int32)) hx hb dX7_takeForm_210 (by decide) ?_
              have J27 : ∀ (x26 : Int32) (ls : Array Slot) (H : Heap) (locs : List Loc), f_X7_takeForm_J27 o_given o_found_f o_fed_f p0 p1 x7 x8 x9 x16 x20 x23 x26 = (o_at_o, o_short0_o, o_found_f_o) → lv_has ls 11 [(10, .int x23), (9, .int x16), (8, .int x12), (7, .int x7), (6, .int ((o_pfx &&& (1 : Int32)) * (8 : Int32))), (5, .int (p0 &&& (7 : Int32))), (4, .int (p0 >>> ((6 : Int32) &&& 31))), (0, .ref o), (1, .int p0), (2, .int p1), (3, .int p2)] → va_P D vwCl [(o, .inr (6, [.int o_thrown, .int (115 : Int32), .ref o_ops, .ref o_sizes, .ref o_patterns, .ref o_leads, .ref o_codes, .ref o_tells, .ref o_numbers, .ref o_fields, .ref o_found, .long o_number, .long o_foundNumber, .ref o_bytes, .ref o_trial, .ref o_fed, .int o_length, .int o_tried, .int o_given, .int x8, .int o_pfx, .int o_pfd, .int x9])), (o_found, .inl (cI, 13, .inl (upd (upd o_found_f (((3 : Int32) + ((2 : Int32) * p1))).toNatClampNeg (2 : Int32)) ((9 : Int32)).toNatClampNeg x20))), (o_fed, .inl (cI, 16, .inl o_fed_f))] H → va_D A [(o, .inr (6, [.int o_thrown, .int (115 : Int32), .ref o_ops, .ref o_sizes, .ref o_patterns, .ref o_leads, .ref o_codes, .ref o_tells, .ref o_numbers, .ref o_fields, .ref o_found, .long o_number, .long o_foundNumber, .ref o_bytes, .ref o_trial, .ref o_fed, .int o_length, .int o_tried, .int o_given, .int x8, .int o_pfx, .int o_pfd, .int x9])), (o_found, .inl (cI, 13, .inl (upd (upd o_found_f (((3 : Int32) + ((2 : Int32) * p1))).toNatClampNeg (2 : Int32)) ((9 : Int32)).toNatClampNeg x20))), (o_fed, .inl (cI, 16, .inl o_fed_f))] → va_S A s.heap H locs → W p l e (qr 2 44) s m args below meth c H locs 0 0 Z (F0 m 220 ls [.int x26, .int (10 : Int32), .ref o_found]) := by
                intro x26 ls H locs E hl hP hD hS
                rw [f_X7_takeForm_J27] at E
                refine va_iast hx hb hK hP hD hS 1 0 rfl rfl (qw_in0 (x := (10 : Int32)) (n := 13) (by decide) (by decide)) dX7_takeForm_220 (fun H locs hP hD hS => ?_)
                have hP : va_P D vwCl [(o, .inr (6, [.int o_thrown, .int (115 : Int32), .ref o_ops, .ref o_sizes, .ref o_patterns, .ref o_leads, .ref o_codes, .ref o_tells, .ref o_numbers, .ref o_fields, .ref o_found, .long o_number, .long o_foundNumber, .ref o_bytes, .ref o_trial, .ref o_fed, .int o_length, .int o_tried, .int o_given, .int x8, .int o_pfx, .int o_pfd, .int x9])), (o_found, .inl (cI, 13, .inl (upd (upd (upd o_found_f (((3 : Int32) + ((2 : Int32) * p1))).toNatClampNeg (2 : Int32)) ((9 : Int32)).toNatClampNeg x20) ((10 : Int32)).toNatClampNeg x26))), (o_fed, .inl (cI, 16, .inl o_fed_f))] H := hP
                have hD : va_D A [(o, .inr (6, [.int o_thrown, .int (115 : Int32), .ref o_ops, .ref o_sizes, .ref o_patterns, .ref o_leads, .ref o_codes, .ref o_tells, .ref o_numbers, .ref o_fields, .ref o_found, .long o_number, .long o_foundNumber, .ref o_bytes, .ref o_trial, .ref o_fed, .int o_length, .int o_tried, .int o_given, .int x8, .int o_pfx, .int o_pfd, .int x9])), (o_found, .inl (cI, 13, .inl (upd (upd (upd o_found_f (((3 : Int32) + ((2 : Int32) * p1))).toNatClampNeg (2 : Int32)) ((9 : Int32)).toNatClampNeg x20) ((10 : Int32)).toNatClampNeg x26))), (o_fed, .inl (cI, 16, .inl o_fed_f))] := hD
                refine lv_aload_n hx hb dX7_takeForm_221 rfl (lv_at hl 7 rfl) ?_
                refine va_get (D := D) (ci := 6) (v := .ref o_found) (C := RX7) (T := TX7) (N := 23) hx hb hts hi_X7 hown hK hP 0 rfl rfl 10 (by decide) lk34 (fun _ h9 => h9) rfl dX7_takeForm_222 ?_
                refine lv_bipush (v := (11 : Int32)) hx hb dX7_takeForm_225 (by decide) ?_
                refine lv_iload hx hb dX7_takeForm_227 (lv_at hl 0 rfl) ?_
                refine lv_iconst (v := (4 : Int32)) hx hb dX7_takeForm_229 (by decide) ?_
                have J30 : ∀ (x29 : Int32) (ls : Array Slot) (H : Heap) (locs : List Loc), f_X7_takeForm_J30 o_given o_found_f o_fed_f p0 p1 x8 x9 x16 x20 x26 x29 = (o_at_o, o_short0_o, o_found_f_o) → lv_has ls 11 [(10, .int x23), (9, .int x16), (8, .int x12), (7, .int x7), (6, .int ((o_pfx &&& (1 : Int32)) * (8 : Int32))), (5, .int (p0 &&& (7 : Int32))), (4, .int (p0 >>> ((6 : Int32) &&& 31))), (0, .ref o), (1, .int p0), (2, .int p1), (3, .int p2)] → va_P D vwCl [(o, .inr (6, [.int o_thrown, .int (115 : Int32), .ref o_ops, .ref o_sizes, .ref o_patterns, .ref o_leads, .ref o_codes, .ref o_tells, .ref o_numbers, .ref o_fields, .ref o_found, .long o_number, .long o_foundNumber, .ref o_bytes, .ref o_trial, .ref o_fed, .int o_length, .int o_tried, .int o_given, .int x8, .int o_pfx, .int o_pfd, .int x9])), (o_found, .inl (cI, 13, .inl (upd (upd (upd o_found_f (((3 : Int32) + ((2 : Int32) * p1))).toNatClampNeg (2 : Int32)) ((9 : Int32)).toNatClampNeg x20) ((10 : Int32)).toNatClampNeg x26))), (o_fed, .inl (cI, 16, .inl o_fed_f))] H → va_D A [(o, .inr (6, [.int o_thrown, .int (115 : Int32), .ref o_ops, .ref o_sizes, .ref o_patterns, .ref o_leads, .ref o_codes, .ref o_tells, .ref o_numbers, .ref o_fields, .ref o_found, .long o_number, .long o_foundNumber, .ref o_bytes, .ref o_trial, .ref o_fed, .int o_length, .int o_tried, .int o_given, .int x8, .int o_pfx, .int o_pfd, .int x9])), (o_found, .inl (cI, 13, .inl (upd (upd (upd o_found_f (((3 : Int32) + ((2 : Int32) * p1))).toNatClampNeg (2 : Int32)) ((9 : Int32)).toNatClampNeg x20) ((10 : Int32)).toNatClampNeg x26))), (o_fed, .inl (cI, 16, .inl o_fed_f))] → va_S A s.heap H locs → W p l e (qr 2 44) s m args below meth c H locs 0 0 Z (F0 m 244 ls [.int x29, .int (11 : Int32), .ref o_found]) := by
                  intro x29 ls H locs E hl hP hD hS
                  rw [f_X7_takeForm_J30] at E
                  refine va_iast hx hb hK hP hD hS 1 0 rfl rfl (qw_in0 (x := (11 : Int32)) (n := 13) (by decide) (by decide)) dX7_takeForm_244 (fun H locs hP hD hS => ?_)
                  have hP : va_P D vwCl [(o, .inr (6, [.int o_thrown, .int (115 : Int32), .ref o_ops, .ref o_sizes, .ref o_patterns, .ref o_leads, .ref o_codes, .ref o_tells, .ref o_numbers, .ref o_fields, .ref o_found, .long o_number, .long o_foundNumber, .ref o_bytes, .ref o_trial, .ref o_fed, .int o_length, .int o_tried, .int o_given, .int x8, .int o_pfx, .int o_pfd, .int x9])), (o_found, .inl (cI, 13, .inl (upd (upd (upd (upd o_found_f (((3 : Int32) + ((2 : Int32) * p1))).toNatClampNeg (2 : Int32)) ((9 : Int32)).toNatClampNeg x20) ((10 : Int32)).toNatClampNeg x26) ((11 : Int32)).toNatClampNeg x29))), (o_fed, .inl (cI, 16, .inl o_fed_f))] H := hP
                  have hD : va_D A [(o, .inr (6, [.int o_thrown, .int (115 : Int32), .ref o_ops, .ref o_sizes, .ref o_patterns, .ref o_leads, .ref o_codes, .ref o_tells, .ref o_numbers, .ref o_fields, .ref o_found, .long o_number, .long o_foundNumber, .ref o_bytes, .ref o_trial, .ref o_fed, .int o_length, .int o_tried, .int o_given, .int x8, .int o_pfx, .int o_pfd, .int x9])), (o_found, .inl (cI, 13, .inl (upd (upd (upd (upd o_found_f (((3 : Int32) + ((2 : Int32) * p1))).toNatClampNeg (2 : Int32)) ((9 : Int32)).toNatClampNeg x20) ((10 : Int32)).toNatClampNeg x26) ((11 : Int32)).toNatClampNeg x29))), (o_fed, .inl (cI, 16, .inl o_fed_f))] := hD
                  refine lv_aload_n hx hb dX7_takeForm_245 rfl (lv_at hl 7 rfl) ?_
                  refine va_get (D := D) (ci := 6) (v := .ref o_found) (C := RX7) (T := TX7) (N := 23) hx hb hts hi_X7 hown hK hP 0 rfl rfl 10 (by decide) lk34 (fun _ h9 => h9) rfl dX7_takeForm_246 ?_
                  refine lv_bipush (v := (12 : Int32)) hx hb dX7_takeForm_249 (by decide) ?_
                  refine lv_aload_n hx hb dX7_takeForm_251 rfl (lv_at hl 7 rfl) ?_
                  refine lv_iload hx hb dX7_takeForm_252 (lv_at hl 1 rfl) ?_
                  have J34 : ∀ (x33 : Int32) (hv_x33 : qv (0) (4) x33) (ls : Array Slot) (H : Heap) (locs : List Loc), f_X7_takeForm_J34 o_given o_found_f o_fed_f p1 x8 x9 x20 x26 x29 x33 = (o_at_o, o_short0_o, o_found_f_o) → lv_has ls 11 [(10, .int x23), (9, .int x16), (8, .int x12), (7, .int x7), (6, .int ((o_pfx &&& (1 : Int32)) * (8 : Int32))), (5, .int (p0 &&& (7 : Int32))), (4, .int (p0 >>> ((6 : Int32) &&& 31))), (0, .ref o), (1, .int p0), (2, .int p1), (3, .int p2)] → va_P D vwCl [(o, .inr (6, [.int o_thrown, .int (115 : Int32), .ref o_ops, .ref o_sizes, .ref o_patterns, .ref o_leads, .ref o_codes, .ref o_tells, .ref o_numbers, .ref o_fields, .ref o_found, .long o_number, .long o_foundNumber, .ref o_bytes, .ref o_trial, .ref o_fed, .int o_length, .int o_tried, .int o_given, .int x8, .int o_pfx, .int o_pfd, .int x9])), (o_found, .inl (cI, 13, .inl (upd (upd (upd (upd o_found_f (((3 : Int32) + ((2 : Int32) * p1))).toNatClampNeg (2 : Int32)) ((9 : Int32)).toNatClampNeg x20) ((10 : Int32)).toNatClampNeg x26) ((11 : Int32)).toNatClampNeg x29))), (o_fed, .inl (cI, 16, .inl o_fed_f))] H → va_D A [(o, .inr (6, [.int o_thrown, .int (115 : Int32), .ref o_ops, .ref o_sizes, .ref o_patterns, .ref o_leads, .ref o_codes, .ref o_tells, .ref o_numbers, .ref o_fields, .ref o_found, .long o_number, .long o_foundNumber, .ref o_bytes, .ref o_trial, .ref o_fed, .int o_length, .int o_tried, .int o_given, .int x8, .int o_pfx, .int o_pfd, .int x9])), (o_found, .inl (cI, 13, .inl (upd (upd (upd (upd o_found_f (((3 : Int32) + ((2 : Int32) * p1))).toNatClampNeg (2 : Int32)) ((9 : Int32)).toNatClampNeg x20) ((10 : Int32)).toNatClampNeg x26) ((11 : Int32)).toNatClampNeg x29))), (o_fed, .inl (cI, 16, .inl o_fed_f))] → va_S A s.heap H locs → W p l e (qr 2 44) s m args below meth c H locs 0 0 Z (F0 m 269 ls [.int x33, .ref o, .int (12 : Int32), .ref o_found]) := by
                    intro x33 hv_x33 ls H locs E hl hP hD hS
                    rw [f_X7_takeForm_J34] at E
                    obtain ⟨y35, y36, y37, q38⟩ : ∃ y35 y36 y37, (f_X7_take o_given x8 x9 o_fed_f x33) = (y35, y36, y37) := ⟨_, _, _, rfl⟩
                    rw [q38] at E
                    dsimp only at E
                    refine qw_callV (As := [.int x33]) (rest := [.int (12 : Int32), .ref o_found]) (ws' := [(o, .inr (6, [.int o_thrown, .int (115 : Int32), .ref o_ops, .ref o_sizes, .ref o_patterns, .ref o_leads, .ref o_codes, .ref o_tells, .ref o_numbers, .ref o_fields, .ref o_found, .long o_number, .long o_foundNumber, .ref o_bytes, .ref o_trial, .ref o_fed, .int o_length, .int o_tried, .int o_given, .int y36, .int o_pfx, .int o_pfd, .int y37])), (o_found, .inl (cI, 13, .inl (upd (upd (upd (upd o_found_f (((3 : Int32) + ((2 : Int32) * p1))).toNatClampNeg (2 : Int32)) ((9 : Int32)).toNatClampNeg x20) ((10 : Int32)).toNatClampNeg x26) ((11 : Int32)).toNatClampNeg x29))), (o_fed, .inl (cI, 16, .inl o_fed_f))]) (st1 := [.long y35, .int (12 : Int32), .ref o_found]) ⟨hx, hb, hml, hown, hts⟩ (c_X7_take l D cI tT o o_ops o_sizes o_patterns o_leads o_codes o_tells o_numbers o_fields o_found o_bytes o_trial o_fed o_thrown o_number o_foundNumber o_length o_tried o_given x8 o_pfx o_pfd x9 o_fed_f x33 (qv_w (⟨hv_x8.1, hv_x8.2⟩ : qv (0) (21) x8) (by decide) (by decide) : qv (0) (30) x8) (qv_w (⟨hv_o_given.1, hv_o_given.2⟩ : qv (0) (16) o_given) (by decide) (by decide) : qv (0) (16) o_given) (qv_w (⟨hv_x33.1, hv_x33.2⟩ : qv (0) (4) x33) (by decide) (by decide) : qv (0) (8) x33) ha_o_fed_f y35 y36 y37 q38) (cwV 1 hts gX7_takeForm_X7_take rfl rfl rfl (by decide +kernel) ⟨Nat.le_of_ble_eq_true rfl, Nat.le_of_ble_eq_true rfl⟩) hXg hK hP hD hS hA hXs [0, 2] rfl rfl  rfl rfl rfl rfl rfl rfl hl.1 rfl (Nat.le_of_ble_eq_true rfl) rfl ⟨Nat.zero_le _, Nat.zero_le _⟩ dX7_takeForm_269 (fun H locs hP hD hS => ?_)
                    refine lv_l2i (v := (y35).toInt32) hx hb dX7_takeForm_272 rfl ?_
                    refine va_iast hx hb hK hP hD hS 1 0 rfl rfl (qw_in0 (x := (12 : Int32)) (n := 13) (by decide) (by decide)) dX7_takeForm_273 (fun H locs hP hD hS => ?_)
                    have hP : va_P D vwCl [(o, .inr (6, [.int o_thrown, .int (115 : Int32), .ref o_ops, .ref o_sizes, .ref o_patterns, .ref o_leads, .ref o_codes, .ref o_tells, .ref o_numbers, .ref o_fields, .ref o_found, .long o_number, .long o_foundNumber, .ref o_bytes, .ref o_trial, .ref o_fed, .int o_length, .int o_tried, .int o_given, .int y36, .int o_pfx, .int o_pfd, .int y37])), (o_found, .inl (cI, 13, .inl (upd (upd (upd (upd (upd o_found_f (((3 : Int32) + ((2 : Int32) * p1))).toNatClampNeg (2 : Int32)) ((9 : Int32)).toNatClampNeg x20) ((10 : Int32)).toNatClampNeg x26) ((11 : Int32)).toNatClampNeg x29) ((12 : Int32)).toNatClampNeg ((y35).toInt32)))), (o_fed, .inl (cI, 16, .inl o_fed_f))] H := hP
                    have hD : va_D A [(o, .inr (6, [.int o_thrown, .int (115 : Int32), .ref o_ops, .ref o_sizes, .ref o_patterns, .ref o_leads, .ref o_codes, .ref o_tells, .ref o_numbers, .ref o_fields, .ref o_found, .long o_number, .long o_foundNumber, .ref o_bytes, .ref o_trial, .ref o_fed, .int o_length, .int o_tried, .int o_given, .int y36, .int o_pfx, .int o_pfd, .int y37])), (o_found, .inl (cI, 13, .inl (upd (upd (upd (upd (upd o_found_f (((3 : Int32) + ((2 : Int32) * p1))).toNatClampNeg (2 : Int32)) ((9 : Int32)).toNatClampNeg x20) ((10 : Int32)).toNatClampNeg x26) ((11 : Int32)).toNatClampNeg x29) ((12 : Int32)).toNatClampNeg ((y35).toInt32)))), (o_fed, .inl (cI, 16, .inl o_fed_f))] := hD
                    cases E
                    rw [hZ]
                    exact qw_vret hx hb hr hlk hP hD hS dX7_takeForm_274
                  refine lv_if_ne (tgt := 263) hx hb dX7_takeForm_254 (by decide) (fun c31 => ?_) (fun c31 => ?_)
                  · rw [if_neg c31] at E
                    refine lv_iconst (v := (4 : Int32)) hx hb dX7_takeForm_263 (by decide) ?_
                    refine lv_goto (tgt := 269) hx hb dX7_takeForm_264 (by decide) ?_
                    exact J34 (4 : Int32) (qv_w (⟨by decide, by decide⟩ : qv (4) (4) (4 : Int32)) (by decide) (by decide)) ls _ _ E (lv_sub hl [0, 1, 2, 3, 4, 5, 6, 7, 8, 9, 10] rfl) hP hD hS
                  · rw [if_pos c31] at E
                    refine lv_iload hx hb dX7_takeForm_257 (lv_at hl 6 rfl) ?_
                    refine lv_iconst (v := (2 : Int32)) hx hb dX7_takeForm_259 (by decide) ?_
                    refine lv_icmp_ne (tgt := 267) hx hb dX7_takeForm_260 (by decide) (fun c32 => ?_) (fun c32 => ?_)
                    · rw [if_neg c32] at E
                      refine lv_iload hx hb dX7_takeForm_267 (lv_at hl 6 rfl) ?_
                      exact J34 (p0 >>> ((6 : Int32) &&& 31)) (qv_w (qv_shr (k := 6) (⟨hv_p0.1, hv_p0.2⟩ : qv (0) (255) p0) (by decide) (by decide) (by decide) (by decide) : qv (0) (3) (p0 >>> ((6 : Int32) &&& 31))) (by decide) (by decide)) ls _ _ E (lv_sub hl [0, 1, 2, 3, 4, 5, 6, 7, 8, 9, 10] rfl) hP hD hS
                    · rw [if_pos c32] at E
                      refine lv_iconst (v := (4 : Int32)) hx hb dX7_takeForm_263 (by decide) ?_
                      refine lv_goto (tgt := 269) hx hb dX7_takeForm_264 (by decide) ?_
                      exact J34 (4 : Int32) (qv_w (⟨by decide, by decide⟩ : qv (4) (4) (4 : Int32)) (by decide) (by decide)) ls _ _ E (lv_sub hl [0, 1, 2, 3, 4, 5, 6, 7, 8, 9, 10] rfl) hP hD hS
                refine lv_icmp_ne (tgt := 237) hx hb dX7_takeForm_230 (by decide) (fun c28 => ?_) (fun c28 => ?_)
                · rw [if_neg c28] at E
                  refine lv_iconst (v := (1 : Int32)) hx hb dX7_takeForm_237 (by decide) ?_
                  refine lv_iload hx hb dX7_takeForm_238 (lv_at hl 3 rfl) ?_
                  refine lv_bipush (v := (6 : Int32)) hx hb dX7_takeForm_240 (by decide) ?_
                  refine lv_ishr hx hb dX7_takeForm_242 ?_
                  refine lv_ishl hx hb dX7_takeForm_243 ?_
                  exact J30 ((1 : Int32) <<< ((x7 >>> ((6 : Int32) &&& 31)) &&& 31)) ls _ _ E (lv_sub hl [0, 1, 2, 3, 4, 5, 6, 7, 8, 9, 10] rfl) hP hD hS
                · rw [if_pos c28] at E
                  refine lv_iconst (v := (1 : Int32)) hx hb dX7_takeForm_233 (by decide) ?_
                  refine lv_goto (tgt := 244) hx hb dX7_takeForm_234 (by decide) ?_
                  exact J30 (1 : Int32) ls _ _ E (lv_sub hl [0, 1, 2, 3, 4, 5, 6, 7, 8, 9, 10] rfl) hP hD hS
              refine lv_icmp_ne (tgt := 218) hx hb dX7_takeForm_211 (by decide) (fun c25 => ?_) (fun c25 => ?_)
              · rw [if_neg c25] at E
                refine lv_iload hx hb dX7_takeForm_218 (lv_at hl 0 rfl) ?_
                exact J27 x23 ls _ _ E (lv_sub hl [0, 1, 2, 3, 4, 5, 6, 7, 8, 9, 10] rfl) hP hD hS
              · rw [if_pos c25] at E
                refine lv_iconst (v := (-1 : Int32)) hx hb dX7_takeForm_214 (by decide) ?_
                refine lv_goto (tgt := 220) hx hb dX7_takeForm_215 (by decide) ?_
                exact J27 (-1 : Int32) ls _ _ E (lv_sub hl [0, 1, 2, 3, 4, 5, 6, 7, 8, 9, 10] rfl) hP hD hS
            refine lv_if_ge (tgt := 181) hx hb dX7_takeForm_174 (by decide) (fun c22 => ?_) (fun c22 => ?_)
            · rw [if_pos c22] at E
              refine lv_aload_n hx hb dX7_takeForm_181 rfl (lv_at hl 6 rfl) ?_
              refine va_get (D := D) (ci := 6) (v := .int o_pfx) (C := RX7) (T := TX7) (N := 23) hx hb hts hi_X7 hown hK hP 0 rfl rfl 20 (by decide) lk136 (fun _ h9 => h9) rfl dX7_takeForm_182 ?_
              refine lv_iconst (v := (1 : Int32)) hx hb dX7_takeForm_185 (by decide) ?_
              refine lv_ishr hx hb dX7_takeForm_186 ?_
              refine lv_iconst (v := (1 : Int32)) hx hb dX7_takeForm_187 (by decide) ?_
              refine lv_iand hx hb dX7_takeForm_188 ?_
              refine lv_bipush (v := (8 : Int32)) hx hb dX7_takeForm_189 (by decide) ?_
              refine lv_imul hx hb dX7_takeForm_191 ?_
              refine lv_iload hx hb dX7_takeForm_192 (lv_at hl 2 rfl) ?_
              refine lv_iconst (v := (3 : Int32)) hx hb dX7_takeForm_194 (by decide) ?_
              refine lv_ishr hx hb dX7_takeForm_195 ?_
              refine lv_bipush (v := (7 : Int32)) hx hb dX7_takeForm_196 (by decide) ?_
              refine lv_iand hx hb dX7_takeForm_198 ?_
              refine lv_iadd hx hb dX7_takeForm_199 ?_
              exact J24 ((((o_pfx >>> ((1 : Int32) &&& 31)) &&& (1 : Int32)) * (8 : Int32)) + ((x7 >>> ((3 : Int32) &&& 31)) &&& (7 : Int32))) ls _ _ E (lv_sub hl [0, 1, 2, 3, 4, 5, 6, 7, 8, 9] rfl) hP hD hS
            · rw [if_neg c22] at E
              refine lv_iconst (v := (4 : Int32)) hx hb dX7_takeForm_177 (by decide) ?_
              refine lv_goto (tgt := 200) hx hb dX7_takeForm_178 (by decide) ?_
              exact J24 (4 : Int32) ls _ _ E (lv_sub hl [0, 1, 2, 3, 4, 5, 6, 7, 8, 9] rfl) hP hD hS
          refine lv_if_eq (tgt := 166) hx hb dX7_takeForm_149 (by decide) (fun c18 => ?_) (fun c18 => ?_)
          · rw [if_pos c18] at E
            refine lv_iload hx hb dX7_takeForm_166 (lv_at hl 3 rfl) ?_
            refine lv_iload hx hb dX7_takeForm_168 (lv_at hl 1 rfl) ?_
            refine lv_iadd hx hb dX7_takeForm_170 ?_
            exact J21 (((o_pfx &&& (1 : Int32)) * (8 : Int32)) + x12) ls _ _ E (lv_sub hl [0, 1, 2, 3, 4, 5, 6, 7, 8, 9] rfl) hP hD hS
          · rw [if_neg c18] at E
            refine lv_iload hx hb dX7_takeForm_152 (lv_at hl 2 rfl) ?_
            refine lv_if_ge (tgt := 162) hx hb dX7_takeForm_154 (by decide) (fun c19 => ?_) (fun c19 => ?_)
            · rw [if_pos c19] at E
              refine lv_iconst (v := (-1 : Int32)) hx hb dX7_takeForm_162 (by decide) ?_
              refine lv_goto (tgt := 171) hx hb dX7_takeForm_163 (by decide) ?_
              exact J21 (-1 : Int32) ls _ _ E (lv_sub hl [0, 1, 2, 3, 4, 5, 6, 7, 8, 9] rfl) hP hD hS
            · rw [if_neg c19] at E
              refine lv_bipush (v := (16 : Int32)) hx hb dX7_takeForm_157 (by decide) ?_
              refine lv_goto (tgt := 171) hx hb dX7_takeForm_159 (by decide) ?_
              exact J21 (16 : Int32) ls _ _ E (lv_sub hl [0, 1, 2, 3, 4, 5, 6, 7, 8, 9] rfl) hP hD hS
        refine lv_if_ne (tgt := 138) hx hb dX7_takeForm_125 (by decide) (fun c14 => ?_) (fun c14 => ?_)
        · rw [if_neg c14] at E
          refine lv_iconst (v := (0 : Int32)) hx hb dX7_takeForm_138 (by decide) ?_
          exact J17 (0 : Int32) (Or.inl rfl) (qv_w (⟨by decide, by decide⟩ : qv (0) (0) (0 : Int32)) (by decide) (by decide)) ls _ _ E (lv_sub hl [0, 1, 2, 3, 4, 5, 6, 7, 8] rfl) hP hD hS
        · rw [if_pos c14] at E
          refine lv_iload hx hb dX7_takeForm_128 (lv_at hl 0 rfl) ?_
          refine lv_iconst (v := (5 : Int32)) hx hb dX7_takeForm_130 (by decide) ?_
          refine lv_icmp_ne (tgt := 138) hx hb dX7_takeForm_131 (by decide) (fun c15 => ?_) (fun c15 => ?_)
          · rw [if_neg c15] at E
            refine lv_iconst (v := (0 : Int32)) hx hb dX7_takeForm_138 (by decide) ?_
            exact J17 (0 : Int32) (Or.inl rfl) (qv_w (⟨by decide, by decide⟩ : qv (0) (0) (0 : Int32)) (by decide) (by decide)) ls _ _ E (lv_sub hl [0, 1, 2, 3, 4, 5, 6, 7, 8] rfl) hP hD hS
          · rw [if_pos c15] at E
            refine lv_iconst (v := (1 : Int32)) hx hb dX7_takeForm_134 (by decide) ?_
            refine lv_goto (tgt := 139) hx hb dX7_takeForm_135 (by decide) ?_
            exact J17 (1 : Int32) (Or.inr rfl) (qv_w (⟨by decide, by decide⟩ : qv (1) (1) (1 : Int32)) (by decide) (by decide)) ls _ _ E (lv_sub hl [0, 1, 2, 3, 4, 5, 6, 7, 8] rfl) hP hD hS
      refine lv_if_ge (tgt := 116) hx hb dX7_takeForm_108 (by decide) (fun c11 => ?_) (fun c11 => ?_)
      · rw [if_pos c11] at E
        refine lv_iload hx hb dX7_takeForm_116 (lv_at hl 0 rfl) ?_
        refine lv_bipush (v := (7 : Int32)) hx hb dX7_takeForm_118 (by decide) ?_
        refine lv_iand hx hb dX7_takeForm_120 ?_
        exact J13 (x7 &&& (7 : Int32)) ls _ _ E (lv_sub hl [0, 1, 2, 3, 4, 5, 6, 7] rfl) hP hD hS
      · rw [if_neg c11] at E
        refine lv_iload hx hb dX7_takeForm_111 (lv_at hl 2 rfl) ?_
        refine lv_goto (tgt := 121) hx hb dX7_takeForm_113 (by decide) ?_
        exact J13 (p0 &&& (7 : Int32)) ls _ _ E (lv_sub hl [0, 1, 2, 3, 4, 5, 6, 7] rfl) hP hD hS
    refine lv_icmp_ne (tgt := 103) hx hb dX7_takeForm_93 (by decide) (fun c2 => ?_) (fun c2 => ?_)
    · rw [if_neg c2] at E
      refine lv_iconst (v := (-1 : Int32)) hx hb dX7_takeForm_103 (by decide) ?_
      exact J10 (-1 : Int32) (qv_w (⟨by decide, by decide⟩ : qv (-1) (-1) (-1 : Int32)) (by decide) (by decide)) o_at (qv_w (⟨hv_o_at.1, hv_o_at.2⟩ : qv (0) (20) o_at) (by decide) (by decide)) o_short0 ls _ _ E (lv_sub hl [0, 1, 2, 3, 4, 5, 6] rfl) hP hD hS
    · rw [if_pos c2] at E
      refine lv_aload_n hx hb dX7_takeForm_96 rfl (lv_at hl 3 rfl) ?_
      obtain ⟨y3, y4, y5, q6⟩ : ∃ y3 y4 y5, (f_X7_next o_given o_at o_short0 o_fed_f) = (y3, y4, y5) := ⟨_, _, _, rfl⟩
      rw [q6] at E
      dsimp only at E
      refine qw_callV (As := []) (rest := []) (ws' := [(o, .inr (6, [.int o_thrown, .int (115 : Int32), .ref o_ops, .ref o_sizes, .ref o_patterns, .ref o_leads, .ref o_codes, .ref o_tells, .ref o_numbers, .ref o_fields, .ref o_found, .long o_number, .long o_foundNumber, .ref o_bytes, .ref o_trial, .ref o_fed, .int o_length, .int o_tried, .int o_given, .int y4, .int o_pfx, .int o_pfd, .int y5])), (o_found, .inl (cI, 13, .inl (upd o_found_f (((3 : Int32) + ((2 : Int32) * p1))).toNatClampNeg (2 : Int32)))), (o_fed, .inl (cI, 16, .inl o_fed_f))]) (st1 := [.int y3]) ⟨hx, hb, hml, hown, hts⟩ (c_X7_next l D cI tT o o_ops o_sizes o_patterns o_leads o_codes o_tells o_numbers o_fields o_found o_bytes o_trial o_fed o_thrown o_number o_foundNumber o_length o_tried o_given o_at o_pfx o_pfd o_short0 o_fed_f (qv_w (⟨hv_o_at.1, hv_o_at.2⟩ : qv (0) (20) o_at) (by decide) (by decide) : qv (0) (60) o_at) (qv_w (⟨hv_o_given.1, hv_o_given.2⟩ : qv (0) (16) o_given) (by decide) (by decide) : qv (0) (16) o_given) ha_o_fed_f y3 y4 y5 q6) (cwV 0 hts gX7_takeForm_X7_next rfl rfl rfl (by decide +kernel) ⟨Nat.le_of_ble_eq_true rfl, Nat.le_of_ble_eq_true rfl⟩) hXg hK hP hD hS hA hXs [0, 2] rfl rfl  rfl rfl rfl rfl rfl rfl hl.1 rfl (Nat.le_of_ble_eq_true rfl) rfl ⟨Nat.zero_le _, Nat.zero_le _⟩ dX7_takeForm_97 (fun H locs hP hD hS => ?_)
      refine lv_goto (tgt := 104) hx hb dX7_takeForm_100 (by decide) ?_
      exact J10 y3 (qv_w (⟨(post_X7_next_r ha_o_fed_f q6 : qv (0) (255) y3).1, (post_X7_next_r ha_o_fed_f q6 : qv (0) (255) y3).2⟩ : qv (0) (255) y3) (by decide) (by decide)) y4 (qv_w (⟨(post_X7_next (⟨hv_o_at.1, hv_o_at.2⟩ : qv (0) (20) o_at) q6 (by decide) (by decide) : qv (1) (21) y4).1, (post_X7_next (⟨hv_o_at.1, hv_o_at.2⟩ : qv (0) (20) o_at) q6 (by decide) (by decide) : qv (1) (21) y4).2⟩ : qv (1) (21) y4) (by decide) (by decide)) y5 ls _ _ E (lv_sub hl [0, 1, 2, 3, 4, 5, 6] rfl) hP hD hS
  · rw [if_pos c1] at E
    refine lv_aload_n hx hb dX7_takeForm_29 rfl (lv_at hl 3 rfl) ?_
    refine va_get (D := D) (ci := 6) (v := .ref o_found) (C := RX7) (T := TX7) (N := 23) hx hb hts hi_X7 hown hK hP 0 rfl rfl 10 (by decide) lk34 (fun _ h9 => h9) rfl dX7_takeForm_30 ?_
    refine lv_iconst (v := (3 : Int32)) hx hb dX7_takeForm_33 (by decide) ?_
    refine lv_iconst (v := (2 : Int32)) hx hb dX7_takeForm_34 (by decide) ?_
    refine lv_iload_n hx hb dX7_takeForm_35 rfl (lv_at hl 5 rfl) ?_
    refine lv_imul hx hb dX7_takeForm_36 ?_
    refine lv_iadd hx hb dX7_takeForm_37 ?_
    refine lv_iconst (v := (1 : Int32)) hx hb dX7_takeForm_38 (by decide) ?_
    refine va_iast hx hb hK hP hD hS 1 0 rfl rfl (qv_in (qv_add (⟨by decide, by decide⟩ : qv (3) (3) (3 : Int32)) (qv_mul (k := 2) (⟨hv_p1.1, hv_p1.2⟩ : qv (0) (2) p1) (by decide) (by decide) (by decide) (by decide) (by decide) : qv (0) (4) ((2 : Int32) * p1)) (by decide) (by decide) (by decide) (by decide) : qv (3) (7) ((3 : Int32) + ((2 : Int32) * p1))) (by decide) (by decide)) dX7_takeForm_39 (fun H locs hP hD hS => ?_)
    have hP : va_P D vwCl [(o, .inr (6, [.int o_thrown, .int (115 : Int32), .ref o_ops, .ref o_sizes, .ref o_patterns, .ref o_leads, .ref o_codes, .ref o_tells, .ref o_numbers, .ref o_fields, .ref o_found, .long o_number, .long o_foundNumber, .ref o_bytes, .ref o_trial, .ref o_fed, .int o_length, .int o_tried, .int o_given, .int o_at, .int o_pfx, .int o_pfd, .int o_short0])), (o_found, .inl (cI, 13, .inl (upd o_found_f (((3 : Int32) + ((2 : Int32) * p1))).toNatClampNeg (1 : Int32)))), (o_fed, .inl (cI, 16, .inl o_fed_f))] H := hP
    have hD : va_D A [(o, .inr (6, [.int o_thrown, .int (115 : Int32), .ref o_ops, .ref o_sizes, .ref o_patterns, .ref o_leads, .ref o_codes, .ref o_tells, .ref o_numbers, .ref o_fields, .ref o_found, .long o_number, .long o_foundNumber, .ref o_bytes, .ref o_trial, .ref o_fed, .int o_length, .int o_tried, .int o_given, .int o_at, .int o_pfx, .int o_pfd, .int o_short0])), (o_found, .inl (cI, 13, .inl (upd o_found_f (((3 : Int32) + ((2 : Int32) * p1))).toNatClampNeg (1 : Int32)))), (o_fed, .inl (cI, 16, .inl o_fed_f))] := hD
    refine lv_aload_n hx hb dX7_takeForm_40 rfl (lv_at hl 3 rfl) ?_
    refine va_get (D := D) (ci := 6) (v := .ref o_found) (C := RX7) (T := TX7) (N := 23) hx hb hts hi_X7 hown hK hP 0 rfl rfl 10 (by decide) lk34 (fun _ h9 => h9) rfl dX7_takeForm_41 ?_
    refine lv_iconst (v := (4 : Int32)) hx hb dX7_takeForm_44 (by decide) ?_
    refine lv_iconst (v := (2 : Int32)) hx hb dX7_takeForm_45 (by decide) ?_
    refine lv_iload_n hx hb dX7_takeForm_46 rfl (lv_at hl 5 rfl) ?_
    refine lv_imul hx hb dX7_takeForm_47 ?_
    refine lv_iadd hx hb dX7_takeForm_48 ?_
    refine lv_iload hx hb dX7_takeForm_49 (lv_at hl 0 rfl) ?_
    refine lv_iload hx hb dX7_takeForm_51 (lv_at hl 1 rfl) ?_
    refine lv_iadd hx hb dX7_takeForm_53 ?_
    refine va_iast hx hb hK hP hD hS 1 0 rfl rfl (qv_in (qv_add (⟨by decide, by decide⟩ : qv (4) (4) (4 : Int32)) (qv_mul (k := 2) (⟨hv_p1.1, hv_p1.2⟩ : qv (0) (2) p1) (by decide) (by decide) (by decide) (by decide) (by decide) : qv (0) (4) ((2 : Int32) * p1)) (by decide) (by decide) (by decide) (by decide) : qv (4) (8) ((4 : Int32) + ((2 : Int32) * p1))) (by decide) (by decide)) dX7_takeForm_54 (fun H locs hP hD hS => ?_)
    have hP : va_P D vwCl [(o, .inr (6, [.int o_thrown, .int (115 : Int32), .ref o_ops, .ref o_sizes, .ref o_patterns, .ref o_leads, .ref o_codes, .ref o_tells, .ref o_numbers, .ref o_fields, .ref o_found, .long o_number, .long o_foundNumber, .ref o_bytes, .ref o_trial, .ref o_fed, .int o_length, .int o_tried, .int o_given, .int o_at, .int o_pfx, .int o_pfd, .int o_short0])), (o_found, .inl (cI, 13, .inl (upd (upd o_found_f (((3 : Int32) + ((2 : Int32) * p1))).toNatClampNeg (1 : Int32)) (((4 : Int32) + ((2 : Int32) * p1))).toNatClampNeg (((o_pfx &&& (1 : Int32)) * (8 : Int32)) + (p0 &&& (7 : Int32)))))), (o_fed, .inl (cI, 16, .inl o_fed_f))] H := hP
    have hD : va_D A [(o, .inr (6, [.int o_thrown, .int (115 : Int32), .ref o_ops, .ref o_sizes, .ref o_patterns, .ref o_leads, .ref o_codes, .ref o_tells, .ref o_numbers, .ref o_fields, .ref o_found, .long o_number, .long o_foundNumber, .ref o_bytes, .ref o_trial, .ref o_fed, .int o_length, .int o_tried, .int o_given, .int o_at, .int o_pfx, .int o_pfd, .int o_short0])), (o_found, .inl (cI, 13, .inl (upd (upd o_found_f (((3 : Int32) + ((2 : Int32) * p1))).toNatClampNeg (1 : Int32)) (((4 : Int32) + ((2 : Int32) * p1))).toNatClampNeg (((o_pfx &&& (1 : Int32)) * (8 : Int32)) + (p0 &&& (7 : Int32)))))), (o_fed, .inl (cI, 16, .inl o_fed_f))] := hD
    refine lv_iload_n hx hb dX7_takeForm_55 rfl (lv_at hl 6 rfl) ?_
    refine lv_iconst (v := (1 : Int32)) hx hb dX7_takeForm_56 (by decide) ?_
    have J43 : ∀ (x42 : Int32) (ls : Array Slot) (H : Heap) (locs : List Loc), f_X7_takeForm_J43 o_at o_pfx o_found_f p0 p1 x42 = (o_at_o, o_short0_o, o_found_f_o) → lv_has ls 11 [(6, .int ((o_pfx &&& (1 : Int32)) * (8 : Int32))), (5, .int (p0 &&& (7 : Int32))), (4, .int (p0 >>> ((6 : Int32) &&& 31))), (0, .ref o), (1, .int p0), (2, .int p1), (3, .int p2)] → va_P D vwCl [(o, .inr (6, [.int o_thrown, .int (115 : Int32), .ref o_ops, .ref o_sizes, .ref o_patterns, .ref o_leads, .ref o_codes, .ref o_tells, .ref o_numbers, .ref o_fields, .ref o_found, .long o_number, .long o_foundNumber, .ref o_bytes, .ref o_trial, .ref o_fed, .int o_length, .int o_tried, .int o_given, .int o_at, .int o_pfx, .int o_pfd, .int x42])), (o_found, .inl (cI, 13, .inl (upd (upd o_found_f (((3 : Int32) + ((2 : Int32) * p1))).toNatClampNeg (1 : Int32)) (((4 : Int32) + ((2 : Int32) * p1))).toNatClampNeg (((o_pfx &&& (1 : Int32)) * (8 : Int32)) + (p0 &&& (7 : Int32)))))), (o_fed, .inl (cI, 16, .inl o_fed_f))] H → va_D A [(o, .inr (6, [.int o_thrown, .int (115 : Int32), .ref o_ops, .ref o_sizes, .ref o_patterns, .ref o_leads, .ref o_codes, .ref o_tells, .ref o_numbers, .ref o_fields, .ref o_found, .long o_number, .long o_foundNumber, .ref o_bytes, .ref o_trial, .ref o_fed, .int o_length, .int o_tried, .int o_given, .int o_at, .int o_pfx, .int o_pfd, .int x42])), (o_found, .inl (cI, 13, .inl (upd (upd o_found_f (((3 : Int32) + ((2 : Int32) * p1))).toNatClampNeg (1 : Int32)) (((4 : Int32) + ((2 : Int32) * p1))).toNatClampNeg (((o_pfx &&& (1 : Int32)) * (8 : Int32)) + (p0 &&& (7 : Int32)))))), (o_fed, .inl (cI, 16, .inl o_fed_f))] → va_S A s.heap H locs → W p l e (qr 2 44) s m args below meth c H locs 0 0 Z (F0 m 78 ls []) := by
      intro x42 ls H locs E hl hP hD hS
      rw [f_X7_takeForm_J43] at E
      cases E
      rw [hZ]
      exact qw_vret hx hb hr hlk hP hD hS dX7_takeForm_78
    refine lv_icmp_ne (tgt := 78) hx hb dX7_takeForm_57 (by decide) (fun c39 => ?_) (fun c39 => ?_)
    · rw [if_neg c39] at E
      exact J43 o_short0 ls _ _ E (lv_sub hl [0, 1, 2, 3, 4, 5, 6] rfl) hP hD hS
    · rw [if_pos c39] at E
      refine lv_aload_n hx hb dX7_takeForm_60 rfl (lv_at hl 3 rfl) ?_
      refine va_get (D := D) (ci := 6) (v := .int o_pfd) (C := RX7) (T := TX7) (N := 23) hx hb hts hi_X7 hown hK hP 0 rfl rfl 21 (by decide) lk139 (fun _ h9 => h9) rfl dX7_takeForm_61 ?_
      refine lv_if_ne (tgt := 78) hx hb dX7_takeForm_64 (by decide) (fun c40 => ?_) (fun c40 => ?_)
      · rw [if_neg c40] at E
        exact J43 o_short0 ls _ _ E (lv_sub hl [0, 1, 2, 3, 4, 5, 6] rfl) hP hD hS
      · rw [if_pos c40] at E
        refine lv_iload hx hb dX7_takeForm_67 (lv_at hl 1 rfl) ?_
        refine lv_iconst (v := (3 : Int32)) hx hb dX7_takeForm_69 (by decide) ?_
        refine lv_icmp_le (tgt := 78) hx hb dX7_takeForm_70 (by decide) (fun c41 => ?_) (fun c41 => ?_)
        · rw [if_pos c41] at E
          exact J43 o_short0 ls _ _ E (lv_sub hl [0, 1, 2, 3, 4, 5, 6] rfl) hP hD hS
        · rw [if_neg c41] at E
          refine lv_aload_n hx hb dX7_takeForm_73 rfl (lv_at hl 3 rfl) ?_
          refine lv_iconst (v := (1 : Int32)) hx hb dX7_takeForm_74 (by decide) ?_
          refine va_put (D := D) (ci := 6) (v := .int (1 : Int32)) (ty := .boolean) (C := RX7) (T := TX7) (N := 23) hx hb hts hi_X7 tyX7 tyX7_ok nmX7 hown hK hP hD hS 0 rfl rfl 22 (by decide) lk125 (fun _ h9 => h9) rfl (by decide +kernel) rfl rfl (Nat.le_of_ble_eq_true rfl) dX7_takeForm_75 (fun H locs hP hD hS => ?_)
          have hP : va_P D vwCl [(o, .inr (6, [.int o_thrown, .int (115 : Int32), .ref o_ops, .ref o_sizes, .ref o_patterns, .ref o_leads, .ref o_codes, .ref o_tells, .ref o_numbers, .ref o_fields, .ref o_found, .long o_number, .long o_foundNumber, .ref o_bytes, .ref o_trial, .ref o_fed, .int o_length, .int o_tried, .int o_given, .int o_at, .int o_pfx, .int o_pfd, .int (1 : Int32)])), (o_found, .inl (cI, 13, .inl (upd (upd o_found_f (((3 : Int32) + ((2 : Int32) * p1))).toNatClampNeg (1 : Int32)) (((4 : Int32) + ((2 : Int32) * p1))).toNatClampNeg (((o_pfx &&& (1 : Int32)) * (8 : Int32)) + (p0 &&& (7 : Int32)))))), (o_fed, .inl (cI, 16, .inl o_fed_f))] H := hP
          have hD : va_D A [(o, .inr (6, [.int o_thrown, .int (115 : Int32), .ref o_ops, .ref o_sizes, .ref o_patterns, .ref o_leads, .ref o_codes, .ref o_tells, .ref o_numbers, .ref o_fields, .ref o_found, .long o_number, .long o_foundNumber, .ref o_bytes, .ref o_trial, .ref o_fed, .int o_length, .int o_tried, .int o_given, .int o_at, .int o_pfx, .int o_pfd, .int (1 : Int32)])), (o_found, .inl (cI, 13, .inl (upd (upd o_found_f (((3 : Int32) + ((2 : Int32) * p1))).toNatClampNeg (1 : Int32)) (((4 : Int32) + ((2 : Int32) * p1))).toNatClampNeg (((o_pfx &&& (1 : Int32)) * (8 : Int32)) + (p0 &&& (7 : Int32)))))), (o_fed, .inl (cI, 16, .inl o_fed_f))] := hD
          exact J43 (1 : Int32) ls _ _ E (lv_sub hl [0, 1, 2, 3, 4, 5, 6] rfl) hP hD hS
set_option maxHeartbeats 4000000 in
set_option maxRecDepth 100000 in
theorem post_X7_takeForm5 {o_given : Int32} {o_at : Int32} {o_pfx : Int32} {o_pfd : Int32} {o_short0 : Int32} {o_found_f : (Nat → Int32)} {o_fed_f : (Nat → Int32)} {p0 : Int32} {p1 : Int32} {p2 : Int32} {o_at_o : Int32} {o_short0_o : Int32} {o_found_f_o : (Nat → Int32)} (hv_o_at : qv (0) (5) o_at) (hv_o_given : qv (0) (16) o_given) (hv_p0 : qv (0) (255) p0) (hv_p1 : qv (0) (2) p1) (ha_o_fed_f : ∀ j : Nat, qv 0 255 (o_fed_f j)) (hq : f_X7_takeForm o_given o_at o_pfx o_pfd o_short0 o_found_f o_fed_f p0 p1 p2 = (o_at_o, o_short0_o, o_found_f_o)) : qv (0) (10) o_at_o := by
  have E := hq
  rw [f_X7_takeForm] at E
  by_cases c1 : (p0 >>> ((6 : Int32) &&& 31)) = (3 : Int32)
  · rw [if_pos c1] at E
    have J43 : ∀ (x42 : Int32), f_X7_takeForm_J43 o_at o_pfx o_found_f p0 p1 x42 = (o_at_o, o_short0_o, o_found_f_o) → qv (0) (10) o_at_o := by
      intro x42 E
      rw [f_X7_takeForm_J43] at E
      have F0 := (qv_w (⟨hv_o_at.1, hv_o_at.2⟩ : qv (0) (5) o_at) (by decide) (by decide) : qv (0) (10) o_at)
      cases E
      exact F0
    by_cases c39 : p2 = (1 : Int32)
    · rw [if_pos c39] at E
      by_cases c40 : o_pfd = 0
      · rw [if_pos c40] at E
        by_cases c41 : (p0 &&& (7 : Int32)) ≤ (3 : Int32)
        · rw [if_pos c41] at E
          exact J43 o_short0 E
        · rw [if_neg c41] at E
          exact J43 (1 : Int32) E
      · rw [if_neg c40] at E
        exact J43 o_short0 E
    · rw [if_neg c39] at E
      exact J43 o_short0 E
  · rw [if_neg c1] at E
    have J10 : ∀ (x7 : Int32) (hv_x7 : qv (-1) (255) x7) (x8 : Int32) (hv_x8 : qv (0) (6) x8) (x9 : Int32), f_X7_takeForm_J10 o_given o_pfx o_found_f o_fed_f p0 p1 x7 x8 x9 = (o_at_o, o_short0_o, o_found_f_o) → qv (0) (10) o_at_o := by
      intro x7 hv_x7 x8 hv_x8 x9 E
      rw [f_X7_takeForm_J10] at E
      have J13 : ∀ (x12 : Int32), f_X7_takeForm_J13 o_given o_pfx o_found_f o_fed_f p0 p1 x7 x8 x9 x12 = (o_at_o, o_short0_o, o_found_f_o) → qv (0) (10) o_at_o := by
        intro x12 E
        rw [f_X7_takeForm_J13] at E
        have J17 : ∀ (x16 : Int32) (hv_x16 : qv (0) (1) x16), f_X7_takeForm_J17 o_given o_pfx o_found_f o_fed_f p0 p1 x7 x8 x9 x12 x16 = (o_at_o, o_short0_o, o_found_f_o) → qv (0) (10) o_at_o := by
          intro x16 hv_x16 E
          rw [f_X7_takeForm_J17] at E
          have J21 : ∀ (x20 : Int32), f_X7_takeForm_J21 o_given o_pfx o_found_f o_fed_f p0 p1 x7 x8 x9 x16 x20 = (o_at_o, o_short0_o, o_found_f_o) → qv (0) (10) o_at_o := by
            intro x20 E
            rw [f_X7_takeForm_J21] at E
            have J24 : ∀ (x23 : Int32), f_X7_takeForm_J24 o_given o_found_f o_fed_f p0 p1 x7 x8 x9 x16 x20 x23 = (o_at_o, o_short0_o, o_found_f_o) → qv (0) (10) o_at_o := by
              intro x23 E
              rw [f_X7_takeForm_J24] at E
              have J27 : ∀ (x26 : Int32), f_X7_takeForm_J27 o_given o_found_f o_fed_f p0 p1 x7 x8 x9 x16 x20 x23 x26 = (o_at_o, o_short0_o, o_found_f_o) → qv (0) (10) o_at_o := by
                intro x26 E
                rw [f_X7_takeForm_J27] at E
                have J30 : ∀ (x29 : Int32), f_X7_takeForm_J30 o_given o_found_f o_fed_f p0 p1 x8 x9 x16 x20 x26 x29 = (o_at_o, o_short0_o, o_found_f_o) → qv (0) (10) o_at_o := by
                  intro x29 E
                  rw [f_X7_takeForm_J30] at E
                  have J34 : ∀ (x33 : Int32) (hv_x33 : qv (0) (4) x33), f_X7_takeForm_J34 o_given o_found_f o_fed_f p1 x8 x9 x20 x26 x29 x33 = (o_at_o, o_short0_o, o_found_f_o) → qv (0) (10) o_at_o := by
                    intro x33 hv_x33 E
                    rw [f_X7_takeForm_J34] at E
                    obtain ⟨y35, y36, y37, q38⟩ : ∃ y35 y36 y37, (f_X7_take o_given x8 x9 o_fed_f x33) = (y35, y36, y37) := ⟨_, _, _, rfl⟩
                    rw [q38] at E
                    dsimp only at E
                    have F0 := (qv_w (⟨(post_X7_take (⟨hv_x8.1, hv_x8.2⟩ : qv (0) (6) x8) (⟨hv_x33.1, hv_x33.2⟩ : qv (0) (4) x33) q38 (by decide) (by decide) : qv (0) (10) y36).1, (post_X7_take (⟨hv_x8.1, hv_x8.2⟩ : qv (0) (6) x8) (⟨hv_x33.1, hv_x33.2⟩ : qv (0) (4) x33) q38 (by decide) (by decide) : qv (0) (10) y36).2⟩ : qv (0) (10) y36) (by decide) (by decide) : qv (0) (10) y36)
                    cases E
                    exact F0
                  by_cases c31 : x16 = 0
                  · rw [if_pos c31] at E
                    by_cases c32 : (p0 >>> ((6 : Int32) &&& 31)) = (2 : Int32)
                    · rw [if_pos c32] at E
                      exact J34 (4 : Int32) (qv_w (⟨by decide, by decide⟩ : qv (4) (4) (4 : Int32)) (by decide) (by decide)) E
                    · rw [if_neg c32] at E
                      exact J34 (p0 >>> ((6 : Int32) &&& 31)) (qv_w (qv_shr (k := 6) (⟨hv_p0.1, hv_p0.2⟩ : qv (0) (255) p0) (by decide) (by decide) (by decide) (by decide) : qv (0) (3) (p0 >>> ((6 : Int32) &&& 31))) (by decide) (by decide)) E
                  · rw [if_neg c31] at E
                    exact J34 (4 : Int32) (qv_w (⟨by decide, by decide⟩ : qv (4) (4) (4 : Int32)) (by decide) (by decide)) E
                by_cases c28 : x23 = (4 : Int32)
                · rw [if_pos c28] at E
                  exact J30 (1 : Int32) E
                · rw [if_neg c28] at E
                  exact J30 ((1 : Int32) <<< ((x7 >>> ((6 : Int32) &&& 31)) &&& 31)) E
              by_cases c25 : x23 = (4 : Int32)
              · rw [if_pos c25] at E
                exact J27 (-1 : Int32) E
              · rw [if_neg c25] at E
                exact J27 x23 E
            by_cases c22 : 0 ≤ x7
            · rw [if_pos c22] at E
              exact J24 ((((o_pfx >>> ((1 : Int32) &&& 31)) &&& (1 : Int32)) * (8 : Int32)) + ((x7 >>> ((3 : Int32) &&& 31)) &&& (7 : Int32))) E
            · rw [if_neg c22] at E
              exact J24 (4 : Int32) E
          by_cases c18 : x16 = 0
          · rw [if_pos c18] at E
            exact J21 (((o_pfx &&& (1 : Int32)) * (8 : Int32)) + x12) E
          · rw [if_neg c18] at E
            by_cases c19 : 0 ≤ x7
            · rw [if_pos c19] at E
              exact J21 (-1 : Int32) E
            · rw [if_neg c19] at E
              exact J21 (16 : Int32) E
        by_cases c14 : (p0 >>> ((6 : Int32) &&& 31)) = 0
        · rw [if_pos c14] at E
          by_cases c15 : x12 = (5 : Int32)
          · rw [if_pos c15] at E
            exact J17 (1 : Int32) (qv_w (⟨by decide, by decide⟩ : qv (1) (1) (1 : Int32)) (by decide) (by decide)) E
          · rw [if_neg c15] at E
            exact J17 (0 : Int32) (qv_w (⟨by decide, by decide⟩ : qv (0) (0) (0 : Int32)) (by decide) (by decide)) E
        · rw [if_neg c14] at E
          exact J17 (0 : Int32) (qv_w (⟨by decide, by decide⟩ : qv (0) (0) (0 : Int32)) (by decide) (by decide)) E
      by_cases c11 : 0 ≤ x7
      · rw [if_pos c11] at E
        exact J13 (x7 &&& (7 : Int32)) E
      · rw [if_neg c11] at E
        exact J13 (p0 &&& (7 : Int32)) E
    by_cases c2 : (p0 &&& (7 : Int32)) = (4 : Int32)
    · rw [if_pos c2] at E
      obtain ⟨y3, y4, y5, q6⟩ : ∃ y3 y4 y5, (f_X7_next o_given o_at o_short0 o_fed_f) = (y3, y4, y5) := ⟨_, _, _, rfl⟩
      rw [q6] at E
      dsimp only at E
      exact J10 y3 (qv_w (⟨(post_X7_next_r ha_o_fed_f q6 : qv (0) (255) y3).1, (post_X7_next_r ha_o_fed_f q6 : qv (0) (255) y3).2⟩ : qv (0) (255) y3) (by decide) (by decide)) y4 (qv_w (⟨(post_X7_next (⟨hv_o_at.1, hv_o_at.2⟩ : qv (0) (5) o_at) q6 (by decide) (by decide) : qv (1) (6) y4).1, (post_X7_next (⟨hv_o_at.1, hv_o_at.2⟩ : qv (0) (5) o_at) q6 (by decide) (by decide) : qv (1) (6) y4).2⟩ : qv (1) (6) y4) (by decide) (by decide)) y5 E
    · rw [if_neg c2] at E
      exact J10 (-1 : Int32) (qv_w (⟨by decide, by decide⟩ : qv (-1) (-1) (-1 : Int32)) (by decide) (by decide)) o_at (qv_w (⟨hv_o_at.1, hv_o_at.2⟩ : qv (0) (5) o_at) (by decide) (by decide)) o_short0 E
set_option maxHeartbeats 4000000 in
set_option maxRecDepth 100000 in
theorem post_X7_takeForm10 {o_given : Int32} {o_at : Int32} {o_pfx : Int32} {o_pfd : Int32} {o_short0 : Int32} {o_found_f : (Nat → Int32)} {o_fed_f : (Nat → Int32)} {p0 : Int32} {p1 : Int32} {p2 : Int32} {o_at_o : Int32} {o_short0_o : Int32} {o_found_f_o : (Nat → Int32)} (hv_o_at : qv (0) (10) o_at) (hv_o_given : qv (0) (16) o_given) (hv_p0 : qv (0) (255) p0) (hv_p1 : qv (0) (2) p1) (ha_o_fed_f : ∀ j : Nat, qv 0 255 (o_fed_f j)) (hq : f_X7_takeForm o_given o_at o_pfx o_pfd o_short0 o_found_f o_fed_f p0 p1 p2 = (o_at_o, o_short0_o, o_found_f_o)) : qv (0) (15) o_at_o := by
  have E := hq
  rw [f_X7_takeForm] at E
  by_cases c1 : (p0 >>> ((6 : Int32) &&& 31)) = (3 : Int32)
  · rw [if_pos c1] at E
    have J43 : ∀ (x42 : Int32), f_X7_takeForm_J43 o_at o_pfx o_found_f p0 p1 x42 = (o_at_o, o_short0_o, o_found_f_o) → qv (0) (15) o_at_o := by
      intro x42 E
      rw [f_X7_takeForm_J43] at E
      have F0 := (qv_w (⟨hv_o_at.1, hv_o_at.2⟩ : qv (0) (10) o_at) (by decide) (by decide) : qv (0) (15) o_at)
      cases E
      exact F0
    by_cases c39 : p2 = (1 : Int32)
    · rw [if_pos c39] at E
      by_cases c40 : o_pfd = 0
      · rw [if_pos c40] at E
        by_cases c41 : (p0 &&& (7 : Int32)) ≤ (3 : Int32)
        · rw [if_pos c41] at E
          exact J43 o_short0 E
        · rw [if_neg c41] at E
          exact J43 (1 : Int32) E
      · rw [if_neg c40] at E
        exact J43 o_short0 E
    · rw [if_neg c39] at E
      exact J43 o_short0 E
  · rw [if_neg c1] at E
    have J10 : ∀ (x7 : Int32) (hv_x7 : qv (-1) (255) x7) (x8 : Int32) (hv_x8 : qv (0) (11) x8) (x9 : Int32), f_X7_takeForm_J10 o_given o_pfx o_found_f o_fed_f p0 p1 x7 x8 x9 = (o_at_o, o_short0_o, o_found_f_o) → qv (0) (15) o_at_o := by
      intro x7 hv_x7 x8 hv_x8 x9 E
      rw [f_X7_takeForm_J10] at E
      have J13 : ∀ (x12 : Int32), f_X7_takeForm_J13 o_given o_pfx o_found_f o_fed_f p0 p1 x7 x8 x9 x12 = (o_at_o, o_short0_o, o_found_f_o) → qv (0) (15) o_at_o := by
        intro x12 E
        rw [f_X7_takeForm_J13] at E
        have J17 : ∀ (x16 : Int32) (hv_x16 : qv (0) (1) x16), f_X7_takeForm_J17 o_given o_pfx o_found_f o_fed_f p0 p1 x7 x8 x9 x12 x16 = (o_at_o, o_short0_o, o_found_f_o) → qv (0) (15) o_at_o := by
          intro x16 hv_x16 E
          rw [f_X7_takeForm_J17] at E
          have J21 : ∀ (x20 : Int32), f_X7_takeForm_J21 o_given o_pfx o_found_f o_fed_f p0 p1 x7 x8 x9 x16 x20 = (o_at_o, o_short0_o, o_found_f_o) → qv (0) (15) o_at_o := by
            intro x20 E
            rw [f_X7_takeForm_J21] at E
            have J24 : ∀ (x23 : Int32), f_X7_takeForm_J24 o_given o_found_f o_fed_f p0 p1 x7 x8 x9 x16 x20 x23 = (o_at_o, o_short0_o, o_found_f_o) → qv (0) (15) o_at_o := by
              intro x23 E
              rw [f_X7_takeForm_J24] at E
              have J27 : ∀ (x26 : Int32), f_X7_takeForm_J27 o_given o_found_f o_fed_f p0 p1 x7 x8 x9 x16 x20 x23 x26 = (o_at_o, o_short0_o, o_found_f_o) → qv (0) (15) o_at_o := by
                intro x26 E
                rw [f_X7_takeForm_J27] at E
                have J30 : ∀ (x29 : Int32), f_X7_takeForm_J30 o_given o_found_f o_fed_f p0 p1 x8 x9 x16 x20 x26 x29 = (o_at_o, o_short0_o, o_found_f_o) → qv (0) (15) o_at_o := by
                  intro x29 E
                  rw [f_X7_takeForm_J30] at E
                  have J34 : ∀ (x33 : Int32) (hv_x33 : qv (0) (4) x33), f_X7_takeForm_J34 o_given o_found_f o_fed_f p1 x8 x9 x20 x26 x29 x33 = (o_at_o, o_short0_o, o_found_f_o) → qv (0) (15) o_at_o := by
                    intro x33 hv_x33 E
                    rw [f_X7_takeForm_J34] at E
                    obtain ⟨y35, y36, y37, q38⟩ : ∃ y35 y36 y37, (f_X7_take o_given x8 x9 o_fed_f x33) = (y35, y36, y37) := ⟨_, _, _, rfl⟩
                    rw [q38] at E
                    dsimp only at E
                    have F0 := (qv_w (⟨(post_X7_take (⟨hv_x8.1, hv_x8.2⟩ : qv (0) (11) x8) (⟨hv_x33.1, hv_x33.2⟩ : qv (0) (4) x33) q38 (by decide) (by decide) : qv (0) (15) y36).1, (post_X7_take (⟨hv_x8.1, hv_x8.2⟩ : qv (0) (11) x8) (⟨hv_x33.1, hv_x33.2⟩ : qv (0) (4) x33) q38 (by decide) (by decide) : qv (0) (15) y36).2⟩ : qv (0) (15) y36) (by decide) (by decide) : qv (0) (15) y36)
                    cases E
                    exact F0
                  by_cases c31 : x16 = 0
                  · rw [if_pos c31] at E
                    by_cases c32 : (p0 >>> ((6 : Int32) &&& 31)) = (2 : Int32)
                    · rw [if_pos c32] at E
                      exact J34 (4 : Int32) (qv_w (⟨by decide, by decide⟩ : qv (4) (4) (4 : Int32)) (by decide) (by decide)) E
                    · rw [if_neg c32] at E
                      exact J34 (p0 >>> ((6 : Int32) &&& 31)) (qv_w (qv_shr (k := 6) (⟨hv_p0.1, hv_p0.2⟩ : qv (0) (255) p0) (by decide) (by decide) (by decide) (by decide) : qv (0) (3) (p0 >>> ((6 : Int32) &&& 31))) (by decide) (by decide)) E
                  · rw [if_neg c31] at E
                    exact J34 (4 : Int32) (qv_w (⟨by decide, by decide⟩ : qv (4) (4) (4 : Int32)) (by decide) (by decide)) E
                by_cases c28 : x23 = (4 : Int32)
                · rw [if_pos c28] at E
                  exact J30 (1 : Int32) E
                · rw [if_neg c28] at E
                  exact J30 ((1 : Int32) <<< ((x7 >>> ((6 : Int32) &&& 31)) &&& 31)) E
              by_cases c25 : x23 = (4 : Int32)
              · rw [if_pos c25] at E
                exact J27 (-1 : Int32) E
              · rw [if_neg c25] at E
                exact J27 x23 E
            by_cases c22 : 0 ≤ x7
            · rw [if_pos c22] at E
              exact J24 ((((o_pfx >>> ((1 : Int32) &&& 31)) &&& (1 : Int32)) * (8 : Int32)) + ((x7 >>> ((3 : Int32) &&& 31)) &&& (7 : Int32))) E
            · rw [if_neg c22] at E
              exact J24 (4 : Int32) E
          by_cases c18 : x16 = 0
          · rw [if_pos c18] at E
            exact J21 (((o_pfx &&& (1 : Int32)) * (8 : Int32)) + x12) E
          · rw [if_neg c18] at E
            by_cases c19 : 0 ≤ x7
            · rw [if_pos c19] at E
              exact J21 (-1 : Int32) E
            · rw [if_neg c19] at E
              exact J21 (16 : Int32) E
        by_cases c14 : (p0 >>> ((6 : Int32) &&& 31)) = 0
        · rw [if_pos c14] at E
          by_cases c15 : x12 = (5 : Int32)
          · rw [if_pos c15] at E
            exact J17 (1 : Int32) (qv_w (⟨by decide, by decide⟩ : qv (1) (1) (1 : Int32)) (by decide) (by decide)) E
          · rw [if_neg c15] at E
            exact J17 (0 : Int32) (qv_w (⟨by decide, by decide⟩ : qv (0) (0) (0 : Int32)) (by decide) (by decide)) E
        · rw [if_neg c14] at E
          exact J17 (0 : Int32) (qv_w (⟨by decide, by decide⟩ : qv (0) (0) (0 : Int32)) (by decide) (by decide)) E
      by_cases c11 : 0 ≤ x7
      · rw [if_pos c11] at E
        exact J13 (x7 &&& (7 : Int32)) E
      · rw [if_neg c11] at E
        exact J13 (p0 &&& (7 : Int32)) E
    by_cases c2 : (p0 &&& (7 : Int32)) = (4 : Int32)
    · rw [if_pos c2] at E
      obtain ⟨y3, y4, y5, q6⟩ : ∃ y3 y4 y5, (f_X7_next o_given o_at o_short0 o_fed_f) = (y3, y4, y5) := ⟨_, _, _, rfl⟩
      rw [q6] at E
      dsimp only at E
      exact J10 y3 (qv_w (⟨(post_X7_next_r ha_o_fed_f q6 : qv (0) (255) y3).1, (post_X7_next_r ha_o_fed_f q6 : qv (0) (255) y3).2⟩ : qv (0) (255) y3) (by decide) (by decide)) y4 (qv_w (⟨(post_X7_next (⟨hv_o_at.1, hv_o_at.2⟩ : qv (0) (10) o_at) q6 (by decide) (by decide) : qv (1) (11) y4).1, (post_X7_next (⟨hv_o_at.1, hv_o_at.2⟩ : qv (0) (10) o_at) q6 (by decide) (by decide) : qv (1) (11) y4).2⟩ : qv (1) (11) y4) (by decide) (by decide)) y5 E
    · rw [if_neg c2] at E
      exact J10 (-1 : Int32) (qv_w (⟨by decide, by decide⟩ : qv (-1) (-1) (-1 : Int32)) (by decide) (by decide)) o_at (qv_w (⟨hv_o_at.1, hv_o_at.2⟩ : qv (0) (10) o_at) (by decide) (by decide)) o_short0 E
set_option maxHeartbeats 4000000 in
set_option maxRecDepth 100000 in
theorem post_X7_takeForm15 {o_given : Int32} {o_at : Int32} {o_pfx : Int32} {o_pfd : Int32} {o_short0 : Int32} {o_found_f : (Nat → Int32)} {o_fed_f : (Nat → Int32)} {p0 : Int32} {p1 : Int32} {p2 : Int32} {o_at_o : Int32} {o_short0_o : Int32} {o_found_f_o : (Nat → Int32)} (hv_o_at : qv (0) (15) o_at) (hv_o_given : qv (0) (16) o_given) (hv_p0 : qv (0) (255) p0) (hv_p1 : qv (0) (2) p1) (ha_o_fed_f : ∀ j : Nat, qv 0 255 (o_fed_f j)) (hq : f_X7_takeForm o_given o_at o_pfx o_pfd o_short0 o_found_f o_fed_f p0 p1 p2 = (o_at_o, o_short0_o, o_found_f_o)) : qv (0) (20) o_at_o := by
  have E := hq
  rw [f_X7_takeForm] at E
  by_cases c1 : (p0 >>> ((6 : Int32) &&& 31)) = (3 : Int32)
  · rw [if_pos c1] at E
    have J43 : ∀ (x42 : Int32), f_X7_takeForm_J43 o_at o_pfx o_found_f p0 p1 x42 = (o_at_o, o_short0_o, o_found_f_o) → qv (0) (20) o_at_o := by
      intro x42 E
      rw [f_X7_takeForm_J43] at E
      have F0 := (qv_w (⟨hv_o_at.1, hv_o_at.2⟩ : qv (0) (15) o_at) (by decide) (by decide) : qv (0) (20) o_at)
      cases E
      exact F0
    by_cases c39 : p2 = (1 : Int32)
    · rw [if_pos c39] at E
      by_cases c40 : o_pfd = 0
      · rw [if_pos c40] at E
        by_cases c41 : (p0 &&& (7 : Int32)) ≤ (3 : Int32)
        · rw [if_pos c41] at E
          exact J43 o_short0 E
        · rw [if_neg c41] at E
          exact J43 (1 : Int32) E
      · rw [if_neg c40] at E
        exact J43 o_short0 E
    · rw [if_neg c39] at E
      exact J43 o_short0 E
  · rw [if_neg c1] at E
    have J10 : ∀ (x7 : Int32) (hv_x7 : qv (-1) (255) x7) (x8 : Int32) (hv_x8 : qv (0) (16) x8) (x9 : Int32), f_X7_takeForm_J10 o_given o_pfx o_found_f o_fed_f p0 p1 x7 x8 x9 = (o_at_o, o_short0_o, o_found_f_o) → qv (0) (20) o_at_o := by
      intro x7 hv_x7 x8 hv_x8 x9 E
      rw [f_X7_takeForm_J10] at E
      have J13 : ∀ (x12 : Int32), f_X7_takeForm_J13 o_given o_pfx o_found_f o_fed_f p0 p1 x7 x8 x9 x12 = (o_at_o, o_short0_o, o_found_f_o) → qv (0) (20) o_at_o := by
        intro x12 E
        rw [f_X7_takeForm_J13] at E
        have J17 : ∀ (x16 : Int32) (hv_x16 : qv (0) (1) x16), f_X7_takeForm_J17 o_given o_pfx o_found_f o_fed_f p0 p1 x7 x8 x9 x12 x16 = (o_at_o, o_short0_o, o_found_f_o) → qv (0) (20) o_at_o := by
          intro x16 hv_x16 E
          rw [f_X7_takeForm_J17] at E
          have J21 : ∀ (x20 : Int32), f_X7_takeForm_J21 o_given o_pfx o_found_f o_fed_f p0 p1 x7 x8 x9 x16 x20 = (o_at_o, o_short0_o, o_found_f_o) → qv (0) (20) o_at_o := by
            intro x20 E
            rw [f_X7_takeForm_J21] at E
            have J24 : ∀ (x23 : Int32), f_X7_takeForm_J24 o_given o_found_f o_fed_f p0 p1 x7 x8 x9 x16 x20 x23 = (o_at_o, o_short0_o, o_found_f_o) → qv (0) (20) o_at_o := by
              intro x23 E
              rw [f_X7_takeForm_J24] at E
              have J27 : ∀ (x26 : Int32), f_X7_takeForm_J27 o_given o_found_f o_fed_f p0 p1 x7 x8 x9 x16 x20 x23 x26 = (o_at_o, o_short0_o, o_found_f_o) → qv (0) (20) o_at_o := by
                intro x26 E
                rw [f_X7_takeForm_J27] at E
                have J30 : ∀ (x29 : Int32), f_X7_takeForm_J30 o_given o_found_f o_fed_f p0 p1 x8 x9 x16 x20 x26 x29 = (o_at_o, o_short0_o, o_found_f_o) → qv (0) (20) o_at_o := by
                  intro x29 E
                  rw [f_X7_takeForm_J30] at E
                  have J34 : ∀ (x33 : Int32) (hv_x33 : qv (0) (4) x33), f_X7_takeForm_J34 o_given o_found_f o_fed_f p1 x8 x9 x20 x26 x29 x33 = (o_at_o, o_short0_o, o_found_f_o) → qv (0) (20) o_at_o := by
                    intro x33 hv_x33 E
                    rw [f_X7_takeForm_J34] at E
                    obtain ⟨y35, y36, y37, q38⟩ : ∃ y35 y36 y37, (f_X7_take o_given x8 x9 o_fed_f x33) = (y35, y36, y37) := ⟨_, _, _, rfl⟩
                    rw [q38] at E
                    dsimp only at E
                    have F0 := (qv_w (⟨(post_X7_take (⟨hv_x8.1, hv_x8.2⟩ : qv (0) (16) x8) (⟨hv_x33.1, hv_x33.2⟩ : qv (0) (4) x33) q38 (by decide) (by decide) : qv (0) (20) y36).1, (post_X7_take (⟨hv_x8.1, hv_x8.2⟩ : qv (0) (16) x8) (⟨hv_x33.1, hv_x33.2⟩ : qv (0) (4) x33) q38 (by decide) (by decide) : qv (0) (20) y36).2⟩ : qv (0) (20) y36) (by decide) (by decide) : qv (0) (20) y36)
                    cases E
                    exact F0
                  by_cases c31 : x16 = 0
                  · rw [if_pos c31] at E
                    by_cases c32 : (p0 >>> ((6 : Int32) &&& 31)) = (2 : Int32)
                    · rw [if_pos c32] at E
                      exact J34 (4 : Int32) (qv_w (⟨by decide, by decide⟩ : qv (4) (4) (4 : Int32)) (by decide) (by decide)) E
                    · rw [if_neg c32] at E
                      exact J34 (p0 >>> ((6 : Int32) &&& 31)) (qv_w (qv_shr (k := 6) (⟨hv_p0.1, hv_p0.2⟩ : qv (0) (255) p0) (by decide) (by decide) (by decide) (by decide) : qv (0) (3) (p0 >>> ((6 : Int32) &&& 31))) (by decide) (by decide)) E
                  · rw [if_neg c31] at E
                    exact J34 (4 : Int32) (qv_w (⟨by decide, by decide⟩ : qv (4) (4) (4 : Int32)) (by decide) (by decide)) E
                by_cases c28 : x23 = (4 : Int32)
                · rw [if_pos c28] at E
                  exact J30 (1 : Int32) E
                · rw [if_neg c28] at E
                  exact J30 ((1 : Int32) <<< ((x7 >>> ((6 : Int32) &&& 31)) &&& 31)) E
              by_cases c25 : x23 = (4 : Int32)
              · rw [if_pos c25] at E
                exact J27 (-1 : Int32) E
              · rw [if_neg c25] at E
                exact J27 x23 E
            by_cases c22 : 0 ≤ x7
            · rw [if_pos c22] at E
              exact J24 ((((o_pfx >>> ((1 : Int32) &&& 31)) &&& (1 : Int32)) * (8 : Int32)) + ((x7 >>> ((3 : Int32) &&& 31)) &&& (7 : Int32))) E
            · rw [if_neg c22] at E
              exact J24 (4 : Int32) E
          by_cases c18 : x16 = 0
          · rw [if_pos c18] at E
            exact J21 (((o_pfx &&& (1 : Int32)) * (8 : Int32)) + x12) E
          · rw [if_neg c18] at E
            by_cases c19 : 0 ≤ x7
            · rw [if_pos c19] at E
              exact J21 (-1 : Int32) E
            · rw [if_neg c19] at E
              exact J21 (16 : Int32) E
        by_cases c14 : (p0 >>> ((6 : Int32) &&& 31)) = 0
        · rw [if_pos c14] at E
          by_cases c15 : x12 = (5 : Int32)
          · rw [if_pos c15] at E
            exact J17 (1 : Int32) (qv_w (⟨by decide, by decide⟩ : qv (1) (1) (1 : Int32)) (by decide) (by decide)) E
          · rw [if_neg c15] at E
            exact J17 (0 : Int32) (qv_w (⟨by decide, by decide⟩ : qv (0) (0) (0 : Int32)) (by decide) (by decide)) E
        · rw [if_neg c14] at E
          exact J17 (0 : Int32) (qv_w (⟨by decide, by decide⟩ : qv (0) (0) (0 : Int32)) (by decide) (by decide)) E
      by_cases c11 : 0 ≤ x7
      · rw [if_pos c11] at E
        exact J13 (x7 &&& (7 : Int32)) E
      · rw [if_neg c11] at E
        exact J13 (p0 &&& (7 : Int32)) E
    by_cases c2 : (p0 &&& (7 : Int32)) = (4 : Int32)
    · rw [if_pos c2] at E
      obtain ⟨y3, y4, y5, q6⟩ : ∃ y3 y4 y5, (f_X7_next o_given o_at o_short0 o_fed_f) = (y3, y4, y5) := ⟨_, _, _, rfl⟩
      rw [q6] at E
      dsimp only at E
      exact J10 y3 (qv_w (⟨(post_X7_next_r ha_o_fed_f q6 : qv (0) (255) y3).1, (post_X7_next_r ha_o_fed_f q6 : qv (0) (255) y3).2⟩ : qv (0) (255) y3) (by decide) (by decide)) y4 (qv_w (⟨(post_X7_next (⟨hv_o_at.1, hv_o_at.2⟩ : qv (0) (15) o_at) q6 (by decide) (by decide) : qv (1) (16) y4).1, (post_X7_next (⟨hv_o_at.1, hv_o_at.2⟩ : qv (0) (15) o_at) q6 (by decide) (by decide) : qv (1) (16) y4).2⟩ : qv (1) (16) y4) (by decide) (by decide)) y5 E
    · rw [if_neg c2] at E
      exact J10 (-1 : Int32) (qv_w (⟨by decide, by decide⟩ : qv (-1) (-1) (-1 : Int32)) (by decide) (by decide)) o_at (qv_w (⟨hv_o_at.1, hv_o_at.2⟩ : qv (0) (15) o_at) (by decide) (by decide)) o_short0 E
set_option maxHeartbeats 4000000 in
set_option maxRecDepth 100000 in
theorem post_X7_takeForm20 {o_given : Int32} {o_at : Int32} {o_pfx : Int32} {o_pfd : Int32} {o_short0 : Int32} {o_found_f : (Nat → Int32)} {o_fed_f : (Nat → Int32)} {p0 : Int32} {p1 : Int32} {p2 : Int32} {o_at_o : Int32} {o_short0_o : Int32} {o_found_f_o : (Nat → Int32)} (hv_o_at : qv (0) (20) o_at) (hv_o_given : qv (0) (16) o_given) (hv_p0 : qv (0) (255) p0) (hv_p1 : qv (0) (2) p1) (ha_o_fed_f : ∀ j : Nat, qv 0 255 (o_fed_f j)) (hq : f_X7_takeForm o_given o_at o_pfx o_pfd o_short0 o_found_f o_fed_f p0 p1 p2 = (o_at_o, o_short0_o, o_found_f_o)) : qv (0) (25) o_at_o := by
  have E := hq
  rw [f_X7_takeForm] at E
  by_cases c1 : (p0 >>> ((6 : Int32) &&& 31)) = (3 : Int32)
  · rw [if_pos c1] at E
    have J43 : ∀ (x42 : Int32), f_X7_takeForm_J43 o_at o_pfx o_found_f p0 p1 x42 = (o_at_o, o_short0_o, o_found_f_o) → qv (0) (25) o_at_o := by
      intro x42 E
      rw [f_X7_takeForm_J43] at E
      have F0 := (qv_w (⟨hv_o_at.1, hv_o_at.2⟩ : qv (0) (20) o_at) (by decide) (by decide) : qv (0) (25) o_at)
      cases E
      exact F0
    by_cases c39 : p2 = (1 : Int32)
    · rw [if_pos c39] at E
      by_cases c40 : o_pfd = 0
      · rw [if_pos c40] at E
        by_cases c41 : (p0 &&& (7 : Int32)) ≤ (3 : Int32)
        · rw [if_pos c41] at E
          exact J43 o_short0 E
        · rw [if_neg c41] at E
          exact J43 (1 : Int32) E
      · rw [if_neg c40] at E
        exact J43 o_short0 E
    · rw [if_neg c39] at E
      exact J43 o_short0 E
  · rw [if_neg c1] at E
    have J10 : ∀ (x7 : Int32) (hv_x7 : qv (-1) (255) x7) (x8 : Int32) (hv_x8 : qv (0) (21) x8) (x9 : Int32), f_X7_takeForm_J10 o_given o_pfx o_found_f o_fed_f p0 p1 x7 x8 x9 = (o_at_o, o_short0_o, o_found_f_o) → qv (0) (25) o_at_o := by
      intro x7 hv_x7 x8 hv_x8 x9 E
      rw [f_X7_takeForm_J10] at E
      have J13 : ∀ (x12 : Int32), f_X7_takeForm_J13 o_given o_pfx o_found_f o_fed_f p0 p1 x7 x8 x9 x12 = (o_at_o, o_short0_o, o_found_f_o) → qv (0) (25) o_at_o := by
        intro x12 E
        rw [f_X7_takeForm_J13] at E
        have J17 : ∀ (x16 : Int32) (hv_x16 : qv (0) (1) x16), f_X7_takeForm_J17 o_given o_pfx o_found_f o_fed_f p0 p1 x7 x8 x9 x12 x16 = (o_at_o, o_short0_o, o_found_f_o) → qv (0) (25) o_at_o := by
          intro x16 hv_x16 E
          rw [f_X7_takeForm_J17] at E
          have J21 : ∀ (x20 : Int32), f_X7_takeForm_J21 o_given o_pfx o_found_f o_fed_f p0 p1 x7 x8 x9 x16 x20 = (o_at_o, o_short0_o, o_found_f_o) → qv (0) (25) o_at_o := by
            intro x20 E
            rw [f_X7_takeForm_J21] at E
            have J24 : ∀ (x23 : Int32), f_X7_takeForm_J24 o_given o_found_f o_fed_f p0 p1 x7 x8 x9 x16 x20 x23 = (o_at_o, o_short0_o, o_found_f_o) → qv (0) (25) o_at_o := by
              intro x23 E
              rw [f_X7_takeForm_J24] at E
              have J27 : ∀ (x26 : Int32), f_X7_takeForm_J27 o_given o_found_f o_fed_f p0 p1 x7 x8 x9 x16 x20 x23 x26 = (o_at_o, o_short0_o, o_found_f_o) → qv (0) (25) o_at_o := by
                intro x26 E
                rw [f_X7_takeForm_J27] at E
                have J30 : ∀ (x29 : Int32), f_X7_takeForm_J30 o_given o_found_f o_fed_f p0 p1 x8 x9 x16 x20 x26 x29 = (o_at_o, o_short0_o, o_found_f_o) → qv (0) (25) o_at_o := by
                  intro x29 E
                  rw [f_X7_takeForm_J30] at E
                  have J34 : ∀ (x33 : Int32) (hv_x33 : qv (0) (4) x33), f_X7_takeForm_J34 o_given o_found_f o_fed_f p1 x8 x9 x20 x26 x29 x33 = (o_at_o, o_short0_o, o_found_f_o) → qv (0) (25) o_at_o := by
                    intro x33 hv_x33 E
                    rw [f_X7_takeForm_J34] at E
                    obtain ⟨y35, y36, y37, q38⟩ : ∃ y35 y36 y37, (f_X7_take o_given x8 x9 o_fed_f x33) = (y35, y36, y37) := ⟨_, _, _, rfl⟩
                    rw [q38] at E
                    dsimp only at E
                    have F0 := (qv_w (⟨(post_X7_take (⟨hv_x8.1, hv_x8.2⟩ : qv (0) (21) x8) (⟨hv_x33.1, hv_x33.2⟩ : qv (0) (4) x33) q38 (by decide) (by decide) : qv (0) (25) y36).1, (post_X7_take (⟨hv_x8.1, hv_x8.2⟩ : qv (0) (21) x8) (⟨hv_x33.1, hv_x33.2⟩ : qv (0) (4) x33) q38 (by decide) (by decide) : qv (0) (25) y36).2⟩ : qv (0) (25) y36) (by decide) (by decide) : qv (0) (25) y36)
                    cases E
                    exact F0
                  by_cases c31 : x16 = 0
                  · rw [if_pos c31] at E
                    by_cases c32 : (p0 >>> ((6 : Int32) &&& 31)) = (2 : Int32)
                    · rw [if_pos c32] at E
                      exact J34 (4 : Int32) (qv_w (⟨by decide, by decide⟩ : qv (4) (4) (4 : Int32)) (by decide) (by decide)) E
                    · rw [if_neg c32] at E
                      exact J34 (p0 >>> ((6 : Int32) &&& 31)) (qv_w (qv_shr (k := 6) (⟨hv_p0.1, hv_p0.2⟩ : qv (0) (255) p0) (by decide) (by decide) (by decide) (by decide) : qv (0) (3) (p0 >>> ((6 : Int32) &&& 31))) (by decide) (by decide)) E
                  · rw [if_neg c31] at E
                    exact J34 (4 : Int32) (qv_w (⟨by decide, by decide⟩ : qv (4) (4) (4 : Int32)) (by decide) (by decide)) E
                by_cases c28 : x23 = (4 : Int32)
                · rw [if_pos c28] at E
                  exact J30 (1 : Int32) E
                · rw [if_neg c28] at E
                  exact J30 ((1 : Int32) <<< ((x7 >>> ((6 : Int32) &&& 31)) &&& 31)) E
              by_cases c25 : x23 = (4 : Int32)
              · rw [if_pos c25] at E
                exact J27 (-1 : Int32) E
              · rw [if_neg c25] at E
                exact J27 x23 E
            by_cases c22 : 0 ≤ x7
            · rw [if_pos c22] at E
              exact J24 ((((o_pfx >>> ((1 : Int32) &&& 31)) &&& (1 : Int32)) * (8 : Int32)) + ((x7 >>> ((3 : Int32) &&& 31)) &&& (7 : Int32))) E
            · rw [if_neg c22] at E
              exact J24 (4 : Int32) E
          by_cases c18 : x16 = 0
          · rw [if_pos c18] at E
            exact J21 (((o_pfx &&& (1 : Int32)) * (8 : Int32)) + x12) E
          · rw [if_neg c18] at E
            by_cases c19 : 0 ≤ x7
            · rw [if_pos c19] at E
              exact J21 (-1 : Int32) E
            · rw [if_neg c19] at E
              exact J21 (16 : Int32) E
        by_cases c14 : (p0 >>> ((6 : Int32) &&& 31)) = 0
        · rw [if_pos c14] at E
          by_cases c15 : x12 = (5 : Int32)
          · rw [if_pos c15] at E
            exact J17 (1 : Int32) (qv_w (⟨by decide, by decide⟩ : qv (1) (1) (1 : Int32)) (by decide) (by decide)) E
          · rw [if_neg c15] at E
            exact J17 (0 : Int32) (qv_w (⟨by decide, by decide⟩ : qv (0) (0) (0 : Int32)) (by decide) (by decide)) E
        · rw [if_neg c14] at E
          exact J17 (0 : Int32) (qv_w (⟨by decide, by decide⟩ : qv (0) (0) (0 : Int32)) (by decide) (by decide)) E
      by_cases c11 : 0 ≤ x7
      · rw [if_pos c11] at E
        exact J13 (x7 &&& (7 : Int32)) E
      · rw [if_neg c11] at E
        exact J13 (p0 &&& (7 : Int32)) E
    by_cases c2 : (p0 &&& (7 : Int32)) = (4 : Int32)
    · rw [if_pos c2] at E
      obtain ⟨y3, y4, y5, q6⟩ : ∃ y3 y4 y5, (f_X7_next o_given o_at o_short0 o_fed_f) = (y3, y4, y5) := ⟨_, _, _, rfl⟩
      rw [q6] at E
      dsimp only at E
      exact J10 y3 (qv_w (⟨(post_X7_next_r ha_o_fed_f q6 : qv (0) (255) y3).1, (post_X7_next_r ha_o_fed_f q6 : qv (0) (255) y3).2⟩ : qv (0) (255) y3) (by decide) (by decide)) y4 (qv_w (⟨(post_X7_next (⟨hv_o_at.1, hv_o_at.2⟩ : qv (0) (20) o_at) q6 (by decide) (by decide) : qv (1) (21) y4).1, (post_X7_next (⟨hv_o_at.1, hv_o_at.2⟩ : qv (0) (20) o_at) q6 (by decide) (by decide) : qv (1) (21) y4).2⟩ : qv (1) (21) y4) (by decide) (by decide)) y5 E
    · rw [if_neg c2] at E
      exact J10 (-1 : Int32) (qv_w (⟨by decide, by decide⟩ : qv (-1) (-1) (-1 : Int32)) (by decide) (by decide)) o_at (qv_w (⟨hv_o_at.1, hv_o_at.2⟩ : qv (0) (20) o_at) (by decide) (by decide)) o_short0 E
