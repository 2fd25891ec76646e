def f_X7_putMemory_J48 (o_fields_f : (Nat → Int32)) (x42 : Int32) (x43 : (Nat → Int32)) (x47 : Int32) : Int32 × (Nat → Int32) := (match (f_X7_putAll x42 x43 (((o_fields_f ((12 : Int32)).toNatClampNeg)).toInt64) x47) with | (y49, y50) => (y49, y50))
def f_X7_putMemory_J44 (o_fields_f : (Nat → Int32)) (x3 : Int32) (x12 : Int32) (x42 : Int32) (x43 : (Nat → Int32)) : Int32 × (Nat → Int32) := ((if x3 = 0 then (if x12 = (2 : Int32) then (f_X7_putMemory_J48 o_fields_f x42 x43 (4 : Int32)) else (f_X7_putMemory_J48 o_fields_f x42 x43 x12)) else (f_X7_putMemory_J48 o_fields_f x42 x43 (4 : Int32))))
def f_X7_putMemory_J38 (o_fields_f : (Nat → Int32)) (x3 : Int32) (x12 : Int32) (y24 : Int32) (y25 : (Nat → Int32)) (x31 : Int32) (x34 : Int32) (x37 : Int32) : Int32 × (Nat → Int32) := (match (f_X7_put y24 y25 ((((64 : Int32) * x31) + ((8 : Int32) * x34)) + x37)) with | (y39, y40) => f_X7_putMemory_J44 o_fields_f x3 x12 y39 y40)
def f_X7_putMemory_J35 (o_fields_f : (Nat → Int32)) (x3 : Int32) (x12 : Int32) (y24 : Int32) (y25 : (Nat → Int32)) (x31 : Int32) (x34 : Int32) : Int32 × (Nat → Int32) := ((if (o_fields_f ((9 : Int32)).toNatClampNeg) = (-1 : Int32) then (f_X7_putMemory_J38 o_fields_f x3 x12 y24 y25 x31 x34 (5 : Int32)) else (f_X7_putMemory_J38 o_fields_f x3 x12 y24 y25 x31 x34 ((o_fields_f ((9 : Int32)).toNatClampNeg) &&& (7 : Int32)))))
def f_X7_putMemory_J32 (o_fields_f : (Nat → Int32)) (x3 : Int32) (x12 : Int32) (y24 : Int32) (y25 : (Nat → Int32)) (x31 : Int32) : Int32 × (Nat → Int32) := ((if 0 ≤ (o_fields_f ((10 : Int32)).toNatClampNeg) then (f_X7_putMemory_J35 o_fields_f x3 x12 y24 y25 x31 ((o_fields_f ((10 : Int32)).toNatClampNeg) &&& (7 : Int32))) else (f_X7_putMemory_J35 o_fields_f x3 x12 y24 y25 x31 (4 : Int32))))
def f_X7_putMemory_J23 (o_tried : Int32) (o_fields_f : (Nat → Int32)) (o_trial_f : (Nat → Int32)) (p0 : Int32) (x3 : Int32) (x12 : Int32) (x18 : Int32) (x22 : Int32) : Int32 × (Nat → Int32) := (match (f_X7_put o_tried o_trial_f ((((64 : Int32) * x12) + ((8 : Int32) * p0)) + x22)) with | (y24, y25) => (if x18 = 0 then (f_X7_putMemory_J44 o_fields_f x3 x12 y24 y25) else ((if (o_fields_f ((11 : Int32)).toNatClampNeg) = (8 : Int32) then (f_X7_putMemory_J32 o_fields_f x3 x12 y24 y25 (3 : Int32)) else (if (o_fields_f ((11 : Int32)).toNatClampNeg) = (4 : Int32) then (f_X7_putMemory_J32 o_fields_f x3 x12 y24 y25 (2 : Int32)) else (if (o_fields_f ((11 : Int32)).toNatClampNeg) = (2 : Int32) then (f_X7_putMemory_J32 o_fields_f x3 x12 y24 y25 (1 : Int32)) else (f_X7_putMemory_J32 o_fields_f x3 x12 y24 y25 (0 : Int32))))))))
def f_X7_putMemory_J19 (o_tried : Int32) (o_fields_f : (Nat → Int32)) (o_trial_f : (Nat → Int32)) (p0 : Int32) (x3 : Int32) (x12 : Int32) (x18 : Int32) : Int32 × (Nat → Int32) := ((if x18 = 0 then (if (o_fields_f ((9 : Int32)).toNatClampNeg) = (16 : Int32) then (f_X7_putMemory_J23 o_tried o_fields_f o_trial_f p0 x3 x12 x18 (5 : Int32)) else (f_X7_putMemory_J23 o_tried o_fields_f o_trial_f p0 x3 x12 x18 ((o_fields_f ((9 : Int32)).toNatClampNeg) &&& (7 : Int32)))) else (f_X7_putMemory_J23 o_tried o_fields_f o_trial_f p0 x3 x12 x18 (4 : Int32))))
def f_X7_putMemory_J13 (o_tried : Int32) (o_fields_f : (Nat → Int32)) (o_trial_f : (Nat → Int32)) (p0 : Int32) (x3 : Int32) (x12 : Int32) : Int32 × (Nat → Int32) := ((if (o_fields_f ((9 : Int32)).toNatClampNeg) = (-1 : Int32) then (f_X7_putMemory_J19 o_tried o_fields_f o_trial_f p0 x3 x12 (1 : Int32)) else (if 0 ≤ (o_fields_f ((10 : Int32)).toNatClampNeg) then (f_X7_putMemory_J19 o_tried o_fields_f o_trial_f p0 x3 x12 (1 : Int32)) else (if (16 : Int32) ≤ (o_fields_f ((9 : Int32)).toNatClampNeg) then (f_X7_putMemory_J19 o_tried o_fields_f o_trial_f p0 x3 x12 (0 : Int32)) else (if ((o_fields_f ((9 : Int32)).toNatClampNeg) &&& (7 : Int32)) = (4 : Int32) then (f_X7_putMemory_J19 o_tried o_fields_f o_trial_f p0 x3 x12 (1 : Int32)) else (f_X7_putMemory_J19 o_tried o_fields_f o_trial_f p0 x3 x12 (0 : Int32)))))))
def f_X7_putMemory_J4 (o_tried : Int32) (o_fields_f : (Nat → Int32)) (o_trial_f : (Nat → Int32)) (p0 : Int32) (x3 : Int32) : Int32 × (Nat → Int32) := ((if x3 = 0 then (if (o_fields_f ((12 : Int32)).toNatClampNeg) = 0 then (if ((o_fields_f ((9 : Int32)).toNatClampNeg) &&& (7 : Int32)) = (5 : Int32) then (if (o_fields_f ((12 : Int32)).toNatClampNeg) < (-128 : Int32) then (f_X7_putMemory_J13 o_tried o_fields_f o_trial_f p0 x3 (2 : Int32)) else (if (128 : Int32) ≤ (o_fields_f ((12 : Int32)).toNatClampNeg) then (f_X7_putMemory_J13 o_tried o_fields_f o_trial_f p0 x3 (2 : Int32)) else (f_X7_putMemory_J13 o_tried o_fields_f o_trial_f p0 x3 (1 : Int32)))) else (f_X7_putMemory_J13 o_tried o_fields_f o_trial_f p0 x3 (0 : Int32))) else (if (o_fields_f ((12 : Int32)).toNatClampNeg) < (-128 : Int32) then (f_X7_putMemory_J13 o_tried o_fields_f o_trial_f p0 x3 (2 : Int32)) else (if (128 : Int32) ≤ (o_fields_f ((12 : Int32)).toNatClampNeg) then (f_X7_putMemory_J13 o_tried o_fields_f o_trial_f p0 x3 (2 : Int32)) else (f_X7_putMemory_J13 o_tried o_fields_f o_trial_f p0 x3 (1 : Int32))))) else (f_X7_putMemory_J13 o_tried o_fields_f o_trial_f p0 x3 (0 : Int32))))
def f_X7_putMemory (o_tried : Int32) (o_fields_f : (Nat → Int32)) (o_trial_f : (Nat → Int32)) (p0 : Int32) : Int32 × (Nat → Int32) := ((if (o_fields_f ((9 : Int32)).toNatClampNeg) = (-1 : Int32) then (f_X7_putMemory_J4 o_tried o_fields_f o_trial_f p0 (1 : Int32)) else (if (o_fields_f ((9 : Int32)).toNatClampNeg) = (16 : Int32) then (f_X7_putMemory_J4 o_tried o_fields_f o_trial_f p0 (1 : Int32)) else (f_X7_putMemory_J4 o_tried o_fields_f o_trial_f p0 (0 : Int32)))))
set_option maxHeartbeats 4000000 in
set_option maxRecDepth 100000 in
theorem c_X7_putMemory (l : Launch) (D : va_G) (cI : ClassId) (tT : Nat) (o : Nat) (o_ops : Nat) (o_sizes : Nat) (o_patterns : Nat) (o_leads : Nat) (o_codes : Nat) (o_tells : Nat) (o_numbers : Nat) (o_fields : Nat) (o_found : Nat) (o_bytes : Nat) (o_trial : Nat) (o_fed : Nat) (o_thrown : Int32) (o_number : Int64) (o_foundNumber : Int64) (o_length : Int32) (o_tried : Int32) (o_given : Int32) (o_at : Int32) (o_pfx : Int32) (o_pfd : Int32) (o_short0 : Int32) (o_fields_f : (Nat → Int32)) (o_trial_f : (Nat → Int32)) (p0 : Int32) (hv_o_tried : qv (0) (4) o_tried) (o_tried_o : Int32) (o_trial_f_o : (Nat → Int32)) (hq : f_X7_putMemory o_tried o_fields_f o_trial_f p0 = (o_tried_o, o_trial_f_o)) : qM l yX7_putMemory wsX7_putMemory (qr 2 45) (qX tT) D vwCl [(cI, .int)] [(o, .inr (6, [.int o_thrown, .int (115 : Int32), .ref o_ops, .ref o_sizes, .ref o_patterns, .ref o_leads, .ref o_codes, .ref o_tells, .ref o_numbers, .ref o_fields, .ref o_found, .long o_number, .long o_foundNumber, .ref o_bytes, .ref o_trial, .ref o_fed, .int o_length, .int o_tried, .int o_given, .int o_at, .int o_pfx, .int o_pfd, .int o_short0])), (o_fields, .inl (cI, 13, .inl o_fields_f)), (o_trial, .inl (cI, 20, .inl o_trial_f))] [.ref o, .int p0] none [(o, .inr (6, [.int o_thrown, .int (115 : Int32), .ref o_ops, .ref o_sizes, .ref o_patterns, .ref o_leads, .ref o_codes, .ref o_tells, .ref o_numbers, .ref o_fields, .ref o_found, .long o_number, .long o_foundNumber, .ref o_bytes, .ref o_trial, .ref o_fed, .int o_length, .int o_tried_o, .int o_given, .int o_at, .int o_pfx, .int o_pfd, .int o_short0])), (o_fields, .inl (cI, 13, .inl o_fields_f)), (o_trial, .inl (cI, 20, .inl o_trial_f_o))] := by
  refine qM_of (cc := cX7_putMemory) (maxL := 9) (ret := none) (by decide) rfl (Nat.le_of_ble_eq_true rfl) ?_
  intro p e s m args below meth c A ls Z hx hb hml hr hts hown hlk hK hA hXs hP hD hS hl hZ
  have hown : s.vm.findClass RX7 = some m.cls := hown
  have hl : lv_has ls 9 [(0, .ref o), (1, .int p0)] := hl
  have hi_X7 : ∀ w ∈ wsX70, w ∈ wsX7_putMemory := by decide +kernel
  have lk31 := hts (.fieldLink RX7 31 "InstructionCoderModel" "fields" "[I") (by decide +kernel)
  have hXg := qX_ok tT
  have E := hq
  rw [f_X7_putMemory] at E
  refine lv_aload_n hx hb dX7_putMemory_0 rfl (lv_at hl 0 rfl) ?_
  refine va_get (D := D) (ci := 6) (v := .ref o_fields) (C := RX7) (T := TX7) (N := 23) hx hb hts hi_X7 hown hK hP 0 rfl rfl 9 (by decide) lk31 (fun _ h9 => h9) rfl dX7_putMemory_1 ?_
  refine lv_bipush (v := (9 : Int32)) hx hb dX7_putMemory_4 (by decide) ?_
  refine va_iald hx hb hK hP 1 0 rfl rfl (qw_in0 (x := (9 : Int32)) (n := 13) (by decide) (by decide)) dX7_putMemory_6 ?_
  refine lv_istore_n (lv' := [(2, .int (o_fields_f ((9 : Int32)).toNatClampNeg)), (0, .ref o), (1, .int p0)]) hx hb dX7_putMemory_7 rfl hl (by decide) rfl (fun ls hl => ?_)
  refine lv_aload_n hx hb dX7_putMemory_8 rfl (lv_at hl 1 rfl) ?_
  refine va_get (D := D) (ci := 6) (v := .ref o_fields) (C := RX7) (T := TX7) (N := 23) hx hb hts hi_X7 hown hK hP 0 rfl rfl 9 (by decide) lk31 (fun _ h9 => h9) rfl dX7_putMemory_9 ?_
  refine lv_bipush (v := (10 : Int32)) hx hb dX7_putMemory_12 (by decide) ?_
  refine va_iald hx hb hK hP 1 0 rfl rfl (qw_in0 (x := (10 : Int32)) (n := 13) (by decide) (by decide)) dX7_putMemory_14 ?_
  refine lv_istore_n (lv' := [(3, .int (o_fields_f ((10 : Int32)).toNatClampNeg)), (2, .int (o_fields_f ((9 : Int32)).toNatClampNeg)), (0, .ref o), (1, .int p0)]) hx hb dX7_putMemory_15 rfl hl (by decide) rfl (fun ls hl => ?_)
  refine lv_aload_n hx hb dX7_putMemory_16 rfl (lv_at hl 2 rfl) ?_
  refine va_get (D := D) (ci := 6) (v := .ref o_fields) (C := RX7) (T := TX7) (N := 23) hx hb hts hi_X7 hown hK hP 0 rfl rfl 9 (by decide) lk31 (fun _ h9 => h9) rfl dX7_putMemory_17 ?_
  refine lv_bipush (v := (11 : Int32)) hx hb dX7_putMemory_20 (by decide) ?_
  refine va_iald hx hb hK hP 1 0 rfl rfl (qw_in0 (x := (11 : Int32)) (n := 13) (by decide) (by decide)) dX7_putMemory_22 ?_
  refine lv_istore (lv' := [(4, .int (o_fields_f ((11 : Int32)).toNatClampNeg)), (3, .int (o_fields_f ((10 : Int32)).toNatClampNeg)), (2, .int (o_fields_f ((9 : Int32)).toNatClampNeg)), (0, .ref o), (1, .int p0)]) hx hb dX7_putMemory_23 hl (by decide) rfl (fun ls hl => ?_)
  refine lv_aload_n hx hb dX7_putMemory_25 rfl (lv_at hl 3 rfl) ?_
  refine va_get (D := D) (ci := 6) (v := .ref o_fields) (C := RX7) (T := TX7) (N := 23) hx hb hts hi_X7 hown hK hP 0 rfl rfl 9 (by decide) lk31 (fun _ h9 => h9) rfl dX7_putMemory_26 ?_
  refine lv_bipush (v := (12 : Int32)) hx hb dX7_putMemory_29 (by decide) ?_
  refine va_iald hx hb hK hP 1 0 rfl rfl (qw_in0 (x := (12 : Int32)) (n := 13) (by decide) (by decide)) dX7_putMemory_31 ?_
  refine lv_istore (lv' := [(5, .int (o_fields_f ((12 : Int32)).toNatClampNeg)), (4, .int (o_fields_f ((11 : Int32)).toNatClampNeg)), (3, .int (o_fields_f ((10 : Int32)).toNatClampNeg)), (2, .int (o_fields_f ((9 : Int32)).toNatClampNeg)), (0, .ref o), (1, .int p0)]) hx hb dX7_putMemory_32 hl (by decide) rfl (fun ls hl => ?_)
  refine lv_iload_n hx hb dX7_putMemory_34 rfl (lv_at hl 3 rfl) ?_
  refine lv_iconst (v := (-1 : Int32)) hx hb dX7_putMemory_35 (by decide) ?_
  have J4 : ∀ (x3 : Int32) (hb_x3 : x3 = 0 ∨ x3 = 1) (hv_x3 : qv (0) (1) x3) (ls : Array Slot) (H : Heap) (locs : List Loc), f_X7_putMemory_J4 o_tried o_fields_f o_trial_f p0 x3 = (o_tried_o, o_trial_f_o) → lv_has ls 9 [(5, .int (o_fields_f ((12 : Int32)).toNatClampNeg)), (4, .int (o_fields_f ((11 : Int32)).toNatClampNeg)), (3, .int (o_fields_f ((10 : Int32)).toNatClampNeg)), (2, .int (o_fields_f ((9 : Int32)).toNatClampNeg)), (0, .ref o), (1, .int p0)] → va_P D vwCl [(o, .inr (6, [.int o_thrown, .int (115 : Int32), .ref o_ops, .ref o_sizes, .ref o_patterns, .ref o_leads, .ref o_codes, .ref o_tells, .ref o_numbers, .ref o_fields, .ref o_found, .long o_number, .long o_foundNumber, .ref o_bytes, .ref o_trial, .ref o_fed, .int o_length, .int o_tried, .int o_given, .int o_at, .int o_pfx, .int o_pfd, .int o_short0])), (o_fields, .inl (cI, 13, .inl o_fields_f)), (o_trial, .inl (cI, 20, .inl o_trial_f))] H → va_D A [(o, .inr (6, [.int o_thrown, .int (115 : Int32), .ref o_ops, .ref o_sizes, .ref o_patterns, .ref o_leads, .ref o_codes, .ref o_tells, .ref o_numbers, .ref o_fields, .ref o_found, .long o_number, .long o_foundNumber, .ref o_bytes, .ref o_trial, .ref o_fed, .int o_length, .int o_tried, .int o_given, .int o_at, .int o_pfx, .int o_pfd, .int o_short0])), (o_fields, .inl (cI, 13, .inl o_fields_f)), (o_trial, .inl (cI, 20, .inl o_trial_f))] → va_S A s.heap H locs → W p l e (qr 2 45) s m args below meth c H locs 0 0 Z (F0 m 50 ls [.int x3]) := by
    intro x3 hb_x3 hv_x3 ls H locs E hl hP hD hS
    rw [f_X7_putMemory_J4] at E
    refine lv_istore (lv' := [(6, .int x3), (5, .int (o_fields_f ((12 : Int32)).toNatClampNeg)), (4, .int (o_fields_f ((11 : Int32)).toNatClampNeg)), (3, .int (o_fields_f ((10 : Int32)).toNatClampNeg)), (2, .int (o_fields_f ((9 : Int32)).toNatClampNeg)), (0, .ref o), (1, .int p0)]) hx hb dX7_putMemory_50 hl (by decide) rfl (fun ls hl => ?_)
    refine lv_iload hx hb dX7_putMemory_52 (lv_at hl 0 rfl) ?_
    have J13 : ∀ (x12 : Int32) (hv_x12 : qv (0) (2) x12) (ls : Array Slot) (H : Heap) (locs : List Loc), f_X7_putMemory_J13 o_tried o_fields_f o_trial_f p0 x3 x12 = (o_tried_o, o_trial_f_o) → lv_has ls 9 [(6, .int x3), (5, .int (o_fields_f ((12 : Int32)).toNatClampNeg)), (4, .int (o_fields_f ((11 : Int32)).toNatClampNeg)), (3, .int (o_fields_f ((10 : Int32)).toNatClampNeg)), (2, .int (o_fields_f ((9 : Int32)).toNatClampNeg)), (0, .ref o), (1, .int p0)] → va_P D vwCl [(o, .inr (6, [.int o_thrown, .int (115 : Int32), .ref o_ops, .ref o_sizes, .ref o_patterns, .ref o_leads, .ref o_codes, .ref o_tells, .ref o_numbers, .ref o_fields, .ref o_found, .long o_number, .long o_foundNumber, .ref o_bytes, .ref o_trial, .ref o_fed, .int o_length, .int o_tried, .int o_given, .int o_at, .int o_pfx, .int o_pfd, .int o_short0])), (o_fields, .inl (cI, 13, .inl o_fields_f)), (o_trial, .inl (cI, 20, .inl o_trial_f))] H → va_D A [(o, .inr (6, [.int o_thrown, .int (115 : Int32), .ref o_ops, .ref o_sizes, .ref o_patterns, .ref o_leads, .ref o_codes, .ref o_tells, .ref o_numbers, .ref o_fields, .ref o_found, .long o_number, .long o_foundNumber, .ref o_bytes, .ref o_trial, .ref o_fed, .int o_length, .int o_tried, .int o_given, .int o_at, .int o_pfx, .int o_pfd, .int o_short0])), (o_fields, .inl (cI, 13, .inl o_fields_f)), (o_trial, .inl (cI, 20, .inl o_trial_f))] → va_S A s.heap H locs → W p l e (qr 2 45) s m args below meth c H locs 0 0 Z (F0 m 94 ls [.int x12]) := by
      intro x12 hv_x12 ls H locs E hl hP hD hS
      rw [f_X7_putMemory_J13] at E
      refine lv_istore (lv' := [(7, .int x12), (6, .int x3), (5, .int (o_fields_f ((12 : Int32)).toNatClampNeg)), (4, .int (o_fields_f ((11 : Int32)).toNatClampNeg)), (3, .int (o_fields_f ((10 : Int32)).toNatClampNeg)), (2, .int (o_fields_f ((9 : Int32)).toNatClampNeg)), (0, .ref o), (1, .int p0)]) hx hb dX7_putMemory_94 hl (by decide) rfl (fun ls hl => ?_)
      refine lv_iload_n hx hb dX7_putMemory_96 rfl (lv_at hl 5 rfl) ?_
      refine lv_iconst (v := (-1 : Int32)) hx hb dX7_putMemory_97 (by decide) ?_
      have J19 : ∀ (x18 : Int32) (hb_x18 : x18 = 0 ∨ x18 = 1) (hv_x18 : qv (0) (1) x18) (ls : Array Slot) (H : Heap) (locs : List Loc), f_X7_putMemory_J19 o_tried o_fields_f o_trial_f p0 x3 x12 x18 = (o_tried_o, o_trial_f_o) → lv_has ls 9 [(7, .int x12), (6, .int x3), (5, .int (o_fields_f ((12 : Int32)).toNatClampNeg)), (4, .int (o_fields_f ((11 : Int32)).toNatClampNeg)), (3, .int (o_fields_f ((10 : Int32)).toNatClampNeg)), (2, .int (o_fields_f ((9 : Int32)).toNatClampNeg)), (0, .ref o), (1, .int p0)] → va_P D vwCl [(o, .inr (6, [.int o_thrown, .int (115 : Int32), .ref o_ops, .ref o_sizes, .ref o_patterns, .ref o_leads, .ref o_codes, .ref o_tells, .ref o_numbers, .ref o_fields, .ref o_found, .long o_number, .long o_foundNumber, .ref o_bytes, .ref o_trial, .ref o_fed, .int o_length, .int o_tried, .int o_given, .int o_at, .int o_pfx, .int o_pfd, .int o_short0])), (o_fields, .inl (cI, 13, .inl o_fields_f)), (o_trial, .inl (cI, 20, .inl o_trial_f))] H → va_D A [(o, .inr (6, [.int o_thrown, .int (115 : Int32), .ref o_ops, .ref o_sizes, .ref o_patterns, .ref o_leads, .ref o_codes, .ref o_tells, .ref o_numbers, .ref o_fields, .ref o_found, .long o_number, .long o_foundNumber, .ref o_bytes, .ref o_trial, .ref o_fed, .int o_length, .int o_tried, .int o_given, .int o_at, .int o_pfx, .int o_pfd, .int o_short0])), (o_fields, .inl (cI, 13, .inl o_fields_f)), (o_trial, .inl (cI, 20, .inl o_trial_f))] → va_S A s.heap H locs → W p l e (qr 2 45) s m args below meth c H locs 0 0 Z (F0 m 124 ls [.int x18]) := by
        intro x18 hb_x18 hv_x18 ls H locs E hl hP hD hS
        rw [f_X7_putMemory_J19] at E
        refine lv_istore (lv' := [(8, .int x18), (7, .int x12), (6, .int x3), (5, .int (o_fields_f ((12 : Int32)).toNatClampNeg)), (4, .int (o_fields_f ((11 : Int32)).toNatClampNeg)), (3, .int (o_fields_f ((10 : Int32)).toNatClampNeg)), (2, .int (o_fields_f ((9 : Int32)).toNatClampNeg)), (0, .ref o), (1, .int p0)]) hx hb dX7_putMemory_124 hl (by decide) rfl (fun ls hl => ?_)
        refine lv_aload_n hx hb dX7_putMemory_126 rfl (lv_at hl 7 rfl) ?_
        refine lv_bipush (v := (64 : Int32)) hx hb dX7_putMemory_127 (by decide) ?_
        refine lv_iload hx hb dX7_putMemory_129 (lv_at hl 1 rfl) ?_
        refine lv_imul hx hb dX7_putMemory_131 ?_
        refine lv_bipush (v := (8 : Int32)) hx hb dX7_putMemory_132 (by decide) ?_
        refine lv_iload_n hx hb dX7_putMemory_134 rfl (lv_at hl 8 rfl) ?_
        refine lv_imul hx hb dX7_putMemory_135 ?_
        refine lv_iadd hx hb dX7_putMemory_136 ?_
        refine lv_iload hx hb dX7_putMemory_137 (lv_at hl 0 rfl) ?_
        have J23 : ∀ (x22 : Int32) (ls : Array Slot) (H : Heap) (locs : List Loc), f_X7_putMemory_J23 o_tried o_fields_f o_trial_f p0 x3 x12 x18 x22 = (o_tried_o, o_trial_f_o) → lv_has ls 9 [(8, .int x18), (7, .int x12), (6, .int x3), (5, .int (o_fields_f ((12 : Int32)).toNatClampNeg)), (4, .int (o_fields_f ((11 : Int32)).toNatClampNeg)), (3, .int (o_fields_f ((10 : Int32)).toNatClampNeg)), (2, .int (o_fields_f ((9 : Int32)).toNatClampNeg)), (0, .ref o), (1, .int p0)] → va_P D vwCl [(o, .inr (6, [.int o_thrown, .int (115 : Int32), .ref o_ops, .ref o_sizes, .ref o_patterns, .ref o_leads, .ref o_codes, .ref o_tells, .ref o_numbers, .ref o_fields, .ref o_found, .long o_number, .long o_foundNumber, .ref o_bytes, .ref o_trial, .ref o_fed, .int o_length, .int o_tried, .int o_given, .int o_at, .int o_pfx, .int o_pfd, .int o_short0])), (o_fields, .inl (cI, 13, .inl o_fields_f)), (o_trial, .inl (cI, 20, .inl o_trial_f))] H → va_D A [(o, .inr (6, [.int o_thrown, .int (115 : Int32), .ref o_ops, .ref o_sizes, .ref o_patterns, .ref o_leads, .ref o_codes, .ref o_tells, .ref o_numbers, .ref o_fields, .ref o_found, .long o_number, .long o_foundNumber, .ref o_bytes, .ref o_trial, .ref o_fed, .int o_length, .int o_tried, .int o_given, .int o_at, .int o_pfx, .int o_pfd, .int o_short0])), (o_fields, .inl (cI, 13, .inl o_fields_f)), (o_trial, .inl (cI, 20, .inl o_trial_f))] → va_S A s.heap H locs → W p l e (qr 2 45) s m args below meth c H locs 0 0 Z (F0 m 160 ls [.int x22, .int (((64 : Int32) * x12) + ((8 : Int32) * p0)), .ref o]) := by
          intro x22 ls H locs E hl hP hD hS
          rw [f_X7_putMemory_J23] at E
          refine lv_iadd hx hb dX7_putMemory_160 ?_
          obtain ⟨y24, y25, q26⟩ : ∃ y24 y25, (f_X7_put o_tried o_trial_f ((((64 : Int32) * x12) + ((8 : Int32) * p0)) + x22)) = (y24, y25) := ⟨_, _, rfl⟩
          rw [q26] at E
          dsimp only at E
          refine qw_callV (As := [.int ((((64 : Int32) * x12) + ((8 : Int32) * p0)) + x22)]) (rest := []) (ws' := [(o, .inr (6, [.int o_thrown, .int (115 : Int32), .ref o_ops, .ref o_sizes, .ref o_patterns, .ref o_leads, .ref o_codes, .ref o_tells, .ref o_numbers, .ref o_fields, .ref o_found, .long o_number, .long o_foundNumber, .ref o_bytes, .ref o_trial, .ref o_fed, .int o_length, .int y24, .int o_given, .int o_at, .int o_pfx, .int o_pfd, .int o_short0])), (o_fields, .inl (cI, 13, .inl o_fields_f)), (o_trial, .inl (cI, 20, .inl y25))]) (st1 := []) ⟨hx, hb, hml, hown, hts⟩ (c_X7_put l D cI tT o o_ops o_sizes o_patterns o_leads o_codes o_tells o_numbers o_fields o_found o_bytes o_trial o_fed o_thrown o_number o_foundNumber o_length o_tried o_given o_at o_pfx o_pfd o_short0 o_trial_f ((((64 : Int32) * x12) + ((8 : Int32) * p0)) + x22) (qv_w (⟨hv_o_tried.1, hv_o_tried.2⟩ : qv (0) (4) o_tried) (by decide) (by decide) : qv (0) (19) o_tried) y24 y25 q26) (cwV 1 hts gX7_putMemory_X7_put rfl rfl rfl (by decide +kernel) ⟨Nat.le_of_ble_eq_true rfl, Nat.le_of_ble_eq_true rfl⟩) hXg hK hP hD hS hA hXs [0, 2] rfl rfl  rfl rfl rfl rfl rfl rfl hl.1 rfl (Nat.le_of_ble_eq_true rfl) rfl ⟨Nat.zero_le _, Nat.zero_le _⟩ dX7_putMemory_161 (fun H locs hP hD hS => ?_)
          refine lv_iload hx hb dX7_putMemory_164 (lv_at hl 0 rfl) ?_
          have J44 : ∀ (x42 : Int32) (hv_x42 : qv (1) (6) x42) (x43 : (Nat → Int32)) (ls : Array Slot) (H : Heap) (locs : List Loc), f_X7_putMemory_J44 o_fields_f x3 x12 x42 x43 = (o_tried_o, o_trial_f_o) → lv_has ls 9 [(8, .int x18), (7, .int x12), (6, .int x3), (5, .int (o_fields_f ((12 : Int32)).toNatClampNeg)), (4, .int (o_fields_f ((11 : Int32)).toNatClampNeg)), (3, .int (o_fields_f ((10 : Int32)).toNatClampNeg)), (2, .int (o_fields_f ((9 : Int32)).toNatClampNeg)), (0, .ref o), (1, .int p0)] → va_P D vwCl [(o, .inr (6, [.int o_thrown, .int (115 : Int32), .ref o_ops, .ref o_sizes, .ref o_patterns, .ref o_leads, .ref o_codes, .ref o_tells, .ref o_numbers, .ref o_fields, .ref o_found, .long o_number, .long o_foundNumber, .ref o_bytes, .ref o_trial, .ref o_fed, .int o_length, .int x42, .int o_given, .int o_at, .int o_pfx, .int o_pfd, .int o_short0])), (o_fields, .inl (cI, 13, .inl o_fields_f)), (o_trial, .inl (cI, 20, .inl x43))] H → va_D A [(o, .inr (6, [.int o_thrown, .int (115 : Int32), .ref o_ops, .ref o_sizes, .ref o_patterns, .ref o_leads, .ref o_codes, .ref o_tells, .ref o_numbers, .ref o_fields, .ref o_found, .long o_number, .long o_foundNumber, .ref o_bytes, .ref o_trial, .ref o_fed, .int o_length, .int x42, .int o_given, .int o_at, .int o_pfx, .int o_pfd, .int o_short0])), (o_fields, .inl (cI, 13, .inl o_fields_f)), (o_trial, .inl (cI, 20, .inl x43))] → va_S A s.heap H locs → W p l e (qr 2 45) s m args below meth c H locs 0 0 Z (F0 m 238 ls []) := by
            intro x42 hv_x42 x43 ls H locs E hl hP hD hS
            rw [f_X7_putMemory_J44] at E
            refine lv_aload_n hx hb dX7_putMemory_238 rfl (lv_at hl 7 rfl) ?_
            refine lv_iload hx hb dX7_putMemory_239 (lv_at hl 3 rfl) ?_
            refine lv_i2l (v := ((o_fields_f ((12 : Int32)).toNatClampNeg)).toInt64) hx hb dX7_putMemory_241 rfl ?_
            refine lv_iload hx hb dX7_putMemory_242 (lv_at hl 2 rfl) ?_
            have J48 : ∀ (x47 : Int32) (hv_x47 : qv (0) (4) x47) (ls : Array Slot) (H : Heap) (locs : List Loc), f_X7_putMemory_J48 o_fields_f x42 x43 x47 = (o_tried_o, o_trial_f_o) → lv_has ls 9 [(8, .int x18), (7, .int x12), (6, .int x3), (5, .int (o_fields_f ((12 : Int32)).toNatClampNeg)), (4, .int (o_fields_f ((11 : Int32)).toNatClampNeg)), (3, .int (o_fields_f ((10 : Int32)).toNatClampNeg)), (2, .int (o_fields_f ((9 : Int32)).toNatClampNeg)), (0, .ref o), (1, .int p0)] → va_P D vwCl [(o, .inr (6, [.int o_thrown, .int (115 : Int32), .ref o_ops, .ref o_sizes, .ref o_patterns, .ref o_leads, .ref o_codes, .ref o_tells, .ref o_numbers, .ref o_fields, .ref o_found, .long o_number, .long o_foundNumber, .ref o_bytes, .ref o_trial, .ref o_fed, .int o_length, .int x42, .int o_given, .int o_at, .int o_pfx, .int o_pfd, .int o_short0])), (o_fields, .inl (cI, 13, .inl o_fields_f)), (o_trial, .inl (cI, 20, .inl x43))] H → va_D A [(o, .inr (6, [.int o_thrown, .int (115 : Int32), .ref o_ops, .ref o_sizes, .ref o_patterns, .ref o_leads, .ref o_codes, .ref o_tells, .ref o_numbers, .ref o_fields, .ref o_found, .long o_number, .long o_foundNumber, .ref o_bytes, .ref o_trial, .ref o_fed, .int o_length, .int x42, .int o_given, .int o_at, .int o_pfx, .int o_pfd, .int o_short0])), (o_fields, .inl (cI, 13, .inl o_fields_f)), (o_trial, .inl (cI, 20, .inl x43))] → va_S A s.heap H locs → W p l e (qr 2 45) s m args below meth c H locs 0 0 Z (F0 m 259 ls [.int x47, .long (((o_fields_f ((12 : Int32)).toNatClampNeg)).toInt64), .ref o]) := by
              intro x47 hv_x47 ls H locs E hl hP hD hS
              rw [f_X7_putMemory_J48] at E
              obtain ⟨y49, y50, q51⟩ : ∃ y49 y50, (f_X7_putAll x42 x43 (((o_fields_f ((12 : Int32)).toNatClampNeg)).toInt64) x47) = (y49, y50) := ⟨_, _, rfl⟩
              rw [q51] at E
              dsimp only at E
              refine qw_callV (As := [.long (((o_fields_f ((12 : Int32)).toNatClampNeg)).toInt64), .int x47]) (rest := []) (ws' := [(o, .inr (6, [.int o_thrown, .int (115 : Int32), .ref o_ops, .ref o_sizes, .ref o_patterns, .ref o_leads, .ref o_codes, .ref o_tells, .ref o_numbers, .ref o_fields, .ref o_found, .long o_number, .long o_foundNumber, .ref o_bytes, .ref o_trial, .ref o_fed, .int o_length, .int y49, .int o_given, .int o_at, .int o_pfx, .int o_pfd, .int o_short0])), (o_fields, .inl (cI, 13, .inl o_fields_f)), (o_trial, .inl (cI, 20, .inl y50))]) (st1 := []) ⟨hx, hb, hml, hown, hts⟩ (c_X7_putAll l D cI tT o o_ops o_sizes o_patterns o_leads o_codes o_tells o_numbers o_fields o_found o_bytes o_trial o_fed o_thrown o_number o_foundNumber o_length x42 o_given o_at o_pfx o_pfd o_short0 x43 (((o_fields_f ((12 : Int32)).toNatClampNeg)).toInt64) x47 (qv_w (⟨hv_x42.1, hv_x42.2⟩ : qv (1) (6) x42) (by decide) (by decide) : qv (0) (12) x42) (qv_w (⟨hv_x47.1, hv_x47.2⟩ : qv (0) (4) x47) (by decide) (by decide) : qv (0) (8) x47) y49 y50 q51) (cwV 2 hts gX7_putMemory_X7_putAll rfl rfl rfl (by decide +kernel) ⟨Nat.le_of_ble_eq_true rfl, Nat.le_of_ble_eq_true rfl⟩) hXg hK hP hD hS hA hXs [0, 2] rfl rfl  rfl rfl rfl rfl rfl rfl hl.1 rfl (Nat.le_of_ble_eq_true rfl) rfl ⟨Nat.zero_le _, Nat.zero_le _⟩ dX7_putMemory_259 (fun H locs hP hD hS => ?_)
              cases E
              rw [hZ]
              exact qw_vret hx hb hr hlk hP hD hS dX7_putMemory_262
            refine lv_if_ne (tgt := 253) hx hb dX7_putMemory_244 (by decide) (fun c45 => ?_) (fun c45 => ?_)
            · rw [if_neg c45] at E
              refine lv_iconst (v := (4 : Int32)) hx hb dX7_putMemory_253 (by decide) ?_
              refine lv_goto (tgt := 259) hx hb dX7_putMemory_254 (by decide) ?_
              exact J48 (4 : Int32) (qv_w (⟨by decide, by decide⟩ : qv (4) (4) (4 : Int32)) (by decide) (by decide)) ls _ _ E (lv_sub hl [0, 1, 2, 3, 4, 5, 6, 7, 8] rfl) hP hD hS
            · rw [if_pos c45] at E
              refine lv_iload hx hb dX7_putMemory_247 (lv_at hl 1 rfl) ?_
              refine lv_iconst (v := (2 : Int32)) hx hb dX7_putMemory_249 (by decide) ?_
              refine lv_icmp_ne (tgt := 257) hx hb dX7_putMemory_250 (by decide) (fun c46 => ?_) (fun c46 => ?_)
              · rw [if_neg c46] at E
                refine lv_iload hx hb dX7_putMemory_257 (lv_at hl 1 rfl) ?_
                exact J48 x12 (qv_w (⟨hv_x12.1, hv_x12.2⟩ : qv (0) (2) x12) (by decide) (by decide)) ls _ _ E (lv_sub hl [0, 1, 2, 3, 4, 5, 6, 7, 8] rfl) hP hD hS
              · rw [if_pos c46] at E
                refine lv_iconst (v := (4 : Int32)) hx hb dX7_putMemory_253 (by decide) ?_
                refine lv_goto (tgt := 259) hx hb dX7_putMemory_254 (by decide) ?_
                exact J48 (4 : Int32) (qv_w (⟨by decide, by decide⟩ : qv (4) (4) (4 : Int32)) (by decide) (by decide)) ls _ _ E (lv_sub hl [0, 1, 2, 3, 4, 5, 6, 7, 8] rfl) hP hD hS
          refine lv_if_eq (tgt := 238) hx hb dX7_putMemory_166 (by decide) (fun c27 => ?_) (fun c27 => ?_)
          · rw [if_pos c27] at E
            exact J44 y24 (qv_w (⟨(post_X7_put (⟨hv_o_tried.1, hv_o_tried.2⟩ : qv (0) (4) o_tried) q26 (by decide) (by decide) : qv (1) (5) y24).1, (post_X7_put (⟨hv_o_tried.1, hv_o_tried.2⟩ : qv (0) (4) o_tried) q26 (by decide) (by decide) : qv (1) (5) y24).2⟩ : qv (1) (5) y24) (by decide) (by decide)) y25 ls _ _ E (lv_sub hl [0, 1, 2, 3, 4, 5, 6, 7, 8] rfl) hP hD hS
          · rw [if_neg c27] at E
            refine lv_aload_n hx hb dX7_putMemory_169 rfl (lv_at hl 7 rfl) ?_
            refine lv_bipush (v := (64 : Int32)) hx hb dX7_putMemory_170 (by decide) ?_
            refine lv_iload hx hb dX7_putMemory_172 (lv_at hl 4 rfl) ?_
            refine lv_bipush (v := (8 : Int32)) hx hb dX7_putMemory_174 (by decide) ?_
            have J32 : ∀ (x31 : Int32) (hv_x31 : qv (0) (3) x31) (ls : Array Slot) (H : Heap) (locs : List Loc), f_X7_putMemory_J32 o_fields_f x3 x12 y24 y25 x31 = (o_tried_o, o_trial_f_o) → lv_has ls 9 [(8, .int x18), (7, .int x12), (6, .int x3), (5, .int (o_fields_f ((12 : Int32)).toNatClampNeg)), (4, .int (o_fields_f ((11 : Int32)).toNatClampNeg)), (3, .int (o_fields_f ((10 : Int32)).toNatClampNeg)), (2, .int (o_fields_f ((9 : Int32)).toNatClampNeg)), (0, .ref o), (1, .int p0)] → va_P D vwCl [(o, .inr (6, [.int o_thrown, .int (115 : Int32), .ref o_ops, .ref o_sizes, .ref o_patterns, .ref o_leads, .ref o_codes, .ref o_tells, .ref o_numbers, .ref o_fields, .ref o_found, .long o_number, .long o_foundNumber, .ref o_bytes, .ref o_trial, .ref o_fed, .int o_length, .int y24, .int o_given, .int o_at, .int o_pfx, .int o_pfd, .int o_short0])), (o_fields, .inl (cI, 13, .inl o_fields_f)), (o_trial, .inl (cI, 20, .inl y25))] H → va_D A [(o, .inr (6, [.int o_thrown, .int (115 : Int32), .ref o_ops, .ref o_sizes, .ref o_patterns, .ref o_leads, .ref o_codes, .ref o_tells, .ref o_numbers, .ref o_fields, .ref o_found, .long o_number, .long o_foundNumber, .ref o_bytes, .ref o_trial, .ref o_fed, .int o_length, .int y24, .int o_given, .int o_at, .int o_pfx, .int o_pfd, .int o_short0])), (o_fields, .inl (cI, 13, .inl o_fields_f)), (o_trial, .inl (cI, 20, .inl y25))] → va_S A s.heap H locs → W p l e (qr 2 45) s m args below meth c H locs 0 0 Z (F0 m 204 ls [.int x31, .int (64 : Int32), .ref o]) := by
              intro x31 hv_x31 ls H locs E hl hP hD hS
              rw [f_X7_putMemory_J32] at E
              refine lv_imul hx hb dX7_putMemory_204 ?_
              refine lv_bipush (v := (8 : Int32)) hx hb dX7_putMemory_205 (by decide) ?_
              refine lv_iload_n hx hb dX7_putMemory_207 rfl (lv_at hl 5 rfl) ?_
              have J35 : ∀ (x34 : Int32) (ls : Array Slot) (H : Heap) (locs : List Loc), f_X7_putMemory_J35 o_fields_f x3 x12 y24 y25 x31 x34 = (o_tried_o, o_trial_f_o) → lv_has ls 9 [(8, .int x18), (7, .int x12), (6, .int x3), (5, .int (o_fields_f ((12 : Int32)).toNatClampNeg)), (4, .int (o_fields_f ((11 : Int32)).toNatClampNeg)), (3, .int (o_fields_f ((10 : Int32)).toNatClampNeg)), (2, .int (o_fields_f ((9 : Int32)).toNatClampNeg)), (0, .ref o), (1, .int p0)] → va_P D vwCl [(o, .inr (6, [.int o_thrown, .int (115 : Int32), .ref o_ops, .ref o_sizes, .ref o_patterns, .ref o_leads, .ref o_codes, .ref o_tells, .ref o_numbers, .ref o_fields, .ref o_found, .long o_number, .long o_foundNumber, .ref o_bytes, .ref o_trial, .ref o_fed, .int o_length, .int y24, .int o_given, .int o_at, .int o_pfx, .int o_pfd, .int o_short0])), (o_fields, .inl (cI, 13, .inl o_fields_f)), (o_trial, .inl (cI, 20, .inl y25))] H → va_D A [(o, .inr (6, [.int o_thrown, .int (115 : Int32), .ref o_ops, .ref o_sizes, .ref o_patterns, .ref o_leads, .ref o_codes, .ref o_tells, .ref o_numbers, .ref o_fields, .ref o_found, .long o_number, .long o_foundNumber, .ref o_bytes, .ref o_trial, .ref o_fed, .int o_length, .int y24, .int o_given, .int o_at, .int o_pfx, .int o_pfd, .int o_short0])), (o_fields, .inl (cI, 13, .inl o_fields_f)), (o_trial, .inl (cI, 20, .inl y25))] → va_S A s.heap H locs → W p l e (qr 2 45) s m args below meth c H locs 0 0 Z (F0 m 219 ls [.int x34, .int (8 : Int32), .int ((64 : Int32) * x31), .ref o]) := by
                intro x34 ls H locs E hl hP hD hS
                rw [f_X7_putMemory_J35] at E
                refine lv_imul hx hb dX7_putMemory_219 ?_
                refine lv_iadd hx hb dX7_putMemory_220 ?_
                refine lv_iload_n hx hb dX7_putMemory_221 rfl (lv_at hl 6 rfl) ?_
                refine lv_iconst (v := (-1 : Int32)) hx hb dX7_putMemory_222 (by decide) ?_
                have J38 : ∀ (x37 : Int32) (ls : Array Slot) (H : Heap) (locs : List Loc), f_X7_putMemory_J38 o_fields_f x3 x12 y24 y25 x31 x34 x37 = (o_tried_o, o_trial_f_o) → lv_has ls 9 [(8, .int x18), (7, .int x12), (6, .int x3), (5, .int (o_fields_f ((12 : Int32)).toNatClampNeg)), (4, .int (o_fields_f ((11 : Int32)).toNatClampNeg)), (3, .int (o_fields_f ((10 : Int32)).toNatClampNeg)), (2, .int (o_fields_f ((9 : Int32)).toNatClampNeg)), (0, .ref o), (1, .int p0)] → va_P D vwCl [(o, .inr (6, [.int o_thrown, .int (115 : Int32), .ref o_ops, .ref o_sizes, .ref o_patterns, .ref o_leads, .ref o_codes, .ref o_tells, .ref o_numbers, .ref o_fields, .ref o_found, .long o_number, .long o_foundNumber, .ref o_bytes, .ref o_trial, .ref o_fed, .int o_length, .int y24, .int o_given, .int o_at, .int o_pfx, .int o_pfd, .int o_short0])), (o_fields, .inl (cI, 13, .inl o_fields_f)), (o_trial, .inl (cI, 20, .inl y25))] H → va_D A [(o, .inr (6, [.int o_thrown, .int (115 : Int32), .ref o_ops, .ref o_sizes, .ref o_patterns, .ref o_leads, .ref o_codes, .ref o_tells, .ref o_numbers, .ref o_fields, .ref o_found, .long o_number, .long o_foundNumber, .ref o_bytes, .ref o_trial, .ref o_fed, .int o_length, .int y24, .int o_given, .int o_at, .int o_pfx, .int o_pfd, .int o_short0])), (o_fields, .inl (cI, 13, .inl o_fields_f)), (o_trial, .inl (cI, 20, .inl y25))] → va_S A s.heap H locs → W p l e (qr 2 45) s m args below meth c H locs 0 0 Z (F0 m 234 ls [.int x37, .int (((64 : Int32) * x31) + ((8 : Int32) * x34)), .ref o]) := by
                  intro x37 ls H locs E hl hP hD hS
                  rw [f_X7_putMemory_J38] at E
                  refine lv_iadd hx hb dX7_putMemory_234 ?_
                  obtain ⟨y39, y40, q41⟩ : ∃ y39 y40, (f_X7_put y24 y25 ((((64 : Int32) * x31) + ((8 : Int32) * x34)) + x37)) = (y39, y40) := ⟨_, _, rfl⟩
                  rw [q41] at E
                  dsimp only at E
                  refine qw_callV (As := [.int ((((64 : Int32) * x31) + ((8 : Int32) * x34)) + x37)]) (rest := []) (ws' := [(o, .inr (6, [.int o_thrown, .int (115 : Int32), .ref o_ops, .ref o_sizes, .ref o_patterns, .ref o_leads, .ref o_codes, .ref o_tells, .ref o_numbers, .ref o_fields, .ref o_found, .long o_number, .long o_foundNumber, .ref o_bytes, .ref o_trial, .ref o_fed, .int o_length, .int y39, .int o_given, .int o_at, .int o_pfx, .int o_pfd, .int o_short0])), (o_fields, .inl (cI, 13, .inl o_fields_f)), (o_trial, .inl (cI, 20, .inl y40))]) (st1 := []) ⟨hx, hb, hml, hown, hts⟩ (c_X7_put l D cI tT o o_ops o_sizes o_patterns o_leads o_codes o_tells o_numbers o_fields o_found o_bytes o_trial o_fed o_thrown o_number o_foundNumber o_length y24 o_given o_at o_pfx o_pfd o_short0 y25 ((((64 : Int32) * x31) + ((8 : Int32) * x34)) + x37) (qv_w (⟨(post_X7_put (⟨hv_o_tried.1, hv_o_tried.2⟩ : qv (0) (4) o_tried) q26 (by decide) (by decide) : qv (1) (5) y24).1, (post_X7_put (⟨hv_o_tried.1, hv_o_tried.2⟩ : qv (0) (4) o_tried) q26 (by decide) (by decide) : qv (1) (5) y24).2⟩ : qv (1) (5) y24) (by decide) (by decide) : qv (0) (19) y24) y39 y40 q41) (cwV 1 hts gX7_putMemory_X7_put rfl rfl rfl (by decide +kernel) ⟨Nat.le_of_ble_eq_true rfl, Nat.le_of_ble_eq_true rfl⟩) hXg hK hP hD hS hA hXs [0, 2] rfl rfl  rfl rfl rfl rfl rfl rfl hl.1 rfl (Nat.le_of_ble_eq_true rfl) rfl ⟨Nat.zero_le _, Nat.zero_le _⟩ dX7_putMemory_235 (fun H locs hP hD hS => ?_)
                  exact J44 y39 (qv_w (⟨(post_X7_put (⟨(post_X7_put (⟨hv_o_tried.1, hv_o_tried.2⟩ : qv (0) (4) o_tried) q26 (by decide) (by decide) : qv (1) (5) y24).1, (post_X7_put (⟨hv_o_tried.1, hv_o_tried.2⟩ : qv (0) (4) o_tried) q26 (by decide) (by decide) : qv (1) (5) y24).2⟩ : qv (1) (5) y24) q41 (by decide) (by decide) : qv (2) (6) y39).1, (post_X7_put (⟨(post_X7_put (⟨hv_o_tried.1, hv_o_tried.2⟩ : qv (0) (4) o_tried) q26 (by decide) (by decide) : qv (1) (5) y24).1, (post_X7_put (⟨hv_o_tried.1, hv_o_tried.2⟩ : qv (0) (4) o_tried) q26 (by decide) (by decide) : qv (1) (5) y24).2⟩ : qv (1) (5) y24) q41 (by decide) (by decide) : qv (2) (6) y39).2⟩ : qv (2) (6) y39) (by decide) (by decide)) y40 ls _ _ E (lv_sub hl [0, 1, 2, 3, 4, 5, 6, 7, 8] rfl) hP hD hS
                refine lv_icmp_ne (tgt := 230) hx hb dX7_putMemory_223 (by decide) (fun c36 => ?_) (fun c36 => ?_)
                · rw [if_neg c36] at E
                  refine lv_iload_n hx hb dX7_putMemory_230 rfl (lv_at hl 6 rfl) ?_
                  refine lv_bipush (v := (7 : Int32)) hx hb dX7_putMemory_231 (by decide) ?_
                  refine lv_iand hx hb dX7_putMemory_233 ?_
                  exact J38 ((o_fields_f ((9 : Int32)).toNatClampNeg) &&& (7 : Int32)) ls _ _ E (lv_sub hl [0, 1, 2, 3, 4, 5, 6, 7, 8] rfl) hP hD hS
                · rw [if_pos c36] at E
                  refine lv_iconst (v := (5 : Int32)) hx hb dX7_putMemory_226 (by decide) ?_
                  refine lv_goto (tgt := 234) hx hb dX7_putMemory_227 (by decide) ?_
                  exact J38 (5 : Int32) ls _ _ E (lv_sub hl [0, 1, 2, 3, 4, 5, 6, 7, 8] rfl) hP hD hS
              refine lv_if_ge (tgt := 215) hx hb dX7_putMemory_208 (by decide) (fun c33 => ?_) (fun c33 => ?_)
              · rw [if_pos c33] at E
                refine lv_iload_n hx hb dX7_putMemory_215 rfl (lv_at hl 5 rfl) ?_
                refine lv_bipush (v := (7 : Int32)) hx hb dX7_putMemory_216 (by decide) ?_
                refine lv_iand hx hb dX7_putMemory_218 ?_
                exact J35 ((o_fields_f ((10 : Int32)).toNatClampNeg) &&& (7 : Int32)) ls _ _ E (lv_sub hl [0, 1, 2, 3, 4, 5, 6, 7, 8] rfl) hP hD hS
              · rw [if_neg c33] at E
                refine lv_iconst (v := (4 : Int32)) hx hb dX7_putMemory_211 (by decide) ?_
                refine lv_goto (tgt := 219) hx hb dX7_putMemory_212 (by decide) ?_
                exact J35 (4 : Int32) ls _ _ E (lv_sub hl [0, 1, 2, 3, 4, 5, 6, 7, 8] rfl) hP hD hS
            refine lv_icmp_ne (tgt := 183) hx hb dX7_putMemory_176 (by decide) (fun c28 => ?_) (fun c28 => ?_)
            · rw [if_neg c28] at E
              refine lv_iload hx hb dX7_putMemory_183 (lv_at hl 4 rfl) ?_
              refine lv_iconst (v := (4 : Int32)) hx hb dX7_putMemory_185 (by decide) ?_
              refine lv_icmp_ne (tgt := 193) hx hb dX7_putMemory_186 (by decide) (fun c29 => ?_) (fun c29 => ?_)
              · rw [if_neg c29] at E
                refine lv_iload hx hb dX7_putMemory_193 (lv_at hl 4 rfl) ?_
                refine lv_iconst (v := (2 : Int32)) hx hb dX7_putMemory_195 (by decide) ?_
                refine lv_icmp_ne (tgt := 203) hx hb dX7_putMemory_196 (by decide) (fun c30 => ?_) (fun c30 => ?_)
                · rw [if_neg c30] at E
                  refine lv_iconst (v := (0 : Int32)) hx hb dX7_putMemory_203 (by decide) ?_
                  exact J32 (0 : Int32) (qv_w (⟨by decide, by decide⟩ : qv (0) (0) (0 : Int32)) (by decide) (by decide)) ls _ _ E (lv_sub hl [0, 1, 2, 3, 4, 5, 6, 7, 8] rfl) hP hD hS
                · rw [if_pos c30] at E
                  refine lv_iconst (v := (1 : Int32)) hx hb dX7_putMemory_199 (by decide) ?_
                  refine lv_goto (tgt := 204) hx hb dX7_putMemory_200 (by decide) ?_
                  exact J32 (1 : Int32) (qv_w (⟨by decide, by decide⟩ : qv (1) (1) (1 : Int32)) (by decide) (by decide)) ls _ _ E (lv_sub hl [0, 1, 2, 3, 4, 5, 6, 7, 8] rfl) hP hD hS
              · rw [if_pos c29] at E
                refine lv_iconst (v := (2 : Int32)) hx hb dX7_putMemory_189 (by decide) ?_
                refine lv_goto (tgt := 204) hx hb dX7_putMemory_190 (by decide) ?_
                exact J32 (2 : Int32) (qv_w (⟨by decide, by decide⟩ : qv (2) (2) (2 : Int32)) (by decide) (by decide)) ls _ _ E (lv_sub hl [0, 1, 2, 3, 4, 5, 6, 7, 8] rfl) hP hD hS
            · rw [if_pos c28] at E
              refine lv_iconst (v := (3 : Int32)) hx hb dX7_putMemory_179 (by decide) ?_
              refine lv_goto (tgt := 204) hx hb dX7_putMemory_180 (by decide) ?_
              exact J32 (3 : Int32) (qv_w (⟨by decide, by decide⟩ : qv (3) (3) (3 : Int32)) (by decide) (by decide)) ls _ _ E (lv_sub hl [0, 1, 2, 3, 4, 5, 6, 7, 8] rfl) hP hD hS
        refine lv_if_eq (tgt := 146) hx hb dX7_putMemory_139 (by decide) (fun c20 => ?_) (fun c20 => ?_)
        · rw [if_pos c20] at E
          refine lv_iload_n hx hb dX7_putMemory_146 rfl (lv_at hl 6 rfl) ?_
          refine lv_bipush (v := (16 : Int32)) hx hb dX7_putMemory_147 (by decide) ?_
          refine lv_icmp_ne (tgt := 156) hx hb dX7_putMemory_149 (by decide) (fun c21 => ?_) (fun c21 => ?_)
          · rw [if_neg c21] at E
            refine lv_iload_n hx hb dX7_putMemory_156 rfl (lv_at hl 6 rfl) ?_
            refine lv_bipush (v := (7 : Int32)) hx hb dX7_putMemory_157 (by decide) ?_
            refine lv_iand hx hb dX7_putMemory_159 ?_
            exact J23 ((o_fields_f ((9 : Int32)).toNatClampNeg) &&& (7 : Int32)) ls _ _ E (lv_sub hl [0, 1, 2, 3, 4, 5, 6, 7, 8] rfl) hP hD hS
          · rw [if_pos c21] at E
            refine lv_iconst (v := (5 : Int32)) hx hb dX7_putMemory_152 (by decide) ?_
            refine lv_goto (tgt := 160) hx hb dX7_putMemory_153 (by decide) ?_
            exact J23 (5 : Int32) ls _ _ E (lv_sub hl [0, 1, 2, 3, 4, 5, 6, 7, 8] rfl) hP hD hS
        · rw [if_neg c20] at E
          refine lv_iconst (v := (4 : Int32)) hx hb dX7_putMemory_142 (by decide) ?_
          refine lv_goto (tgt := 160) hx hb dX7_putMemory_143 (by decide) ?_
          exact J23 (4 : Int32) ls _ _ E (lv_sub hl [0, 1, 2, 3, 4, 5, 6, 7, 8] rfl) hP hD hS
      refine lv_icmp_eq (tgt := 119) hx hb dX7_putMemory_98 (by decide) (fun c14 => ?_) (fun c14 => ?_)
      · rw [if_pos c14] at E
        refine lv_iconst (v := (1 : Int32)) hx hb dX7_putMemory_119 (by decide) ?_
        refine lv_goto (tgt := 124) hx hb dX7_putMemory_120 (by decide) ?_
        exact J19 (1 : Int32) (Or.inr rfl) (qv_w (⟨by decide, by decide⟩ : qv (1) (1) (1 : Int32)) (by decide) (by decide)) ls _ _ E (lv_sub hl [0, 1, 2, 3, 4, 5, 6, 7] rfl) hP hD hS
      · rw [if_neg c14] at E
        refine lv_iload_n hx hb dX7_putMemory_101 rfl (lv_at hl 4 rfl) ?_
        refine lv_if_ge (tgt := 119) hx hb dX7_putMemory_102 (by decide) (fun c15 => ?_) (fun c15 => ?_)
        · rw [if_pos c15] at E
          refine lv_iconst (v := (1 : Int32)) hx hb dX7_putMemory_119 (by decide) ?_
          refine lv_goto (tgt := 124) hx hb dX7_putMemory_120 (by decide) ?_
          exact J19 (1 : Int32) (Or.inr rfl) (qv_w (⟨by decide, by decide⟩ : qv (1) (1) (1 : Int32)) (by decide) (by decide)) ls _ _ E (lv_sub hl [0, 1, 2, 3, 4, 5, 6, 7] rfl) hP hD hS
        · rw [if_neg c15] at E
          refine lv_iload_n hx hb dX7_putMemory_105 rfl (lv_at hl 5 rfl) ?_
          refine lv_bipush (v := (16 : Int32)) hx hb dX7_putMemory_106 (by decide) ?_
          refine lv_icmp_ge (tgt := 123) hx hb dX7_putMemory_108 (by decide) (fun c16 => ?_) (fun c16 => ?_)
          · rw [if_pos c16] at E
            refine lv_iconst (v := (0 : Int32)) hx hb dX7_putMemory_123 (by decide) ?_
            exact J19 (0 : Int32) (Or.inl rfl) (qv_w (⟨by decide, by decide⟩ : qv (0) (0) (0 : Int32)) (by decide) (by decide)) ls _ _ E (lv_sub hl [0, 1, 2, 3, 4, 5, 6, 7] rfl) hP hD hS
          · rw [if_neg c16] at E
            refine lv_iload_n hx hb dX7_putMemory_111 rfl (lv_at hl 5 rfl) ?_
            refine lv_bipush (v := (7 : Int32)) hx hb dX7_putMemory_112 (by decide) ?_
            refine lv_iand hx hb dX7_putMemory_114 ?_
            refine lv_iconst (v := (4 : Int32)) hx hb dX7_putMemory_115 (by decide) ?_
            refine lv_icmp_ne (tgt := 123) hx hb dX7_putMemory_116 (by decide) (fun c17 => ?_) (fun c17 => ?_)
            · rw [if_neg c17] at E
              refine lv_iconst (v := (0 : Int32)) hx hb dX7_putMemory_123 (by decide) ?_
              exact J19 (0 : Int32) (Or.inl rfl) (qv_w (⟨by decide, by decide⟩ : qv (0) (0) (0 : Int32)) (by decide) (by decide)) ls _ _ E (lv_sub hl [0, 1, 2, 3, 4, 5, 6, 7] rfl) hP hD hS
            · rw [if_pos c17] at E
              refine lv_iconst (v := (1 : Int32)) hx hb dX7_putMemory_119 (by decide) ?_
              refine lv_goto (tgt := 124) hx hb dX7_putMemory_120 (by decide) ?_
              exact J19 (1 : Int32) (Or.inr rfl) (qv_w (⟨by decide, by decide⟩ : qv (1) (1) (1 : Int32)) (by decide) (by decide)) ls _ _ E (lv_sub hl [0, 1, 2, 3, 4, 5, 6, 7] rfl) hP hD hS
    refine lv_if_ne (tgt := 70) hx hb dX7_putMemory_54 (by decide) (fun c5 => ?_) (fun c5 => ?_)
    · rw [if_neg c5] at E
      refine lv_iconst (v := (0 : Int32)) hx hb dX7_putMemory_70 (by decide) ?_
      refine lv_goto (tgt := 94) hx hb dX7_putMemory_71 (by decide) ?_
      exact J13 (0 : Int32) (qv_w (⟨by decide, by decide⟩ : qv (0) (0) (0 : Int32)) (by decide) (by decide)) ls _ _ E (lv_sub hl [0, 1, 2, 3, 4, 5, 6] rfl) hP hD hS
    · rw [if_pos c5] at E
      refine lv_iload hx hb dX7_putMemory_57 (lv_at hl 1 rfl) ?_
      refine lv_if_ne (tgt := 74) hx hb dX7_putMemory_59 (by decide) (fun c6 => ?_) (fun c6 => ?_)
      · rw [if_neg c6] at E
        refine lv_iload hx hb dX7_putMemory_74 (lv_at hl 1 rfl) ?_
        refine lv_bipush (v := (-128 : Int32)) hx hb dX7_putMemory_76 (by decide) ?_
        refine lv_icmp_lt (tgt := 93) hx hb dX7_putMemory_78 (by decide) (fun c7 => ?_) (fun c7 => ?_)
        · rw [if_pos c7] at E
          refine lv_iconst (v := (2 : Int32)) hx hb dX7_putMemory_93 (by decide) ?_
          exact J13 (2 : Int32) (qv_w (⟨by decide, by decide⟩ : qv (2) (2) (2 : Int32)) (by decide) (by decide)) ls _ _ E (lv_sub hl [0, 1, 2, 3, 4, 5, 6] rfl) hP hD hS
        · rw [if_neg c7] at E
          refine lv_iload hx hb dX7_putMemory_81 (lv_at hl 1 rfl) ?_
          refine lv_sipush (v := (128 : Int32)) hx hb dX7_putMemory_83 (by decide) ?_
          refine lv_icmp_ge (tgt := 93) hx hb dX7_putMemory_86 (by decide) (fun c8 => ?_) (fun c8 => ?_)
          · rw [if_pos c8] at E
            refine lv_iconst (v := (2 : Int32)) hx hb dX7_putMemory_93 (by decide) ?_
            exact J13 (2 : Int32) (qv_w (⟨by decide, by decide⟩ : qv (2) (2) (2 : Int32)) (by decide) (by decide)) ls _ _ E (lv_sub hl [0, 1, 2, 3, 4, 5, 6] rfl) hP hD hS
          · rw [if_neg c8] at E
            refine lv_iconst (v := (1 : Int32)) hx hb dX7_putMemory_89 (by decide) ?_
            refine lv_goto (tgt := 94) hx hb dX7_putMemory_90 (by decide) ?_
            exact J13 (1 : Int32) (qv_w (⟨by decide, by decide⟩ : qv (1) (1) (1 : Int32)) (by decide) (by decide)) ls _ _ E (lv_sub hl [0, 1, 2, 3, 4, 5, 6] rfl) hP hD hS
      · rw [if_pos c6] at E
        refine lv_iload_n hx hb dX7_putMemory_62 rfl (lv_at hl 4 rfl) ?_
        refine lv_bipush (v := (7 : Int32)) hx hb dX7_putMemory_63 (by decide) ?_
        refine lv_iand hx hb dX7_putMemory_65 ?_
        refine lv_iconst (v := (5 : Int32)) hx hb dX7_putMemory_66 (by decide) ?_
        refine lv_icmp_eq (tgt := 74) hx hb dX7_putMemory_67 (by decide) (fun c9 => ?_) (fun c9 => ?_)
        · rw [if_pos c9] at E
          refine lv_iload hx hb dX7_putMemory_74 (lv_at hl 1 rfl) ?_
          refine lv_bipush (v := (-128 : Int32)) hx hb dX7_putMemory_76 (by decide) ?_
          refine lv_icmp_lt (tgt := 93) hx hb dX7_putMemory_78 (by decide) (fun c10 => ?_) (fun c10 => ?_)
          · rw [if_pos c10] at E
            refine lv_iconst (v := (2 : Int32)) hx hb dX7_putMemory_93 (by decide) ?_
            exact J13 (2 : Int32) (qv_w (⟨by decide, by decide⟩ : qv (2) (2) (2 : Int32)) (by decide) (by decide)) ls _ _ E (lv_sub hl [0, 1, 2, 3, 4, 5, 6] rfl) hP hD hS
          · rw [if_neg c10] at E
            refine lv_iload hx hb dX7_putMemory_81 (lv_at hl 1 rfl) ?_
            refine lv_sipush (v := (128 : Int32)) hx hb dX7_putMemory_83 (by decide) ?_
            refine lv_icmp_ge (tgt := 93) hx hb dX7_putMemory_86 (by decide) (fun c11 => ?_) (fun c11 => ?_)
            · rw [if_pos c11] at E
              refine lv_iconst (v := (2 : Int32)) hx hb dX7_putMemory_93 (by decide) ?_
              exact J13 (2 : Int32) (qv_w (⟨by decide, by decide⟩ : qv (2) (2) (2 : Int32)) (by decide) (by decide)) ls _ _ E (lv_sub hl [0, 1, 2, 3, 4, 5, 6] rfl) hP hD hS
            · rw [if_neg c11] at E
              refine lv_iconst (v := (1 : Int32)) hx hb dX7_putMemory_89 (by decide) ?_
              refine lv_goto (tgt := 94) hx hb dX7_putMemory_90 (by decide) ?_
              exact J13 (1 : Int32) (qv_w (⟨by decide, by decide⟩ : qv (1) (1) (1 : Int32)) (by decide) (by decide)) ls _ _ E (lv_sub hl [0, 1, 2, 3, 4, 5, 6] rfl) hP hD hS
        · rw [if_neg c9] at E
          refine lv_iconst (v := (0 : Int32)) hx hb dX7_putMemory_70 (by decide) ?_
          refine lv_goto (tgt := 94) hx hb dX7_putMemory_71 (by decide) ?_
          exact J13 (0 : Int32) (qv_w (⟨by decide, by decide⟩ : qv (0) (0) (0 : Int32)) (by decide) (by decide)) ls _ _ E (lv_sub hl [0, 1, 2, 3, 4, 5, 6] rfl) hP hD hS
  refine lv_icmp_eq (tgt := 45) hx hb dX7_putMemory_36 (by decide) (fun c1 => ?_) (fun c1 => ?_)
  · rw [if_pos c1] at E
    refine lv_iconst (v := (1 : Int32)) hx hb dX7_putMemory_45 (by decide) ?_
    refine lv_goto (tgt := 50) hx hb dX7_putMemory_46 (by decide) ?_
    exact J4 (1 : Int32) (Or.inr rfl) (qv_w (⟨by decide, by decide⟩ : qv (1) (1) (1 : Int32)) (by decide) (by decide)) ls _ _ E (lv_sub hl [0, 1, 2, 3, 4, 5] rfl) hP hD hS
  · rw [if_neg c1] at E
    refine lv_iload_n hx hb dX7_putMemory_39 rfl (lv_at hl 3 rfl) ?_
    refine lv_bipush (v := (16 : Int32)) hx hb dX7_putMemory_40 (by decide) ?_
    refine lv_icmp_ne (tgt := 49) hx hb dX7_putMemory_42 (by decide) (fun c2 => ?_) (fun c2 => ?_)
    · rw [if_neg c2] at E
      refine lv_iconst (v := (0 : Int32)) hx hb dX7_putMemory_49 (by decide) ?_
      exact J4 (0 : Int32) (Or.inl rfl) (qv_w (⟨by decide, by decide⟩ : qv (0) (0) (0 : Int32)) (by decide) (by decide)) ls _ _ E (lv_sub hl [0, 1, 2, 3, 4, 5] rfl) hP hD hS
    · rw [if_pos c2] at E
      refine lv_iconst (v := (1 : Int32)) hx hb dX7_putMemory_45 (by decide) ?_
      refine lv_goto (tgt := 50) hx hb dX7_putMemory_46 (by decide) ?_
      exact J4 (1 : Int32) (Or.inr rfl) (qv_w (⟨by decide, by decide⟩ : qv (1) (1) (1 : Int32)) (by decide) (by decide)) ls _ _ E (lv_sub hl [0, 1, 2, 3, 4, 5] rfl) hP hD hS
set_option maxHeartbeats 4000000 in
set_option maxRecDepth 100000 in
theorem post_X7_putMemory {o_tried : Int32} {o_fields_f : (Nat → Int32)} {o_trial_f : (Nat → Int32)} {p0 : Int32} {o_tried_o : Int32} {o_trial_f_o : (Nat → Int32)} (hv_o_tried : qv (0) (4) o_tried) (hq : f_X7_putMemory o_tried o_fields_f o_trial_f p0 = (o_tried_o, o_trial_f_o)) : qv (0) (10) o_tried_o := by
  have E := hq
  rw [f_X7_putMemory] at E
  have J4 : ∀ (x3 : Int32) (hv_x3 : qv (0) (1) x3), f_X7_putMemory_J4 o_tried o_fields_f o_trial_f p0 x3 = (o_tried_o, o_trial_f_o) → qv (0) (10) o_tried_o := by
    intro x3 hv_x3 E
    rw [f_X7_putMemory_J4] at E
    have J13 : ∀ (x12 : Int32) (hv_x12 : qv (0) (2) x12), f_X7_putMemory_J13 o_tried o_fields_f o_trial_f p0 x3 x12 = (o_tried_o, o_trial_f_o) → qv (0) (10) o_tried_o := by
      intro x12 hv_x12 E
      rw [f_X7_putMemory_J13] at E
      have J19 : ∀ (x18 : Int32) (hv_x18 : qv (0) (1) x18), f_X7_putMemory_J19 o_tried o_fields_f o_trial_f p0 x3 x12 x18 = (o_tried_o, o_trial_f_o) → qv (0) (10) o_tried_o := by
        intro x18 hv_x18 E
        rw [f_X7_putMemory_J19] at E
        have J23 : ∀ (x22 : Int32), f_X7_putMemory_J23 o_tried o_fields_f o_trial_f p0 x3 x12 x18 x22 = (o_tried_o, o_trial_f_o) → qv (0) (10) o_tried_o := by
          intro x22 E
          rw [f_X7_putMemory_J23] at E
          obtain ⟨y24, y25, q26⟩ : ∃ y24 y25, (f_X7_put o_tried o_trial_f ((((64 : Int32) * x12) + ((8 : Int32) * p0)) + x22)) = (y24, y25) := ⟨_, _, rfl⟩
          rw [q26] at E
          dsimp only at E
          have J44 : ∀ (x42 : Int32) (hv_x42 : qv (1) (6) x42) (x43 : (Nat → Int32)), f_X7_putMemory_J44 o_fields_f x3 x12 x42 x43 = (o_tried_o, o_trial_f_o) → qv (0) (10) o_tried_o := by
            intro x42 hv_x42 x43 E
            rw [f_X7_putMemory_J44] at E
            have J48 : ∀ (x47 : Int32) (hv_x47 : qv (0) (4) x47), f_X7_putMemory_J48 o_fields_f x42 x43 x47 = (o_tried_o, o_trial_f_o) → qv (0) (10) o_tried_o := by
              intro x47 hv_x47 E
              rw [f_X7_putMemory_J48] at E
              obtain ⟨y49, y50, q51⟩ : ∃ y49 y50, (f_X7_putAll x42 x43 (((o_fields_f ((12 : Int32)).toNatClampNeg)).toInt64) x47) = (y49, y50) := ⟨_, _, rfl⟩
              rw [q51] at E
              dsimp only at E
              have F0 := (qv_w (⟨(post_X7_putAll (⟨hv_x42.1, hv_x42.2⟩ : qv (1) (6) x42) (⟨hv_x47.1, hv_x47.2⟩ : qv (0) (4) x47) q51 (by decide) (by decide) : qv (1) (10) y49).1, (post_X7_putAll (⟨hv_x42.1, hv_x42.2⟩ : qv (1) (6) x42) (⟨hv_x47.1, hv_x47.2⟩ : qv (0) (4) x47) q51 (by decide) (by decide) : qv (1) (10) y49).2⟩ : qv (1) (10) y49) (by decide) (by decide) : qv (0) (10) y49)
              cases E
              exact F0
            by_cases c45 : x3 = 0
            · rw [if_pos c45] at E
              by_cases c46 : x12 = (2 : Int32)
              · rw [if_pos c46] at E
                exact J48 (4 : Int32) (qv_w (⟨by decide, by decide⟩ : qv (4) (4) (4 : Int32)) (by decide) (by decide)) E
              · rw [if_neg c46] at E
                exact J48 x12 (qv_w (⟨hv_x12.1, hv_x12.2⟩ : qv (0) (2) x12) (by decide) (by decide)) E
            · rw [if_neg c45] at E
              exact J48 (4 : Int32) (qv_w (⟨by decide, by decide⟩ : qv (4) (4) (4 : Int32)) (by decide) (by decide)) E
          by_cases c27 : x18 = 0
          · rw [if_pos c27] at E
            exact J44 y24 (qv_w (⟨(post_X7_put (⟨hv_o_tried.1, hv_o_tried.2⟩ : qv (0) (4) o_tried) q26 (by decide) (by decide) : qv (1) (5) y24).1, (post_X7_put (⟨hv_o_tried.1, hv_o_tried.2⟩ : qv (0) (4) o_tried) q26 (by decide) (by decide) : qv (1) (5) y24).2⟩ : qv (1) (5) y24) (by decide) (by decide)) y25 E
          · rw [if_neg c27] at E
            have J32 : ∀ (x31 : Int32) (hv_x31 : qv (0) (3) x31), f_X7_putMemory_J32 o_fields_f x3 x12 y24 y25 x31 = (o_tried_o, o_trial_f_o) → qv (0) (10) o_tried_o := by
              intro x31 hv_x31 E
              rw [f_X7_putMemory_J32] at E
              have J35 : ∀ (x34 : Int32), f_X7_putMemory_J35 o_fields_f x3 x12 y24 y25 x31 x34 = (o_tried_o, o_trial_f_o) → qv (0) (10) o_tried_o := by
                intro x34 E
                rw [f_X7_putMemory_J35] at E
                have J38 : ∀ (x37 : Int32), f_X7_putMemory_J38 o_fields_f x3 x12 y24 y25 x31 x34 x37 = (o_tried_o, o_trial_f_o) → qv (0) (10) o_tried_o := by
                  intro x37 E
                  rw [f_X7_putMemory_J38] at E
                  obtain ⟨y39, y40, q41⟩ : ∃ y39 y40, (f_X7_put y24 y25 ((((64 : Int32) * x31) + ((8 : Int32) * x34)) + x37)) = (y39, y40) := ⟨_, _, rfl⟩
                  rw [q41] at E
                  dsimp only at E
                  exact J44 y39 (qv_w (⟨(post_X7_put (⟨(post_X7_put (⟨hv_o_tried.1, hv_o_tried.2⟩ : qv (0) (4) o_tried) q26 (by decide) (by decide) : qv (1) (5) y24).1, (post_X7_put (⟨hv_o_tried.1, hv_o_tried.2⟩ : qv (0) (4) o_tried) q26 (by decide) (by decide) : qv (1) (5) y24).2⟩ : qv (1) (5) y24) q41 (by decide) (by decide) : qv (2) (6) y39).1, (post_X7_put (⟨(post_X7_put (⟨hv_o_tried.1, hv_o_tried.2⟩ : qv (0) (4) o_tried) q26 (by decide) (by decide) : qv (1) (5) y24).1, (post_X7_put (⟨hv_o_tried.1, hv_o_tried.2⟩ : qv (0) (4) o_tried) q26 (by decide) (by decide) : qv (1) (5) y24).2⟩ : qv (1) (5) y24) q41 (by decide) (by decide) : qv (2) (6) y39).2⟩ : qv (2) (6) y39) (by decide) (by decide)) y40 E
                by_cases c36 : (o_fields_f ((9 : Int32)).toNatClampNeg) = (-1 : Int32)
                · rw [if_pos c36] at E
                  exact J38 (5 : Int32) E
                · rw [if_neg c36] at E
                  exact J38 ((o_fields_f ((9 : Int32)).toNatClampNeg) &&& (7 : Int32)) E
              by_cases c33 : 0 ≤ (o_fields_f ((10 : Int32)).toNatClampNeg)
              · rw [if_pos c33] at E
                exact J35 ((o_fields_f ((10 : Int32)).toNatClampNeg) &&& (7 : Int32)) E
              · rw [if_neg c33] at E
                exact J35 (4 : Int32) E
            by_cases c28 : (o_fields_f ((11 : Int32)).toNatClampNeg) = (8 : Int32)
            · rw [if_pos c28] at E
              exact J32 (3 : Int32) (qv_w (⟨by decide, by decide⟩ : qv (3) (3) (3 : Int32)) (by decide) (by decide)) E
            · rw [if_neg c28] at E
              by_cases c29 : (o_fields_f ((11 : Int32)).toNatClampNeg) = (4 : Int32)
              · rw [if_pos c29] at E
                exact J32 (2 : Int32) (qv_w (⟨by decide, by decide⟩ : qv (2) (2) (2 : Int32)) (by decide) (by decide)) E
              · rw [if_neg c29] at E
                by_cases c30 : (o_fields_f ((11 : Int32)).toNatClampNeg) = (2 : Int32)
                · rw [if_pos c30] at E
                  exact J32 (1 : Int32) (qv_w (⟨by decide, by decide⟩ : qv (1) (1) (1 : Int32)) (by decide) (by decide)) E
                · rw [if_neg c30] at E
                  exact J32 (0 : Int32) (qv_w (⟨by decide, by decide⟩ : qv (0) (0) (0 : Int32)) (by decide) (by decide)) E
        by_cases c20 : x18 = 0
        · rw [if_pos c20] at E
          by_cases c21 : (o_fields_f ((9 : Int32)).toNatClampNeg) = (16 : Int32)
          · rw [if_pos c21] at E
            exact J23 (5 : Int32) E
          · rw [if_neg c21] at E
            exact J23 ((o_fields_f ((9 : Int32)).toNatClampNeg) &&& (7 : Int32)) E
        · rw [if_neg c20] at E
          exact J23 (4 : Int32) E
      by_cases c14 : (o_fields_f ((9 : Int32)).toNatClampNeg) = (-1 : Int32)
      · rw [if_pos c14] at E
        exact J19 (1 : Int32) (qv_w (⟨by decide, by decide⟩ : qv (1) (1) (1 : Int32)) (by decide) (by decide)) E
      · rw [if_neg c14] at E
        by_cases c15 : 0 ≤ (o_fields_f ((10 : Int32)).toNatClampNeg)
        · rw [if_pos c15] at E
          exact J19 (1 : Int32) (qv_w (⟨by decide, by decide⟩ : qv (1) (1) (1 : Int32)) (by decide) (by decide)) E
        · rw [if_neg c15] at E
          by_cases c16 : (16 : Int32) ≤ (o_fields_f ((9 : Int32)).toNatClampNeg)
          · rw [if_pos c16] at E
            exact J19 (0 : Int32) (qv_w (⟨by decide, by decide⟩ : qv (0) (0) (0 : Int32)) (by decide) (by decide)) E
          · rw [if_neg c16] at E
            by_cases c17 : ((o_fields_f ((9 : Int32)).toNatClampNeg) &&& (7 : Int32)) = (4 : Int32)
            · rw [if_pos c17] at E
              exact J19 (1 : Int32) (qv_w (⟨by decide, by decide⟩ : qv (1) (1) (1 : Int32)) (by decide) (by decide)) E
            · rw [if_neg c17] at E
              exact J19 (0 : Int32) (qv_w (⟨by decide, by decide⟩ : qv (0) (0) (0 : Int32)) (by decide) (by decide)) E
    by_cases c5 : x3 = 0
    · rw [if_pos c5] at E
      by_cases c6 : (o_fields_f ((12 : Int32)).toNatClampNeg) = 0
      · rw [if_pos c6] at E
        by_cases c9 : ((o_fields_f ((9 : Int32)).toNatClampNeg) &&& (7 : Int32)) = (5 : Int32)
        · rw [if_pos c9] at E
          by_cases c10 : (o_fields_f ((12 : Int32)).toNatClampNeg) < (-128 : Int32)
          · rw [if_pos c10] at E
            exact J13 (2 : Int32) (qv_w (⟨by decide, by decide⟩ : qv (2) (2) (2 : Int32)) (by decide) (by decide)) E
          · rw [if_neg c10] at E
            by_cases c11 : (128 : Int32) ≤ (o_fields_f ((12 : Int32)).toNatClampNeg)
            · rw [if_pos c11] at E
              exact J13 (2 : Int32) (qv_w (⟨by decide, by decide⟩ : qv (2) (2) (2 : Int32)) (by decide) (by decide)) E
            · rw [if_neg c11] at E
              exact J13 (1 : Int32) (qv_w (⟨by decide, by decide⟩ : qv (1) (1) (1 : Int32)) (by decide) (by decide)) E
        · rw [if_neg c9] at E
          exact J13 (0 : Int32) (qv_w (⟨by decide, by decide⟩ : qv (0) (0) (0 : Int32)) (by decide) (by decide)) E
      · rw [if_neg c6] at E
        by_cases c7 : (o_fields_f ((12 : Int32)).toNatClampNeg) < (-128 : Int32)
        · rw [if_pos c7] at E
          exact J13 (2 : Int32) (qv_w (⟨by decide, by decide⟩ : qv (2) (2) (2 : Int32)) (by decide) (by decide)) E
        · rw [if_neg c7] at E
          by_cases c8 : (128 : Int32) ≤ (o_fields_f ((12 : Int32)).toNatClampNeg)
          · rw [if_pos c8] at E
            exact J13 (2 : Int32) (qv_w (⟨by decide, by decide⟩ : qv (2) (2) (2 : Int32)) (by decide) (by decide)) E
          · rw [if_neg c8] at E
            exact J13 (1 : Int32) (qv_w (⟨by decide, by decide⟩ : qv (1) (1) (1 : Int32)) (by decide) (by decide)) E
    · rw [if_neg c5] at E
      exact J13 (0 : Int32) (qv_w (⟨by decide, by decide⟩ : qv (0) (0) (0 : Int32)) (by decide) (by decide)) E
  by_cases c1 : (o_fields_f ((9 : Int32)).toNatClampNeg) = (-1 : Int32)
  · rw [if_pos c1] at E
    exact J4 (1 : Int32) (qv_w (⟨by decide, by decide⟩ : qv (1) (1) (1 : Int32)) (by decide) (by decide)) E
  · rw [if_neg c1] at E
    by_cases c2 : (o_fields_f ((9 : Int32)).toNatClampNeg) = (16 : Int32)
    · rw [if_pos c2] at E
      exact J4 (1 : Int32) (qv_w (⟨by decide, by decide⟩ : qv (1) (1) (1 : Int32)) (by decide) (by decide)) E
    · rw [if_neg c2] at E
      exact J4 (0 : Int32) (qv_w (⟨by decide, by decide⟩ : qv (0) (0) (0 : Int32)) (by decide) (by decide)) E
