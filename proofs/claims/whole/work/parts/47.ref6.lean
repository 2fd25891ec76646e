theorem init_X7_feed {g n : Int32} (hg : qv 0 16 g) (hn : qv 1 8 n) : g.toInt + ((n - 1).toInt + 1) = g.toInt + n.toInt ∧ 0 ≤ g.toInt := by
  have : (n - 1).toInt = n.toInt - 1 := by
    obtain ⟨p1, p2⟩ := hn
    rw [Int32.toInt_sub]
    exact qv_bm (by show -2147483648 ≤ n.toInt - 1; omega) (by show n.toInt - 1 < 2147483648; omega)
  exact ⟨by omega, hg.1⟩
theorem rel_X7_feed9 {g g0 n k : Int32} (hrel : g.toInt + (k.toInt + 1) = g0.toInt + n.toInt ∧ 0 ≤ g.toInt) (hg : qv 0 16 g0) (hn : qv 1 8 n) (hs : (g0 + n) ≤ (16 : Int32)) (hk : qv 0 7 k) : qv 0 15 g := by
  have h := qv_add hg hn (lo := 1) (hi := 24) (by decide) (by decide) (by decide) (by decide)
  have h2 : (g0 + n).toInt = g0.toInt + n.toInt := by
    obtain ⟨p1, p2⟩ := hg
    obtain ⟨p3, p4⟩ := hn
    rw [Int32.toInt_add]; exact qv_bm (by omega) (by omega)
  have h3 : (g0 + n).toInt ≤ 16 := Int32.le_iff_toInt_le.mp hs
  obtain ⟨q1, q2⟩ := hk
  constructor <;> omega
theorem rel_X7_feed {g g0 n k : Int32} (hrel : g.toInt + (k.toInt + 1) = g0.toInt + n.toInt ∧ 0 ≤ g.toInt) (hg : qv 0 15 g) (hk : qv 0 7 k) : (g + 1).toInt + ((k + (-1 : Int32)).toInt + 1) = g0.toInt + n.toInt ∧ 0 ≤ (g + 1).toInt := by
  have h1 := qv_inc hg (by decide)
  have h2 : (k + (-1 : Int32)).toInt = k.toInt - 1 := by
    obtain ⟨p1, p2⟩ := hk
    rw [Int32.toInt_add]
    show (k.toInt + (-1)).bmod (2 ^ 32) = _
    rw [qv_bm (by omega) (by omega)]
    omega
  obtain ⟨p1, p2⟩ := hg
  constructor <;> omega
def f_X7_feed_L8 (p0 : Int64) : Nat → Int32 → Int32 → (Nat → Int32) → Int32 × Int32 × Int32 × (Nat → Int32)
  | 0, _, _, _ => (0, 0, 0, (fun _ => 0))
  | n + 1, x4, x5, x6 => (if x4 < 0 then (((1 : Int32), (0 : Int32), x5, x6)) else (f_X7_feed_L8 p0 n (x4 + (-1 : Int32)) (x5 + (1 : Int32)) (upd x6 (x5).toNatClampNeg ((((p0 >>> ((((8 : Int32) * x4)).toInt64 &&& 63)) &&& (255 : Int64))).toInt32))))
def f_X7_feed (o_given : Int32) (o_fed_f : (Nat → Int32)) (p0 : Int64) (p1 : Int32) : Int32 × Int32 × Int32 × (Nat → Int32) := (if p1 < (1 : Int32) then (((0 : Int32), (0 : Int32), o_given, o_fed_f)) else (if (8 : Int32) < p1 then (((0 : Int32), (0 : Int32), o_given, o_fed_f)) else (if (o_given + p1) ≤ (16 : Int32) then (f_X7_feed_L8 p0 ((((p1 - (1 : Int32))).toInt + 1).toNat + 1) (p1 - (1 : Int32)) o_given o_fed_f) else (((0 : Int32), (0 : Int32), o_given, o_fed_f)))))
set_option maxHeartbeats 4000000 in
set_option maxRecDepth 100000 in
theorem c_X7_feed (l : Launch) (D : va_G) (cI : ClassId) (tT : Nat) (o : Nat) (o_ops : Nat) (o_sizes : Nat) (o_patterns : Nat) (o_leads : Nat) (o_codes : Nat) (o_tells : Nat) (o_numbers : Nat) (o_fields : Nat) (o_found : Nat) (o_bytes : Nat) (o_trial : Nat) (o_fed : Nat) (o_thrown : Int32) (o_number : Int64) (o_foundNumber : Int64) (o_length : Int32) (o_tried : Int32) (o_given : Int32) (o_at : Int32) (o_pfx : Int32) (o_pfd : Int32) (o_short0 : Int32) (o_fed_f : (Nat → Int32)) (p0 : Int64) (p1 : Int32) (hv_o_given : qv (0) (16) o_given) (r_o : Int32) (o_thrown_o : Int32) (o_given_o : Int32) (o_fed_f_o : (Nat → Int32)) (hq : f_X7_feed o_given o_fed_f p0 p1 = (r_o, o_thrown_o, o_given_o, o_fed_f_o)) : qM l yX7_feed wsX7_feed (qr 0 0) (qX tT) D vwCl [(cI, .int)] [(o, .inr (6, [.int o_thrown, .int (115 : Int32), .ref o_ops, .ref o_sizes, .ref o_patterns, .ref o_leads, .ref o_codes, .ref o_tells, .ref o_numbers, .ref o_fields, .ref o_found, .long o_number, .long o_foundNumber, .ref o_bytes, .ref o_trial, .ref o_fed, .int o_length, .int o_tried, .int o_given, .int o_at, .int o_pfx, .int o_pfd, .int o_short0])), (o_fed, .inl (cI, 16, .inl o_fed_f))] [.ref o, .long p0, .int p1] (some (.int r_o)) [(o, .inr (6, [.int o_thrown_o, .int (115 : Int32), .ref o_ops, .ref o_sizes, .ref o_patterns, .ref o_leads, .ref o_codes, .ref o_tells, .ref o_numbers, .ref o_fields, .ref o_found, .long o_number, .long o_foundNumber, .ref o_bytes, .ref o_trial, .ref o_fed, .int o_length, .int o_tried, .int o_given_o, .int o_at, .int o_pfx, .int o_pfd, .int o_short0])), (o_fed, .inl (cI, 16, .inl o_fed_f_o))] := by
  refine qM_of (cc := cX7_feed) (maxL := 5) (ret := (some .boolean)) (by decide) rfl (Nat.le_of_ble_eq_true rfl) ?_
  intro p e s m args below meth c A ls Z hx hb hml hr hts hown hlk hK hA hXs hP hD hS hl hZ
  have hown : s.vm.findClass RX7 = some m.cls := hown
  have hl : lv_has ls 5 [(0, .ref o), (1, .long p0), (3, .int p1)] := hl
  have hi_X7 : ∀ w ∈ wsX70, w ∈ wsX7_feed := by decide +kernel
  have lk122 := hts (.fieldLink RX7 122 "InstructionCoderModel" "given" "I") (by decide +kernel)
  have lk43 := hts (.fieldLink RX7 43 "InstructionCoderModel" "fed" "[I") (by decide +kernel)
  have lk57 := hts (.fieldLink RX7 57 "InstructionCoderModel" "thrown" "I") (by decide +kernel)
  have lk80 := hts (.constantLong RX7 80 (255)) (by decide +kernel)
  have E := hq
  rw [f_X7_feed] at E
  refine lv_aload_n hx hb dX7_feed_0 rfl (lv_at hl 0 rfl) ?_
  refine lv_iconst (v := (0 : Int32)) hx hb dX7_feed_1 (by decide) ?_
  refine va_put (D := D) (ci := 6) (v := .int (0 : Int32)) (ty := .int) (C := RX7) (T := TX7) (N := 23) hx hb hts hi_X7 tyX7 tyX7_ok nmX7 hown hK hP hD hS 0 rfl rfl 0 (by decide) lk57 (fun _ h9 => h9) rfl (by decide +kernel) rfl rfl (Nat.le_of_ble_eq_true rfl) dX7_feed_2 (fun H locs hP hD hS => ?_)
  have hP : va_P D vwCl [(o, .inr (6, [.int (0 : Int32), .int (115 : Int32), .ref o_ops, .ref o_sizes, .ref o_patterns, .ref o_leads, .ref o_codes, .ref o_tells, .ref o_numbers, .ref o_fields, .ref o_found, .long o_number, .long o_foundNumber, .ref o_bytes, .ref o_trial, .ref o_fed, .int o_length, .int o_tried, .int o_given, .int o_at, .int o_pfx, .int o_pfd, .int o_short0])), (o_fed, .inl (cI, 16, .inl o_fed_f))] H := hP
  have hD : va_D A [(o, .inr (6, [.int (0 : Int32), .int (115 : Int32), .ref o_ops, .ref o_sizes, .ref o_patterns, .ref o_leads, .ref o_codes, .ref o_tells, .ref o_numbers, .ref o_fields, .ref o_found, .long o_number, .long o_foundNumber, .ref o_bytes, .ref o_trial, .ref o_fed, .int o_length, .int o_tried, .int o_given, .int o_at, .int o_pfx, .int o_pfd, .int o_short0])), (o_fed, .inl (cI, 16, .inl o_fed_f))] := hD
  refine lv_iload_n hx hb dX7_feed_5 rfl (lv_at hl 2 rfl) ?_
  refine lv_iconst (v := (1 : Int32)) hx hb dX7_feed_6 (by decide) ?_
  refine lv_icmp_lt (tgt := 27) hx hb dX7_feed_7 (by decide) (fun c1 => ?_) (fun c1 => ?_)
  · rw [if_pos c1] at E
    refine lv_iconst (v := (0 : Int32)) hx hb dX7_feed_27 (by decide) ?_
    cases E
    rw [hZ]
    exact qw_zret hx hb hr hlk (Or.inl rfl) hP hD hS dX7_feed_28
  · rw [if_neg c1] at E
    refine lv_iload_n hx hb dX7_feed_10 rfl (lv_at hl 2 rfl) ?_
    refine lv_bipush (v := (8 : Int32)) hx hb dX7_feed_11 (by decide) ?_
    refine lv_icmp_gt (tgt := 27) hx hb dX7_feed_13 (by decide) (fun c2 => ?_) (fun c2 => ?_)
    · rw [if_pos c2] at E
      refine lv_iconst (v := (0 : Int32)) hx hb dX7_feed_27 (by decide) ?_
      cases E
      rw [hZ]
      exact qw_zret hx hb hr hlk (Or.inl rfl) hP hD hS dX7_feed_28
    · rw [if_neg c2] at E
      refine lv_aload_n hx hb dX7_feed_16 rfl (lv_at hl 0 rfl) ?_
      refine va_get (D := D) (ci := 6) (v := .int o_given) (C := RX7) (T := TX7) (N := 23) hx hb hts hi_X7 hown hK hP 0 rfl rfl 18 (by decide) lk122 (fun _ h9 => h9) rfl dX7_feed_17 ?_
      refine lv_iload_n hx hb dX7_feed_20 rfl (lv_at hl 2 rfl) ?_
      refine lv_iadd hx hb dX7_feed_21 ?_
      refine lv_bipush (v := (16 : Int32)) hx hb dX7_feed_22 (by decide) ?_
      refine lv_icmp_le (tgt := 29) hx hb dX7_feed_24 (by decide) (fun c3 => ?_) (fun c3 => ?_)
      · rw [if_pos c3] at E
        refine lv_iload_n hx hb dX7_feed_29 rfl (lv_at hl 2 rfl) ?_
        refine lv_iconst (v := (1 : Int32)) hx hb dX7_feed_30 (by decide) ?_
        refine lv_isub hx hb dX7_feed_31 ?_
        refine lv_istore (lv' := [(4, .int (p1 - (1 : Int32))), (0, .ref o), (1, .long p0), (3, .int p1)]) hx hb dX7_feed_32 hl (by decide) rfl (fun ls hl => ?_)
        have L8 : ∀ (n : Nat) (x4 : Int32) (x5 : Int32) (x6 : (Nat → Int32)) (hv_x4 : qv (-1) (7) x4) (hrel : x5.toInt + (x4.toInt + 1) = o_given.toInt + p1.toInt ∧ 0 ≤ x5.toInt) (ls : Array Slot) (H : Heap) (locs : List Loc), ((x4).toInt + 1).toNat < n → f_X7_feed_L8 p0 n x4 x5 x6 = (r_o, o_thrown_o, o_given_o, o_fed_f_o) → lv_has ls 5 [(4, .int x4), (0, .ref o), (1, .long p0), (3, .int p1)] → va_P D vwCl [(o, .inr (6, [.int (0 : Int32), .int (115 : Int32), .ref o_ops, .ref o_sizes, .ref o_patterns, .ref o_leads, .ref o_codes, .ref o_tells, .ref o_numbers, .ref o_fields, .ref o_found, .long o_number, .long o_foundNumber, .ref o_bytes, .ref o_trial, .ref o_fed, .int o_length, .int o_tried, .int x5, .int o_at, .int o_pfx, .int o_pfd, .int o_short0])), (o_fed, .inl (cI, 16, .inl x6))] H → va_D A [(o, .inr (6, [.int (0 : Int32), .int (115 : Int32), .ref o_ops, .ref o_sizes, .ref o_patterns, .ref o_leads, .ref o_codes, .ref o_tells, .ref o_numbers, .ref o_fields, .ref o_found, .long o_number, .long o_foundNumber, .ref o_bytes, .ref o_trial, .ref o_fed, .int o_length, .int o_tried, .int x5, .int o_at, .int o_pfx, .int o_pfd, .int o_short0])), (o_fed, .inl (cI, 16, .inl x6))] → va_S A s.heap H locs → W p l e (qr 0 0) s m args below meth c H locs 0 0 Z (F0 m 34 ls []) := by
          intro n
          induction n with
          | zero => intro x4 x5 x6 hv_x4 hrel ls H locs hm; exact absurd hm (Nat.not_lt_zero _)
          | succ n ih =>
            intro x4 x5 x6 hv_x4 hrel ls H locs hm E hl hP hD hS
            rw [f_X7_feed_L8] at E
            refine lv_iload hx hb dX7_feed_34 (lv_at hl 0 rfl) ?_
            refine lv_if_lt (tgt := 76) hx hb dX7_feed_36 (by decide) (fun c7 => ?_) (fun c7 => ?_)
            · rw [if_pos c7] at E
              refine lv_iconst (v := (1 : Int32)) hx hb dX7_feed_76 (by decide) ?_
              cases E
              rw [hZ]
              exact qw_zret hx hb hr hlk (Or.inr rfl) hP hD hS dX7_feed_77
            · rw [if_neg c7] at E
              refine lv_aload_n hx hb dX7_feed_39 rfl (lv_at hl 1 rfl) ?_
              refine va_get (D := D) (ci := 6) (v := .ref o_fed) (C := RX7) (T := TX7) (N := 23) hx hb hts hi_X7 hown hK hP 0 rfl rfl 15 (by decide) lk43 (fun _ h9 => h9) rfl dX7_feed_40 ?_
              refine lv_aload_n hx hb dX7_feed_43 rfl (lv_at hl 1 rfl) ?_
              refine va_get (D := D) (ci := 6) (v := .int x5) (C := RX7) (T := TX7) (N := 23) hx hb hts hi_X7 hown hK hP 0 rfl rfl 18 (by decide) lk122 (fun _ h9 => h9) rfl dX7_feed_44 ?_
              refine lv_lload_n hx hb dX7_feed_47 rfl (lv_at hl 2 rfl) ?_
              refine lv_bipush (v := (8 : Int32)) hx hb dX7_feed_48 (by decide) ?_
              refine lv_iload hx hb dX7_feed_50 (lv_at hl 0 rfl) ?_
              refine lv_imul hx hb dX7_feed_52 ?_
              refine lv_lshr (v := (p0 >>> ((((8 : Int32) * x4)).toInt64 &&& 63))) hx hb dX7_feed_53 rfl ?_
              refine lv_ldc2 hx hb hown lk80 dX7_feed_54 ?_
              refine lv_land hx hb dX7_feed_57 ?_
              refine lv_l2i (v := (((p0 >>> ((((8 : Int32) * x4)).toInt64 &&& 63)) &&& (255 : Int64))).toInt32) hx hb dX7_feed_58 rfl ?_
              refine va_iast hx hb hK hP hD hS 1 0 rfl rfl (qv_in (⟨(rel_X7_feed9 hrel hv_o_given (qv_w (⟨(qv_l1 c1 (qv_lb (⟨by decide, by decide⟩ : qv (1) (1) (1 : Int32)) (by decide))), (qv_h3 c2 (qv_ub (⟨by decide, by decide⟩ : qv (8) (8) (8 : Int32)) (by decide)))⟩ : qv (1) (8) p1) (by decide) (by decide) : qv (1) (8) p1) c3 (qv_w (⟨(qv_l1 c7 (qv_lb (⟨by decide, by decide⟩ : qv (0) (0) (0 : Int32)) (by decide))), hv_x4.2⟩ : qv (0) (7) x4) (by decide) (by decide) : qv (0) (7) x4)).1, (rel_X7_feed9 hrel hv_o_given (qv_w (⟨(qv_l1 c1 (qv_lb (⟨by decide, by decide⟩ : qv (1) (1) (1 : Int32)) (by decide))), (qv_h3 c2 (qv_ub (⟨by decide, by decide⟩ : qv (8) (8) (8 : Int32)) (by decide)))⟩ : qv (1) (8) p1) (by decide) (by decide) : qv (1) (8) p1) c3 (qv_w (⟨(qv_l1 c7 (qv_lb (⟨by decide, by decide⟩ : qv (0) (0) (0 : Int32)) (by decide))), hv_x4.2⟩ : qv (0) (7) x4) (by decide) (by decide) : qv (0) (7) x4)).2⟩ : qv (0) (15) x5) (by decide) (by decide)) dX7_feed_59 (fun H locs hP hD hS => ?_)
              have hP : va_P D vwCl [(o, .inr (6, [.int (0 : Int32), .int (115 : Int32), .ref o_ops, .ref o_sizes, .ref o_patterns, .ref o_leads, .ref o_codes, .ref o_tells, .ref o_numbers, .ref o_fields, .ref o_found, .long o_number, .long o_foundNumber, .ref o_bytes, .ref o_trial, .ref o_fed, .int o_length, .int o_tried, .int x5, .int o_at, .int o_pfx, .int o_pfd, .int o_short0])), (o_fed, .inl (cI, 16, .inl (upd x6 (x5).toNatClampNeg ((((p0 >>> ((((8 : Int32) * x4)).toInt64 &&& 63)) &&& (255 : Int64))).toInt32))))] H := hP
              have hD : va_D A [(o, .inr (6, [.int (0 : Int32), .int (115 : Int32), .ref o_ops, .ref o_sizes, .ref o_patterns, .ref o_leads, .ref o_codes, .ref o_tells, .ref o_numbers, .ref o_fields, .ref o_found, .long o_number, .long o_foundNumber, .ref o_bytes, .ref o_trial, .ref o_fed, .int o_length, .int o_tried, .int x5, .int o_at, .int o_pfx, .int o_pfd, .int o_short0])), (o_fed, .inl (cI, 16, .inl (upd x6 (x5).toNatClampNeg ((((p0 >>> ((((8 : Int32) * x4)).toInt64 &&& 63)) &&& (255 : Int64))).toInt32))))] := hD
              refine lv_aload_n hx hb dX7_feed_60 rfl (lv_at hl 1 rfl) ?_
              refine lv_dup hx hb dX7_feed_61 rfl ?_
              refine va_get (D := D) (ci := 6) (v := .int x5) (C := RX7) (T := TX7) (N := 23) hx hb hts hi_X7 hown hK hP 0 rfl rfl 18 (by decide) lk122 (fun _ h9 => h9) rfl dX7_feed_62 ?_
              refine lv_iconst (v := (1 : Int32)) hx hb dX7_feed_65 (by decide) ?_
              refine lv_iadd hx hb dX7_feed_66 ?_
              refine va_put (D := D) (ci := 6) (v := .int (x5 + (1 : Int32))) (ty := .int) (C := RX7) (T := TX7) (N := 23) hx hb hts hi_X7 tyX7 tyX7_ok nmX7 hown hK hP hD hS 0 rfl rfl 18 (by decide) lk122 (fun _ h9 => h9) rfl (by decide +kernel) rfl rfl (Nat.le_of_ble_eq_true rfl) dX7_feed_67 (fun H locs hP hD hS => ?_)
              have hP : va_P D vwCl [(o, .inr (6, [.int (0 : Int32), .int (115 : Int32), .ref o_ops, .ref o_sizes, .ref o_patterns, .ref o_leads, .ref o_codes, .ref o_tells, .ref o_numbers, .ref o_fields, .ref o_found, .long o_number, .long o_foundNumber, .ref o_bytes, .ref o_trial, .ref o_fed, .int o_length, .int o_tried, .int (x5 + (1 : Int32)), .int o_at, .int o_pfx, .int o_pfd, .int o_short0])), (o_fed, .inl (cI, 16, .inl (upd x6 (x5).toNatClampNeg ((((p0 >>> ((((8 : Int32) * x4)).toInt64 &&& 63)) &&& (255 : Int64))).toInt32))))] H := hP
              have hD : va_D A [(o, .inr (6, [.int (0 : Int32), .int (115 : Int32), .ref o_ops, .ref o_sizes, .ref o_patterns, .ref o_leads, .ref o_codes, .ref o_tells, .ref o_numbers, .ref o_fields, .ref o_found, .long o_number, .long o_foundNumber, .ref o_bytes, .ref o_trial, .ref o_fed, .int o_length, .int o_tried, .int (x5 + (1 : Int32)), .int o_at, .int o_pfx, .int o_pfd, .int o_short0])), (o_fed, .inl (cI, 16, .inl (upd x6 (x5).toNatClampNeg ((((p0 >>> ((((8 : Int32) * x4)).toInt64 &&& 63)) &&& (255 : Int64))).toInt32))))] := hD
              refine lv_iinc (v := x4 + (-1 : Int32)) (lv' := [(4, .int (x4 + (-1 : Int32))), (0, .ref o), (1, .long p0), (3, .int p1)]) hx hb dX7_feed_70 hl (k := 0) rfl (by first | rfl | decide) (by decide) rfl (fun ls hl => ?_)
              refine lv_goto (tgt := 34) hx hb dX7_feed_73 (by decide) ?_
              exact ih (x4 + (-1 : Int32)) (x5 + (1 : Int32)) (upd x6 (x5).toNatClampNeg ((((p0 >>> ((((8 : Int32) * x4)).toInt64 &&& 63)) &&& (255 : Int64))).toInt32)) (qv_w (qv_add (⟨(qv_l1 c7 (qv_lb (⟨by decide, by decide⟩ : qv (0) (0) (0 : Int32)) (by decide))), hv_x4.2⟩ : qv (0) (7) x4) (⟨by decide, by decide⟩ : qv (-1) (-1) (-1 : Int32)) (by decide) (by decide) (by decide) (by decide) : qv (-1) (6) (x4 + (-1 : Int32))) (by decide) (by decide) : qv (-1) (7) (x4 + (-1 : Int32))) (rel_X7_feed hrel (qv_w (⟨(rel_X7_feed9 hrel hv_o_given (qv_w (⟨(qv_l1 c1 (qv_lb (⟨by decide, by decide⟩ : qv (1) (1) (1 : Int32)) (by decide))), (qv_h3 c2 (qv_ub (⟨by decide, by decide⟩ : qv (8) (8) (8 : Int32)) (by decide)))⟩ : qv (1) (8) p1) (by decide) (by decide) : qv (1) (8) p1) c3 (qv_w (⟨(qv_l1 c7 (qv_lb (⟨by decide, by decide⟩ : qv (0) (0) (0 : Int32)) (by decide))), hv_x4.2⟩ : qv (0) (7) x4) (by decide) (by decide) : qv (0) (7) x4)).1, (rel_X7_feed9 hrel hv_o_given (qv_w (⟨(qv_l1 c1 (qv_lb (⟨by decide, by decide⟩ : qv (1) (1) (1 : Int32)) (by decide))), (qv_h3 c2 (qv_ub (⟨by decide, by decide⟩ : qv (8) (8) (8 : Int32)) (by decide)))⟩ : qv (1) (8) p1) (by decide) (by decide) : qv (1) (8) p1) c3 (qv_w (⟨(qv_l1 c7 (qv_lb (⟨by decide, by decide⟩ : qv (0) (0) (0 : Int32)) (by decide))), hv_x4.2⟩ : qv (0) (7) x4) (by decide) (by decide) : qv (0) (7) x4)).2⟩ : qv (0) (15) x5) (by decide) (by decide) : qv (0) (15) x5) (qv_w (⟨(qv_l1 c7 (qv_lb (⟨by decide, by decide⟩ : qv (0) (0) (0 : Int32)) (by decide))), hv_x4.2⟩ : qv (0) (7) x4) (by decide) (by decide) : qv (0) (7) x4)) ls _ _ (qw_down hm c7) E (lv_sub hl [0, 1, 2, 3] rfl) hP hD hS
        exact L8 _ (p1 - (1 : Int32)) o_given o_fed_f (qv_w (qv_sub (⟨(qv_l1 c1 (qv_lb (⟨by decide, by decide⟩ : qv (1) (1) (1 : Int32)) (by decide))), (qv_h3 c2 (qv_ub (⟨by decide, by decide⟩ : qv (8) (8) (8 : Int32)) (by decide)))⟩ : qv (1) (8) p1) (⟨by decide, by decide⟩ : qv (1) (1) (1 : Int32)) (by decide) (by decide) (by decide) (by decide) : qv (0) (7) (p1 - (1 : Int32))) (by decide) (by decide) : qv (-1) (7) (p1 - (1 : Int32))) (init_X7_feed hv_o_given (qv_w (⟨(qv_l1 c1 (qv_lb (⟨by decide, by decide⟩ : qv (1) (1) (1 : Int32)) (by decide))), (qv_h3 c2 (qv_ub (⟨by decide, by decide⟩ : qv (8) (8) (8 : Int32)) (by decide)))⟩ : qv (1) (8) p1) (by decide) (by decide) : qv (1) (8) p1)) ls _ _ (Nat.lt_succ_self _) E (lv_sub hl [0, 1, 2, 3] rfl) hP hD hS
      · rw [if_neg c3] at E
        refine lv_iconst (v := (0 : Int32)) hx hb dX7_feed_27 (by decide) ?_
        cases E
        rw [hZ]
        exact qw_zret hx hb hr hlk (Or.inl rfl) hP hD hS dX7_feed_28
def f_X7_next_J7 (o_at : Int32) (x3 : Int32) (x6 : Int32) : Int32 × Int32 × Int32 := ((x6, (o_at + (1 : Int32)), x3))
def f_X7_next_J4 (o_given : Int32) (o_at : Int32) (o_fed_f : (Nat → Int32)) (x3 : Int32) : Int32 × Int32 × Int32 := ((if o_given < (o_at + (1 : Int32)) then (f_X7_next_J7 o_at x3 (0 : Int32)) else (f_X7_next_J7 o_at x3 (o_fed_f (((o_at + (1 : Int32)) - (1 : Int32))).toNatClampNeg))))
def f_X7_next (o_given : Int32) (o_at : Int32) (o_short0 : Int32) (o_fed_f : (Nat → Int32)) : Int32 × Int32 × Int32 := ((if o_short0 = 0 then (if o_at < o_given then (f_X7_next_J4 o_given o_at o_fed_f (0 : Int32)) else (f_X7_next_J4 o_given o_at o_fed_f (1 : Int32))) else (f_X7_next_J4 o_given o_at o_fed_f (1 : Int32))))
set_option maxHeartbeats 4000000 in
set_option maxRecDepth 100000 in
theorem c_X7_next (l : Launch) (D : va_G) (cI : ClassId) (tT : Nat) (o : Nat) (o_ops : Nat) (o_sizes : Nat) (o_patterns : Nat) (o_leads : Nat) (o_codes : Nat) (o_tells : Nat) (o_numbers : Nat) (o_fields : Nat) (o_found : Nat) (o_bytes : Nat) (o_trial : Nat) (o_fed : Nat) (o_thrown : Int32) (o_number : Int64) (o_foundNumber : Int64) (o_length : Int32) (o_tried : Int32) (o_given : Int32) (o_at : Int32) (o_pfx : Int32) (o_pfd : Int32) (o_short0 : Int32) (o_fed_f : (Nat → Int32)) (hv_o_at : qv (0) (60) o_at) (hv_o_given : qv (0) (16) o_given) (ha_o_fed_f : ∀ j : Nat, qv 0 255 (o_fed_f j)) (r_o : Int32) (o_at_o : Int32) (o_short0_o : Int32) (hq : f_X7_next o_given o_at o_short0 o_fed_f = (r_o, o_at_o, o_short0_o)) : qM l yX7_next wsX7_next (qr 0 0) (qX tT) D vwCl [(cI, .int)] [(o, .inr (6, [.int o_thrown, .int (115 : Int32), .ref o_ops, .ref o_sizes, .ref o_patterns, .ref o_leads, .ref o_codes, .ref o_tells, .ref o_numbers, .ref o_fields, .ref o_found, .long o_number, .long o_foundNumber, .ref o_bytes, .ref o_trial, .ref o_fed, .int o_length, .int o_tried, .int o_given, .int o_at, .int o_pfx, .int o_pfd, .int o_short0])), (o_fed, .inl (cI, 16, .inl o_fed_f))] [.ref o] (some (.int r_o)) [(o, .inr (6, [.int o_thrown, .int (115 : Int32), .ref o_ops, .ref o_sizes, .ref o_patterns, .ref o_leads, .ref o_codes, .ref o_tells, .ref o_numbers, .ref o_fields, .ref o_found, .long o_number, .long o_foundNumber, .ref o_bytes, .ref o_trial, .ref o_fed, .int o_length, .int o_tried, .int o_given, .int o_at_o, .int o_pfx, .int o_pfd, .int o_short0_o])), (o_fed, .inl (cI, 16, .inl o_fed_f))] := by
  refine qM_of (cc := cX7_next) (maxL := 1) (ret := (some .int)) (by decide) rfl (Nat.le_of_ble_eq_true rfl) ?_
  intro p e s m args below meth c A ls Z hx hb hml hr hts hown hlk hK hA hXs hP hD hS hl hZ
  have hown : s.vm.findClass RX7 = some m.cls := hown
  have hl : lv_has ls 1 [(0, .ref o)] := hl
  have hi_X7 : ∀ w ∈ wsX70, w ∈ wsX7_next := by decide +kernel
  have lk122 := hts (.fieldLink RX7 122 "InstructionCoderModel" "given" "I") (by decide +kernel)
  have lk125 := hts (.fieldLink RX7 125 "InstructionCoderModel" "short0" "Z") (by decide +kernel)
  have lk129 := hts (.fieldLink RX7 129 "InstructionCoderModel" "at" "I") (by decide +kernel)
  have lk43 := hts (.fieldLink RX7 43 "InstructionCoderModel" "fed" "[I") (by decide +kernel)
  have E := hq
  rw [f_X7_next] at E
  refine lv_aload_n hx hb dX7_next_0 rfl (lv_at hl 0 rfl) ?_
  refine lv_aload_n hx hb dX7_next_1 rfl (lv_at hl 0 rfl) ?_
  refine va_get (D := D) (ci := 6) (v := .int o_short0) (C := RX7) (T := TX7) (N := 23) hx hb hts hi_X7 hown hK hP 0 rfl rfl 22 (by decide) lk125 (fun _ h9 => h9) rfl dX7_next_2 ?_
  have J4 : ∀ (x3 : Int32) (hb_x3 : x3 = 0 ∨ x3 = 1) (hv_x3 : qv (0) (1) x3) (ls : Array Slot) (H : Heap) (locs : List Loc), f_X7_next_J4 o_given o_at o_fed_f x3 = (r_o, o_at_o, o_short0_o) → lv_has ls 1 [(0, .ref o)] → va_P D vwCl [(o, .inr (6, [.int o_thrown, .int (115 : Int32), .ref o_ops, .ref o_sizes, .ref o_patterns, .ref o_leads, .ref o_codes, .ref o_tells, .ref o_numbers, .ref o_fields, .ref o_found, .long o_number, .long o_foundNumber, .ref o_bytes, .ref o_trial, .ref o_fed, .int o_length, .int o_tried, .int o_given, .int o_at, .int o_pfx, .int o_pfd, .int o_short0])), (o_fed, .inl (cI, 16, .inl o_fed_f))] H → va_D A [(o, .inr (6, [.int o_thrown, .int (115 : Int32), .ref o_ops, .ref o_sizes, .ref o_patterns, .ref o_leads, .ref o_codes, .ref o_tells, .ref o_numbers, .ref o_fields, .ref o_found, .long o_number, .long o_foundNumber, .ref o_bytes, .ref o_trial, .ref o_fed, .int o_length, .int o_tried, .int o_given, .int o_at, .int o_pfx, .int o_pfd, .int o_short0])), (o_fed, .inl (cI, 16, .inl o_fed_f))] → va_S A s.heap H locs → W p l e (qr 0 0) s m args below meth c H locs 0 0 Z (F0 m 24 ls [.int x3, .ref o]) := by
    intro x3 hb_x3 hv_x3 ls H locs E hl hP hD hS
    rw [f_X7_next_J4] at E
    refine va_put (D := D) (ci := 6) (v := .int x3) (ty := .boolean) (C := RX7) (T := TX7) (N := 23) hx hb hts hi_X7 tyX7 tyX7_ok nmX7 hown hK hP hD hS 0 rfl rfl 22 (by decide) lk125 (fun _ h9 => h9) rfl (by decide +kernel) (qw_b01n hb_x3) (qw_b01f hb_x3) (Nat.le_of_ble_eq_true rfl) dX7_next_24 (fun H locs hP hD hS => ?_)
    have hP : va_P D vwCl [(o, .inr (6, [.int o_thrown, .int (115 : Int32), .ref o_ops, .ref o_sizes, .ref o_patterns, .ref o_leads, .ref o_codes, .ref o_tells, .ref o_numbers, .ref o_fields, .ref o_found, .long o_number, .long o_foundNumber, .ref o_bytes, .ref o_trial, .ref o_fed, .int o_length, .int o_tried, .int o_given, .int o_at, .int o_pfx, .int o_pfd, .int x3])), (o_fed, .inl (cI, 16, .inl o_fed_f))] H := hP
    have hD : va_D A [(o, .inr (6, [.int o_thrown, .int (115 : Int32), .ref o_ops, .ref o_sizes, .ref o_patterns, .ref o_leads, .ref o_codes, .ref o_tells, .ref o_numbers, .ref o_fields, .ref o_found, .long o_number, .long o_foundNumber, .ref o_bytes, .ref o_trial, .ref o_fed, .int o_length, .int o_tried, .int o_given, .int o_at, .int o_pfx, .int o_pfd, .int x3])), (o_fed, .inl (cI, 16, .inl o_fed_f))] := hD
    refine lv_aload_n hx hb dX7_next_27 rfl (lv_at hl 0 rfl) ?_
    refine lv_dup hx hb dX7_next_28 rfl ?_
    refine va_get (D := D) (ci := 6) (v := .int o_at) (C := RX7) (T := TX7) (N := 23) hx hb hts hi_X7 hown hK hP 0 rfl rfl 19 (by decide) lk129 (fun _ h9 => h9) rfl dX7_next_29 ?_
    refine lv_iconst (v := (1 : Int32)) hx hb dX7_next_32 (by decide) ?_
    refine lv_iadd hx hb dX7_next_33 ?_
    refine va_put (D := D) (ci := 6) (v := .int (o_at + (1 : Int32))) (ty := .int) (C := RX7) (T := TX7) (N := 23) hx hb hts hi_X7 tyX7 tyX7_ok nmX7 hown hK hP hD hS 0 rfl rfl 19 (by decide) lk129 (fun _ h9 => h9) rfl (by decide +kernel) rfl rfl (Nat.le_of_ble_eq_true rfl) dX7_next_34 (fun H locs hP hD hS => ?_)
    have hP : va_P D vwCl [(o, .inr (6, [.int o_thrown, .int (115 : Int32), .ref o_ops, .ref o_sizes, .ref o_patterns, .ref o_leads, .ref o_codes, .ref o_tells, .ref o_numbers, .ref o_fields, .ref o_found, .long o_number, .long o_foundNumber, .ref o_bytes, .ref o_trial, .ref o_fed, .int o_length, .int o_tried, .int o_given, .int (o_at + (1 : Int32)), .int o_pfx, .int o_pfd, .int x3])), (o_fed, .inl (cI, 16, .inl o_fed_f))] H := hP
    have hD : va_D A [(o, .inr (6, [.int o_thrown, .int (115 : Int32), .ref o_ops, .ref o_sizes, .ref o_patterns, .ref o_leads, .ref o_codes, .ref o_tells, .ref o_numbers, .ref o_fields, .ref o_found, .long o_number, .long o_foundNumber, .ref o_bytes, .ref o_trial, .ref o_fed, .int o_length, .int o_tried, .int o_given, .int (o_at + (1 : Int32)), .int o_pfx, .int o_pfd, .int x3])), (o_fed, .inl (cI, 16, .inl o_fed_f))] := hD
    refine lv_aload_n hx hb dX7_next_37 rfl (lv_at hl 0 rfl) ?_
    refine va_get (D := D) (ci := 6) (v := .int (o_at + (1 : Int32))) (C := RX7) (T := TX7) (N := 23) hx hb hts hi_X7 hown hK hP 0 rfl rfl 19 (by decide) lk129 (fun _ h9 => h9) rfl dX7_next_38 ?_
    refine lv_aload_n hx hb dX7_next_41 rfl (lv_at hl 0 rfl) ?_
    refine va_get (D := D) (ci := 6) (v := .int o_given) (C := RX7) (T := TX7) (N := 23) hx hb hts hi_X7 hown hK hP 0 rfl rfl 18 (by decide) lk122 (fun _ h9 => h9) rfl dX7_next_42 ?_
    have J7 : ∀ (x6 : Int32) (ls : Array Slot) (H : Heap) (locs : List Loc), f_X7_next_J7 o_at x3 x6 = (r_o, o_at_o, o_short0_o) → lv_has ls 1 [(0, .ref o)] → va_P D vwCl [(o, .inr (6, [.int o_thrown, .int (115 : Int32), .ref o_ops, .ref o_sizes, .ref o_patterns, .ref o_leads, .ref o_codes, .ref o_tells, .ref o_numbers, .ref o_fields, .ref o_found, .long o_number, .long o_foundNumber, .ref o_bytes, .ref o_trial, .ref o_fed, .int o_length, .int o_tried, .int o_given, .int (o_at + (1 : Int32)), .int o_pfx, .int o_pfd, .int x3])), (o_fed, .inl (cI, 16, .inl o_fed_f))] H → va_D A [(o, .inr (6, [.int o_thrown, .int (115 : Int32), .ref o_ops, .ref o_sizes, .ref o_patterns, .ref o_leads, .ref o_codes, .ref o_tells, .ref o_numbers, .ref o_fields, .ref o_found, .long o_number, .long o_foundNumber, .ref o_bytes, .ref o_trial, .ref o_fed, .int o_length, .int o_tried, .int o_given, .int (o_at + (1 : Int32)), .int o_pfx, .int o_pfd, .int x3])), (o_fed, .inl (cI, 16, .inl o_fed_f))] → va_S A s.heap H locs → W p l e (qr 0 0) s m args below meth c H locs 0 0 Z (F0 m 63 ls [.int x6]) := by
      intro x6 ls H locs E hl hP hD hS
      rw [f_X7_next_J7] at E
      cases E
      rw [hZ]
      exact qw_iret hx hb hr hlk hP hD hS dX7_next_63
    refine lv_icmp_gt (tgt := 62) hx hb dX7_next_45 (by decide) (fun c5 => ?_) (fun c5 => ?_)
    · rw [if_pos c5] at E
      refine lv_iconst (v := (0 : Int32)) hx hb dX7_next_62 (by decide) ?_
      exact J7 (0 : Int32) ls _ _ E (lv_sub hl [0] rfl) hP hD hS
    · rw [if_neg c5] at E
      refine lv_aload_n hx hb dX7_next_48 rfl (lv_at hl 0 rfl) ?_
      refine va_get (D := D) (ci := 6) (v := .ref o_fed) (C := RX7) (T := TX7) (N := 23) hx hb hts hi_X7 hown hK hP 0 rfl rfl 15 (by decide) lk43 (fun _ h9 => h9) rfl dX7_next_49 ?_
      refine lv_aload_n hx hb dX7_next_52 rfl (lv_at hl 0 rfl) ?_
      refine va_get (D := D) (ci := 6) (v := .int (o_at + (1 : Int32))) (C := RX7) (T := TX7) (N := 23) hx hb hts hi_X7 hown hK hP 0 rfl rfl 19 (by decide) lk129 (fun _ h9 => h9) rfl dX7_next_53 ?_
      refine lv_iconst (v := (1 : Int32)) hx hb dX7_next_56 (by decide) ?_
      refine lv_isub hx hb dX7_next_57 ?_
      refine va_iald hx hb hK hP 1 0 rfl rfl (qv_in (qv_sub (⟨(qv_add (⟨hv_o_at.1, hv_o_at.2⟩ : qv (0) (60) o_at) (⟨by decide, by decide⟩ : qv (1) (1) (1 : Int32)) (by decide) (by decide) (by decide) (by decide) : qv (1) (61) (o_at + (1 : Int32))).1, (qv_h3 c5 (qv_ub (⟨(qv_l1 c5 (qv_lb (qv_add (⟨hv_o_at.1, hv_o_at.2⟩ : qv (0) (60) o_at) (⟨by decide, by decide⟩ : qv (1) (1) (1 : Int32)) (by decide) (by decide) (by decide) (by decide) : qv (1) (61) (o_at + (1 : Int32))) (by decide))), hv_o_given.2⟩ : qv (1) (16) o_given) (by decide)))⟩ : qv (1) (16) (o_at + (1 : Int32))) (⟨by decide, by decide⟩ : qv (1) (1) (1 : Int32)) (by decide) (by decide) (by decide) (by decide) : qv (0) (15) ((o_at + (1 : Int32)) - (1 : Int32))) (by decide) (by decide)) dX7_next_58 ?_
      refine lv_goto (tgt := 63) hx hb dX7_next_59 (by decide) ?_
      exact J7 (o_fed_f (((o_at + (1 : Int32)) - (1 : Int32))).toNatClampNeg) ls _ _ E (lv_sub hl [0] rfl) hP hD hS
  refine lv_if_ne (tgt := 19) hx hb dX7_next_5 (by decide) (fun c1 => ?_) (fun c1 => ?_)
  · rw [if_neg c1] at E
    refine lv_iconst (v := (1 : Int32)) hx hb dX7_next_19 (by decide) ?_
    refine lv_goto (tgt := 24) hx hb dX7_next_20 (by decide) ?_
    exact J4 (1 : Int32) (Or.inr rfl) (qv_w (⟨by decide, by decide⟩ : qv (1) (1) (1 : Int32)) (by decide) (by decide)) ls _ _ E (lv_sub hl [0] rfl) hP hD hS
  · rw [if_pos c1] at E
    refine lv_aload_n hx hb dX7_next_8 rfl (lv_at hl 0 rfl) ?_
    refine va_get (D := D) (ci := 6) (v := .int o_at) (C := RX7) (T := TX7) (N := 23) hx hb hts hi_X7 hown hK hP 0 rfl rfl 19 (by decide) lk129 (fun _ h9 => h9) rfl dX7_next_9 ?_
    refine lv_aload_n hx hb dX7_next_12 rfl (lv_at hl 0 rfl) ?_
    refine va_get (D := D) (ci := 6) (v := .int o_given) (C := RX7) (T := TX7) (N := 23) hx hb hts hi_X7 hown hK hP 0 rfl rfl 18 (by decide) lk122 (fun _ h9 => h9) rfl dX7_next_13 ?_
    refine lv_icmp_lt (tgt := 23) hx hb dX7_next_16 (by decide) (fun c2 => ?_) (fun c2 => ?_)
    · rw [if_pos c2] at E
      refine lv_iconst (v := (0 : Int32)) hx hb dX7_next_23 (by decide) ?_
      exact J4 (0 : Int32) (Or.inl rfl) (qv_w (⟨by decide, by decide⟩ : qv (0) (0) (0 : Int32)) (by decide) (by decide)) ls _ _ E (lv_sub hl [0] rfl) hP hD hS
    · rw [if_neg c2] at E
      refine lv_iconst (v := (1 : Int32)) hx hb dX7_next_19 (by decide) ?_
      refine lv_goto (tgt := 24) hx hb dX7_next_20 (by decide) ?_
      exact J4 (1 : Int32) (Or.inr rfl) (qv_w (⟨by decide, by decide⟩ : qv (1) (1) (1 : Int32)) (by decide) (by decide)) ls _ _ E (lv_sub hl [0] rfl) hP hD hS
