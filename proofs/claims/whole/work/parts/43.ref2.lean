def f_X7_putAll_L8 (p0 : Int64) (p1 : Int32) : Nat → Int32 → Int32 → (Nat → Int32) → Int32 × (Nat → Int32)
  | 0, _, _, _ => (0, (fun _ => 0))
  | n + 1, x1, x2, x3 => (if p1 ≤ x1 then ((x2, x3)) else (match (f_X7_put x2 x3 ((((p0 >>> ((((8 : Int32) * x1)).toInt64 &&& 63)) &&& (255 : Int64))).toInt32)) with | (y5, y6) => f_X7_putAll_L8 p0 p1 n (x1 + (1 : Int32)) y5 y6))
def f_X7_putAll (o_tried : Int32) (o_trial_f : (Nat → Int32)) (p0 : Int64) (p1 : Int32) : Int32 × (Nat → Int32) := (f_X7_putAll_L8 p0 p1 (((p1).toInt - ((0 : Int32)).toInt).toNat + 1) (0 : Int32) o_tried o_trial_f)
set_option maxHeartbeats 4000000 in
set_option maxRecDepth 100000 in
theorem c_X7_putAll (l : Launch) (D : va_G) (cI : ClassId) (tT : Nat) (o : Nat) (o_ops : Nat) (o_sizes : Nat) (o_patterns : Nat) (o_leads : Nat) (o_codes : Nat) (o_tells : Nat) (o_numbers : Nat) (o_fields : Nat) (o_found : Nat) (o_bytes : Nat) (o_trial : Nat) (o_fed : Nat) (o_thrown : Int32) (o_number : Int64) (o_foundNumber : Int64) (o_length : Int32) (o_tried : Int32) (o_given : Int32) (o_at : Int32) (o_pfx : Int32) (o_pfd : Int32) (o_short0 : Int32) (o_trial_f : (Nat → Int32)) (p0 : Int64) (p1 : Int32) (hv_o_tried : qv (0) (12) o_tried) (hv_p1 : qv (0) (8) p1) (o_tried_o : Int32) (o_trial_f_o : (Nat → Int32)) (hq : f_X7_putAll o_tried o_trial_f p0 p1 = (o_tried_o, o_trial_f_o)) : qM l yX7_putAll wsX7_putAll (qr 1 21) (qX tT) D vwCl [(cI, .int)] [(o, .inr (6, [.int o_thrown, .int (115 : Int32), .ref o_ops, .ref o_sizes, .ref o_patterns, .ref o_leads, .ref o_codes, .ref o_tells, .ref o_numbers, .ref o_fields, .ref o_found, .long o_number, .long o_foundNumber, .ref o_bytes, .ref o_trial, .ref o_fed, .int o_length, .int o_tried, .int o_given, .int o_at, .int o_pfx, .int o_pfd, .int o_short0])), (o_trial, .inl (cI, 20, .inl o_trial_f))] [.ref o, .long p0, .int p1] none [(o, .inr (6, [.int o_thrown, .int (115 : Int32), .ref o_ops, .ref o_sizes, .ref o_patterns, .ref o_leads, .ref o_codes, .ref o_tells, .ref o_numbers, .ref o_fields, .ref o_found, .long o_number, .long o_foundNumber, .ref o_bytes, .ref o_trial, .ref o_fed, .int o_length, .int o_tried_o, .int o_given, .int o_at, .int o_pfx, .int o_pfd, .int o_short0])), (o_trial, .inl (cI, 20, .inl o_trial_f_o))] := by
  refine qM_of (cc := cX7_putAll) (maxL := 5) (ret := none) (by decide) rfl (Nat.le_of_ble_eq_true rfl) ?_
  intro p e s m args below meth c A ls Z hx hb hml hr hts hown hlk hK hA hXs hP hD hS hl hZ
  have hown : s.vm.findClass RX7 = some m.cls := hown
  have hl : lv_has ls 5 [(0, .ref o), (1, .long p0), (3, .int p1)] := hl
  have lk80 := hts (.constantLong RX7 80 (255)) (by decide +kernel)
  have hXg := qX_ok tT
  have E := hq
  rw [f_X7_putAll] at E
  refine lv_iconst (v := (0 : Int32)) hx hb dX7_putAll_0 (by decide) ?_
  refine lv_istore (lv' := [(4, .int (0 : Int32)), (0, .ref o), (1, .long p0), (3, .int p1)]) hx hb dX7_putAll_1 hl (by decide) rfl (fun ls hl => ?_)
  have L8 : ∀ (n : Nat) (x1 : Int32) (x2 : Int32) (x3 : (Nat → Int32)) (hv_x1 : qv (0) (8) x1) (hrel : x2.toInt = o_tried.toInt + x1.toInt) (ls : Array Slot) (H : Heap) (locs : List Loc), ((p1).toInt - (x1).toInt).toNat < n → f_X7_putAll_L8 p0 p1 n x1 x2 x3 = (o_tried_o, o_trial_f_o) → lv_has ls 5 [(4, .int x1), (0, .ref o), (1, .long p0), (3, .int p1)] → va_P D vwCl [(o, .inr (6, [.int o_thrown, .int (115 : Int32), .ref o_ops, .ref o_sizes, .ref o_patterns, .ref o_leads, .ref o_codes, .ref o_tells, .ref o_numbers, .ref o_fields, .ref o_found, .long o_number, .long o_foundNumber, .ref o_bytes, .ref o_trial, .ref o_fed, .int o_length, .int x2, .int o_given, .int o_at, .int o_pfx, .int o_pfd, .int o_short0])), (o_trial, .inl (cI, 20, .inl x3))] H → va_D A [(o, .inr (6, [.int o_thrown, .int (115 : Int32), .ref o_ops, .ref o_sizes, .ref o_patterns, .ref o_leads, .ref o_codes, .ref o_tells, .ref o_numbers, .ref o_fields, .ref o_found, .long o_number, .long o_foundNumber, .ref o_bytes, .ref o_trial, .ref o_fed, .int o_length, .int x2, .int o_given, .int o_at, .int o_pfx, .int o_pfd, .int o_short0])), (o_trial, .inl (cI, 20, .inl x3))] → va_S A s.heap H locs → W p l e (qr 1 21) s m args below meth c H locs 0 0 Z (F0 m 3 ls []) := by
    intro n
    induction n with
    | zero => intro x1 x2 x3 hv_x1 hrel ls H locs hm; exact absurd hm (Nat.not_lt_zero _)
    | succ n ih =>
      intro x1 x2 x3 hv_x1 hrel ls H locs hm E hl hP hD hS
      rw [f_X7_putAll_L8] at E
      refine lv_iload hx hb dX7_putAll_3 (lv_at hl 0 rfl) ?_
      refine lv_iload_n hx hb dX7_putAll_5 rfl (lv_at hl 3 rfl) ?_
      refine lv_icmp_ge (tgt := 31) hx hb dX7_putAll_6 (by decide) (fun c4 => ?_) (fun c4 => ?_)
      · rw [if_pos c4] at E
        cases E
        rw [hZ]
        exact qw_vret hx hb hr hlk hP hD hS dX7_putAll_31
      · rw [if_neg c4] at E
        refine lv_aload_n hx hb dX7_putAll_9 rfl (lv_at hl 1 rfl) ?_
        refine lv_lload_n hx hb dX7_putAll_10 rfl (lv_at hl 2 rfl) ?_
        refine lv_bipush (v := (8 : Int32)) hx hb dX7_putAll_11 (by decide) ?_
        refine lv_iload hx hb dX7_putAll_13 (lv_at hl 0 rfl) ?_
        refine lv_imul hx hb dX7_putAll_15 ?_
        refine lv_lshr (v := (p0 >>> ((((8 : Int32) * x1)).toInt64 &&& 63))) hx hb dX7_putAll_16 rfl ?_
        refine lv_ldc2 hx hb hown lk80 dX7_putAll_17 ?_
        refine lv_land hx hb dX7_putAll_20 ?_
        refine lv_l2i (v := (((p0 >>> ((((8 : Int32) * x1)).toInt64 &&& 63)) &&& (255 : Int64))).toInt32) hx hb dX7_putAll_21 rfl ?_
        obtain ⟨y5, y6, q7⟩ : ∃ y5 y6, (f_X7_put x2 x3 ((((p0 >>> ((((8 : Int32) * x1)).toInt64 &&& 63)) &&& (255 : Int64))).toInt32)) = (y5, y6) := ⟨_, _, rfl⟩
        rw [q7] at E
        dsimp only at E
        refine qw_callV (As := [.int ((((p0 >>> ((((8 : Int32) * x1)).toInt64 &&& 63)) &&& (255 : Int64))).toInt32)]) (rest := []) (ws' := [(o, .inr (6, [.int o_thrown, .int (115 : Int32), .ref o_ops, .ref o_sizes, .ref o_patterns, .ref o_leads, .ref o_codes, .ref o_tells, .ref o_numbers, .ref o_fields, .ref o_found, .long o_number, .long o_foundNumber, .ref o_bytes, .ref o_trial, .ref o_fed, .int o_length, .int y5, .int o_given, .int o_at, .int o_pfx, .int o_pfd, .int o_short0])), (o_trial, .inl (cI, 20, .inl y6))]) (st1 := []) ⟨hx, hb, hml, hown, hts⟩ (c_X7_put l D cI tT o o_ops o_sizes o_patterns o_leads o_codes o_tells o_numbers o_fields o_found o_bytes o_trial o_fed o_thrown o_number o_foundNumber o_length x2 o_given o_at o_pfx o_pfd o_short0 x3 ((((p0 >>> ((((8 : Int32) * x1)).toInt64 &&& 63)) &&& (255 : Int64))).toInt32) (qv_w (⟨(qv_rel hrel hv_o_tried (⟨hv_x1.1, (qv_h4 c4 (qv_ub (⟨(qv_l2 c4 (qv_lb1 (⟨hv_x1.1, (qv_h4 c4 (qv_ub (⟨hv_p1.1, hv_p1.2⟩ : qv (0) (8) p1) (by decide)))⟩ : qv (0) (7) x1) (by decide))), hv_p1.2⟩ : qv (1) (8) p1) (by decide)))⟩ : qv (0) (7) x1) (by decide) (by decide) : qv (0) (19) x2).1, (qv_rel hrel hv_o_tried (⟨hv_x1.1, (qv_h4 c4 (qv_ub (⟨(qv_l2 c4 (qv_lb1 (⟨hv_x1.1, (qv_h4 c4 (qv_ub (⟨hv_p1.1, hv_p1.2⟩ : qv (0) (8) p1) (by decide)))⟩ : qv (0) (7) x1) (by decide))), hv_p1.2⟩ : qv (1) (8) p1) (by decide)))⟩ : qv (0) (7) x1) (by decide) (by decide) : qv (0) (19) x2).2⟩ : qv (0) (19) x2) (by decide) (by decide) : qv (0) (19) x2) y5 y6 q7) (cwV 1 hts gX7_putAll_X7_put rfl rfl rfl (by decide +kernel) ⟨Nat.le_of_ble_eq_true rfl, Nat.le_of_ble_eq_true rfl⟩) hXg hK hP hD hS hA hXs [0, 1] rfl rfl  rfl rfl rfl rfl rfl rfl hl.1 rfl (Nat.le_of_ble_eq_true rfl) rfl ⟨Nat.zero_le _, Nat.zero_le _⟩ dX7_putAll_22 (fun H locs hP hD hS => ?_)
        refine lv_iinc (v := x1 + (1 : Int32)) (lv' := [(4, .int (x1 + (1 : Int32))), (0, .ref o), (1, .long p0), (3, .int p1)]) hx hb dX7_putAll_25 hl (k := 0) rfl (by first | rfl | decide) (by decide) rfl (fun ls hl => ?_)
        refine lv_goto (tgt := 3) hx hb dX7_putAll_28 (by decide) ?_
        exact ih (x1 + (1 : Int32)) y5 y6 (qv_w (qv_add (⟨hv_x1.1, (qv_h4 c4 (qv_ub (⟨(qv_l2 c4 (qv_lb1 (⟨hv_x1.1, hv_x1.2⟩ : qv (0) (8) x1) (by decide))), hv_p1.2⟩ : qv (1) (8) p1) (by decide)))⟩ : qv (0) (7) x1) (⟨by decide, by decide⟩ : qv (1) (1) (1 : Int32)) (by decide) (by decide) (by decide) (by decide) : qv (1) (8) (x1 + (1 : Int32))) (by decide) (by decide) : qv (0) (8) (x1 + (1 : Int32))) (rel_X7_putAll hrel hv_o_tried (qv_w (⟨hv_x1.1, (qv_h4 c4 (qv_ub (⟨(qv_l2 c4 (qv_lb1 (⟨hv_x1.1, (qv_h4 c4 (qv_ub (⟨hv_p1.1, hv_p1.2⟩ : qv (0) (8) p1) (by decide)))⟩ : qv (0) (7) x1) (by decide))), hv_p1.2⟩ : qv (1) (8) p1) (by decide)))⟩ : qv (0) (7) x1) (by decide) (by decide) : qv (0) (7) x1) q7) ls _ _ (qw_up hm c4) E (lv_sub hl [0, 1, 2, 3] rfl) hP hD hS
  exact L8 _ (0 : Int32) o_tried o_trial_f (qv_w (⟨by decide, by decide⟩ : qv (0) (0) (0 : Int32)) (by decide) (by decide) : qv (0) (8) (0 : Int32)) (by simp) ls _ _ (Nat.lt_succ_self _) E (lv_sub hl [0, 1, 2, 3] rfl) hP hD hS
theorem putAll_tried (v : Int64) (n : Int32) : ∀ (fuel : Nat) (k t : Int32) (tr : Nat → Int32), (n.toInt - k.toInt).toNat < fuel → 0 ≤ k.toInt → k.toInt ≤ n.toInt → n.toInt ≤ 100 → qv 0 100 t → t.toInt + (n.toInt - k.toInt) ≤ 100 → (f_X7_putAll_L8 v n fuel k t tr).1.toInt = t.toInt + (n.toInt - k.toInt) := by
  intro fuel
  induction fuel with
  | zero => intro k t tr h; exact absurd h (Nat.not_lt_zero _)
  | succ fuel ih =>
    intro k t tr h h0 h1 h2 ht h3
    rw [f_X7_putAll_L8]
    by_cases c : n ≤ k
    · rw [if_pos c]
      have := Int32.le_iff_toInt_le.mp c
      show t.toInt = _
      omega
    · rw [if_neg c]
      have c' : ¬ n.toInt ≤ k.toInt := fun q => c (Int32.le_iff_toInt_le.mpr q)
      have hk : (k + 1).toInt = k.toInt + 1 := qv_inc (lo := 0) (hi := 100) ⟨h0, by omega⟩ (by decide)
      have ht1 : (t + 1).toInt = t.toInt + 1 := qv_inc ht (by decide)
      rw [f_X7_put]
      dsimp only
      have := ih (k + 1) (t + 1) (upd tr t.toNatClampNeg (((v >>> (((8 : Int32) * k).toInt64 &&& 63)) &&& (255 : Int64)).toInt32 &&& (255 : Int32))) (qw_up h c) (by omega) (by omega) h2 ⟨by omega, by omega⟩ (by omega)
      rw [this, hk, ht1]
      omega
theorem post_X7_putAll {a b c d lo' hi' : Int} {t n r : Int32} {v : Int64} {tr tr' : Nat → Int32} (ht : qv a b t) (hn : qv c d n) (q : f_X7_putAll t tr v n = (r, tr')) (e1 : lo' ≤ a + c ∧ 0 ≤ a ∧ 0 ≤ c) (e2 : b + d ≤ hi' ∧ b + d ≤ 100 ∧ b ≤ 100 ∧ d ≤ 100) : qv lo' hi' r := by
  obtain ⟨p1, p2⟩ := ht
  obtain ⟨p3, p4⟩ := hn
  obtain ⟨e1, e3, e4⟩ := e1
  obtain ⟨e2, e5, e6, e7⟩ := e2
  have z : (0 : Int32).toInt = 0 := rfl
  have := putAll_tried v n ((n.toInt - (0 : Int32).toInt).toNat + 1) 0 t tr (Nat.lt_succ_self _) (by decide) (by omega) (by omega) ⟨by omega, by omega⟩ (by omega)
  rw [f_X7_putAll] at q
  rw [q] at this
  dsimp only at this
  constructor <;> omega
