def f_X1_become (p0 : Int32) (p1 : Int32) (p2 : Int32) (p3 : Int32) : Int32 × Int32 × Int32 × Int32 := ((p0, p1, p2, p3))
set_option maxHeartbeats 4000000 in
set_option maxRecDepth 100000 in
theorem c_X1_become (l : Launch) (D : va_G) (cI : ClassId) (tT : Nat) (o : Nat) (o_base : Int32) (o_index : Int32) (o_scale : Int32) (o_disp : Int32) (p0 : Int32) (p1 : Int32) (p2 : Int32) (p3 : Int32) (o_base_o : Int32) (o_index_o : Int32) (o_scale_o : Int32) (o_disp_o : Int32) (hq : f_X1_become p0 p1 p2 p3 = (o_base_o, o_index_o, o_scale_o, o_disp_o)) : qM l yX1_become wsX1_become (qr 0 0) (qX tT) D vwCl [(cI, .int)] [(o, .inr (1, [.int o_base, .int o_index, .int o_scale, .int o_disp]))] [.ref o, .int p0, .int p1, .int p2, .int p3] none [(o, .inr (1, [.int o_base_o, .int o_index_o, .int o_scale_o, .int o_disp_o]))] := by
  refine qM_of (cc := cX1_become) (maxL := 5) (ret := none) (by decide) rfl (Nat.le_of_ble_eq_true rfl) ?_
  intro p e s m args below meth c A ls Z hx hb hml hr hts hown hlk hK hA hXs hP hD hS hl hZ
  have hown : s.vm.findClass RX1 = some m.cls := hown
  have hl : lv_has ls 5 [(0, .ref o), (1, .int p0), (2, .int p1), (3, .int p2), (4, .int p3)] := hl
  have hi_X1 : ∀ w ∈ wsX10, w ∈ wsX1_become := by decide +kernel
  have lk18 := hts (.fieldLink RX1 18 "InstructionCoder$Memory" "base" "I") (by decide +kernel)
  have lk22 := hts (.fieldLink RX1 22 "InstructionCoder$Memory" "index" "I") (by decide +kernel)
  have lk25 := hts (.fieldLink RX1 25 "InstructionCoder$Memory" "scale" "I") (by decide +kernel)
  have lk28 := hts (.fieldLink RX1 28 "InstructionCoder$Memory" "displacement" "I") (by decide +kernel)
  have E := hq
  rw [f_X1_become] at E
  refine lv_aload_n hx hb dX1_become_0 rfl (lv_at hl 0 rfl) ?_
  refine lv_iload_n hx hb dX1_become_1 rfl (lv_at hl 1 rfl) ?_
  refine va_put (D := D) (ci := 1) (v := .int p0) (ty := .int) (C := RX1) (T := TX1) (N := 4) hx hb hts hi_X1 tyX1 tyX1_ok nmX1 hown hK hP hD hS 0 rfl rfl 0 (by decide) lk18 (fun _ h9 => h9) rfl (by decide +kernel) rfl rfl (Nat.le_of_ble_eq_true rfl) dX1_become_2 (fun H locs hP hD hS => ?_)
  have hP : va_P D vwCl [(o, .inr (1, [.int p0, .int o_index, .int o_scale, .int o_disp]))] H := hP
  have hD : va_D A [(o, .inr (1, [.int p0, .int o_index, .int o_scale, .int o_disp]))] := hD
  refine lv_aload_n hx hb dX1_become_5 rfl (lv_at hl 0 rfl) ?_
  refine lv_iload_n hx hb dX1_become_6 rfl (lv_at hl 2 rfl) ?_
  refine va_put (D := D) (ci := 1) (v := .int p1) (ty := .int) (C := RX1) (T := TX1) (N := 4) hx hb hts hi_X1 tyX1 tyX1_ok nmX1 hown hK hP hD hS 0 rfl rfl 1 (by decide) lk22 (fun _ h9 => h9) rfl (by decide +kernel) rfl rfl (Nat.le_of_ble_eq_true rfl) dX1_become_7 (fun H locs hP hD hS => ?_)
  have hP : va_P D vwCl [(o, .inr (1, [.int p0, .int p1, .int o_scale, .int o_disp]))] H := hP
  have hD : va_D A [(o, .inr (1, [.int p0, .int p1, .int o_scale, .int o_disp]))] := hD
  refine lv_aload_n hx hb dX1_become_10 rfl (lv_at hl 0 rfl) ?_
  refine lv_iload_n hx hb dX1_become_11 rfl (lv_at hl 3 rfl) ?_
  refine va_put (D := D) (ci := 1) (v := .int p2) (ty := .int) (C := RX1) (T := TX1) (N := 4) hx hb hts hi_X1 tyX1 tyX1_ok nmX1 hown hK hP hD hS 0 rfl rfl 2 (by decide) lk25 (fun _ h9 => h9) rfl (by decide +kernel) rfl rfl (Nat.le_of_ble_eq_true rfl) dX1_become_12 (fun H locs hP hD hS => ?_)
  have hP : va_P D vwCl [(o, .inr (1, [.int p0, .int p1, .int p2, .int o_disp]))] H := hP
  have hD : va_D A [(o, .inr (1, [.int p0, .int p1, .int p2, .int o_disp]))] := hD
  refine lv_aload_n hx hb dX1_become_15 rfl (lv_at hl 0 rfl) ?_
  refine lv_iload hx hb dX1_become_16 (lv_at hl 4 rfl) ?_
  refine va_put (D := D) (ci := 1) (v := .int p3) (ty := .int) (C := RX1) (T := TX1) (N := 4) hx hb hts hi_X1 tyX1 tyX1_ok nmX1 hown hK hP hD hS 0 rfl rfl 3 (by decide) lk28 (fun _ h9 => h9) rfl (by decide +kernel) rfl rfl (Nat.le_of_ble_eq_true rfl) dX1_become_18 (fun H locs hP hD hS => ?_)
  have hP : va_P D vwCl [(o, .inr (1, [.int p0, .int p1, .int p2, .int p3]))] H := hP
  have hD : va_D A [(o, .inr (1, [.int p0, .int p1, .int p2, .int p3]))] := hD
  cases E
  rw [hZ]
  exact qw_vret hx hb hr hlk hP hD hS dX1_become_21
def f_X1_becomeNone  : Int32 × Int32 × Int32 × Int32 := (match (f_X1_become (-1 : Int32) (-1 : Int32) (1 : Int32) (0 : Int32)) with | (y1, y2, y3, y4) => (y1, y2, y3, y4))
set_option maxHeartbeats 4000000 in
set_option maxRecDepth 100000 in
theorem c_X1_becomeNone (l : Launch) (D : va_G) (cI : ClassId) (tT : Nat) (o : Nat) (o_base : Int32) (o_index : Int32) (o_scale : Int32) (o_disp : Int32) (o_base_o : Int32) (o_index_o : Int32) (o_scale_o : Int32) (o_disp_o : Int32) (hq : f_X1_becomeNone = (o_base_o, o_index_o, o_scale_o, o_disp_o)) : qM l yX1_becomeNone wsX1_becomeNone (qr 1 24) (qX tT) D vwCl [(cI, .int)] [(o, .inr (1, [.int o_base, .int o_index, .int o_scale, .int o_disp]))] [.ref o] none [(o, .inr (1, [.int o_base_o, .int o_index_o, .int o_scale_o, .int o_disp_o]))] := by
  refine qM_of (cc := cX1_becomeNone) (maxL := 1) (ret := none) (by decide) rfl (Nat.le_of_ble_eq_true rfl) ?_
  intro p e s m args below meth c A ls Z hx hb hml hr hts hown hlk hK hA hXs hP hD hS hl hZ
  have hown : s.vm.findClass RX1 = some m.cls := hown
  have hl : lv_has ls 1 [(0, .ref o)] := hl
  have hXg := qX_ok tT
  have E := hq
  rw [f_X1_becomeNone] at E
  refine lv_aload_n hx hb dX1_becomeNone_0 rfl (lv_at hl 0 rfl) ?_
  refine lv_iconst (v := (-1 : Int32)) hx hb dX1_becomeNone_1 (by decide) ?_
  refine lv_iconst (v := (-1 : Int32)) hx hb dX1_becomeNone_2 (by decide) ?_
  refine lv_iconst (v := (1 : Int32)) hx hb dX1_becomeNone_3 (by decide) ?_
  refine lv_iconst (v := (0 : Int32)) hx hb dX1_becomeNone_4 (by decide) ?_
  obtain ⟨y1, y2, y3, y4, q5⟩ : ∃ y1 y2 y3 y4, (f_X1_become (-1 : Int32) (-1 : Int32) (1 : Int32) (0 : Int32)) = (y1, y2, y3, y4) := ⟨_, _, _, _, rfl⟩
  rw [q5] at E
  dsimp only at E
  refine qw_callV (As := [.int (-1 : Int32), .int (-1 : Int32), .int (1 : Int32), .int (0 : Int32)]) (rest := []) (ws' := [(o, .inr (1, [.int y1, .int y2, .int y3, .int y4]))]) (st1 := []) ⟨hx, hb, hml, hown, hts⟩ (c_X1_become l D cI tT o o_base o_index o_scale o_disp (-1 : Int32) (-1 : Int32) (1 : Int32) (0 : Int32) y1 y2 y3 y4 q5) (cwV 4 hts gX1_becomeNone_X1_become rfl rfl rfl (by decide +kernel) ⟨Nat.le_of_ble_eq_true rfl, Nat.le_of_ble_eq_true rfl⟩) hXg hK hP hD hS hA hXs [0] rfl rfl  rfl rfl rfl rfl rfl rfl hl.1 rfl (Nat.le_of_ble_eq_true rfl) rfl ⟨Nat.zero_le _, Nat.zero_le _⟩ dX1_becomeNone_5 (fun H locs hP hD hS => ?_)
  cases E
  rw [hZ]
  exact qw_vret hx hb hr hlk hP hD hS dX1_becomeNone_8
def f_X1_isSound_J6 (x5 : Int32) : Int32 := (x5)
def f_X1_isSound_J22 (x21 : Int32) : Int32 := (x21)
def f_X1_isSound_J17 (o_base : Int32) (x11 : Int32) (x16 : Int32) : Int32 := ((if x11 = 0 then (f_X1_isSound_J22 (0 : Int32)) else (if x16 = 0 then (f_X1_isSound_J22 (0 : Int32)) else (if o_base = (16 : Int32) then (f_X1_isSound_J22 (0 : Int32)) else (f_X1_isSound_J22 (1 : Int32))))))
def f_X1_isSound_J12 (o_base : Int32) (o_index : Int32) (x11 : Int32) : Int32 := ((if o_index < 0 then (f_X1_isSound_J17 o_base x11 (0 : Int32)) else (if (15 : Int32) < o_index then (f_X1_isSound_J17 o_base x11 (0 : Int32)) else (if o_index = (4 : Int32) then (f_X1_isSound_J17 o_base x11 (0 : Int32)) else (f_X1_isSound_J17 o_base x11 (1 : Int32))))))
def f_X1_isSound (o_base : Int32) (o_index : Int32) (o_scale : Int32) : Int32 := (if o_base < (-1 : Int32) then ((0 : Int32)) else (if o_base ≤ (16 : Int32) then (if o_index = (-1 : Int32) then ((if o_scale = (1 : Int32) then (f_X1_isSound_J6 (1 : Int32)) else (f_X1_isSound_J6 (0 : Int32)))) else ((if o_scale = (1 : Int32) then (f_X1_isSound_J12 o_base o_index (1 : Int32)) else (if o_scale = (2 : Int32) then (f_X1_isSound_J12 o_base o_index (1 : Int32)) else (if o_scale = (4 : Int32) then (f_X1_isSound_J12 o_base o_index (1 : Int32)) else (if o_scale = (8 : Int32) then (f_X1_isSound_J12 o_base o_index (1 : Int32)) else (f_X1_isSound_J12 o_base o_index (0 : Int32)))))))) else ((0 : Int32))))
set_option maxHeartbeats 4000000 in
set_option maxRecDepth 100000 in
theorem c_X1_isSound (l : Launch) (D : va_G) (cI : ClassId) (tT : Nat) (o : Nat) (o_base : Int32) (o_index : Int32) (o_scale : Int32) (o_disp : Int32) (r_o : Int32) (hq : f_X1_isSound o_base o_index o_scale = r_o) : qM l yX1_isSound wsX1_isSound (qr 0 0) (qX tT) D vwCl [(cI, .int)] [(o, .inr (1, [.int o_base, .int o_index, .int o_scale, .int o_disp]))] [.ref o] (some (.int r_o)) [(o, .inr (1, [.int o_base, .int o_index, .int o_scale, .int o_disp]))] := by
  refine qM_of (cc := cX1_isSound) (maxL := 3) (ret := (some .boolean)) (by decide) rfl (Nat.le_of_ble_eq_true rfl) ?_
  intro p e s m args below meth c A ls Z hx hb hml hr hts hown hlk hK hA hXs hP hD hS hl hZ
  have hown : s.vm.findClass RX1 = some m.cls := hown
  have hl : lv_has ls 3 [(0, .ref o)] := hl
  have hi_X1 : ∀ w ∈ wsX10, w ∈ wsX1_isSound := by decide +kernel
  have lk18 := hts (.fieldLink RX1 18 "InstructionCoder$Memory" "base" "I") (by decide +kernel)
  have lk22 := hts (.fieldLink RX1 22 "InstructionCoder$Memory" "index" "I") (by decide +kernel)
  have lk25 := hts (.fieldLink RX1 25 "InstructionCoder$Memory" "scale" "I") (by decide +kernel)
  have E := hq
  rw [f_X1_isSound] at E
  refine lv_aload_n hx hb dX1_isSound_0 rfl (lv_at hl 0 rfl) ?_
  refine va_get (D := D) (ci := 1) (v := .int o_base) (C := RX1) (T := TX1) (N := 4) hx hb hts hi_X1 hown hK hP 0 rfl rfl 0 (by decide) lk18 (fun _ h9 => h9) rfl dX1_isSound_1 ?_
  refine lv_iconst (v := (-1 : Int32)) hx hb dX1_isSound_4 (by decide) ?_
  refine lv_icmp_lt (tgt := 17) hx hb dX1_isSound_5 (by decide) (fun c1 => ?_) (fun c1 => ?_)
  · rw [if_pos c1] at E
    refine lv_iconst (v := (0 : Int32)) hx hb dX1_isSound_17 (by decide) ?_
    cases E
    rw [hZ]
    exact qw_zret hx hb hr hlk (Or.inl rfl) hP hD hS dX1_isSound_18
  · rw [if_neg c1] at E
    refine lv_aload_n hx hb dX1_isSound_8 rfl (lv_at hl 0 rfl) ?_
    refine va_get (D := D) (ci := 1) (v := .int o_base) (C := RX1) (T := TX1) (N := 4) hx hb hts hi_X1 hown hK hP 0 rfl rfl 0 (by decide) lk18 (fun _ h9 => h9) rfl dX1_isSound_9 ?_
    refine lv_bipush (v := (16 : Int32)) hx hb dX1_isSound_12 (by decide) ?_
    refine lv_icmp_le (tgt := 19) hx hb dX1_isSound_14 (by decide) (fun c2 => ?_) (fun c2 => ?_)
    · rw [if_pos c2] at E
      refine lv_aload_n hx hb dX1_isSound_19 rfl (lv_at hl 0 rfl) ?_
      refine va_get (D := D) (ci := 1) (v := .int o_index) (C := RX1) (T := TX1) (N := 4) hx hb hts hi_X1 hown hK hP 0 rfl rfl 1 (by decide) lk22 (fun _ h9 => h9) rfl dX1_isSound_20 ?_
      refine lv_iconst (v := (-1 : Int32)) hx hb dX1_isSound_23 (by decide) ?_
      refine lv_icmp_ne (tgt := 41) hx hb dX1_isSound_24 (by decide) (fun c3 => ?_) (fun c3 => ?_)
      · rw [if_neg c3] at E
        refine lv_aload_n hx hb dX1_isSound_41 rfl (lv_at hl 0 rfl) ?_
        refine va_get (D := D) (ci := 1) (v := .int o_scale) (C := RX1) (T := TX1) (N := 4) hx hb hts hi_X1 hown hK hP 0 rfl rfl 2 (by decide) lk25 (fun _ h9 => h9) rfl dX1_isSound_42 ?_
        refine lv_iconst (v := (1 : Int32)) hx hb dX1_isSound_45 (by decide) ?_
        have J12 : ∀ (x11 : Int32) (hb_x11 : x11 = 0 ∨ x11 = 1) (ls : Array Slot) (H : Heap) (locs : List Loc), f_X1_isSound_J12 o_base o_index x11 = r_o → lv_has ls 3 [(0, .ref o)] → va_P D vwCl [(o, .inr (1, [.int o_base, .int o_index, .int o_scale, .int o_disp]))] H → va_D A [(o, .inr (1, [.int o_base, .int o_index, .int o_scale, .int o_disp]))] → va_S A s.heap H locs → W p l e (qr 0 0) s m args below meth c H locs 0 0 Z (F0 m 79 ls [.int x11]) := by
          intro x11 hb_x11 ls H locs E hl hP hD hS
          rw [f_X1_isSound_J12] at E
          refine lv_istore_n (lv' := [(1, .int x11), (0, .ref o)]) hx hb dX1_isSound_79 rfl hl (by decide) rfl (fun ls hl => ?_)
          refine lv_aload_n hx hb dX1_isSound_80 rfl (lv_at hl 1 rfl) ?_
          refine va_get (D := D) (ci := 1) (v := .int o_index) (C := RX1) (T := TX1) (N := 4) hx hb hts hi_X1 hown hK hP 0 rfl rfl 1 (by decide) lk22 (fun _ h9 => h9) rfl dX1_isSound_81 ?_
          have J17 : ∀ (x16 : Int32) (hb_x16 : x16 = 0 ∨ x16 = 1) (ls : Array Slot) (H : Heap) (locs : List Loc), f_X1_isSound_J17 o_base x11 x16 = r_o → lv_has ls 3 [(1, .int x11), (0, .ref o)] → va_P D vwCl [(o, .inr (1, [.int o_base, .int o_index, .int o_scale, .int o_disp]))] H → va_D A [(o, .inr (1, [.int o_base, .int o_index, .int o_scale, .int o_disp]))] → va_S A s.heap H locs → W p l e (qr 0 0) s m args below meth c H locs 0 0 Z (F0 m 109 ls [.int x16]) := by
            intro x16 hb_x16 ls H locs E hl hP hD hS
            rw [f_X1_isSound_J17] at E
            refine lv_istore_n (lv' := [(2, .int x16), (1, .int x11), (0, .ref o)]) hx hb dX1_isSound_109 rfl hl (by decide) rfl (fun ls hl => ?_)
            refine lv_iload_n hx hb dX1_isSound_110 rfl (lv_at hl 1 rfl) ?_
            have J22 : ∀ (x21 : Int32) (hb_x21 : x21 = 0 ∨ x21 = 1) (ls : Array Slot) (H : Heap) (locs : List Loc), f_X1_isSound_J22 x21 = r_o → lv_has ls 3 [(2, .int x16), (1, .int x11), (0, .ref o)] → va_P D vwCl [(o, .inr (1, [.int o_base, .int o_index, .int o_scale, .int o_disp]))] H → va_D A [(o, .inr (1, [.int o_base, .int o_index, .int o_scale, .int o_disp]))] → va_S A s.heap H locs → W p l e (qr 0 0) s m args below meth c H locs 0 0 Z (F0 m 132 ls [.int x21]) := by
              intro x21 hb_x21 ls H locs E hl hP hD hS
              rw [f_X1_isSound_J22] at E
              cases E
              rw [hZ]
              exact qw_zret hx hb hr hlk hb_x21 hP hD hS dX1_isSound_132
            refine lv_if_eq (tgt := 131) hx hb dX1_isSound_111 (by decide) (fun c18 => ?_) (fun c18 => ?_)
            · rw [if_pos c18] at E
              refine lv_iconst (v := (0 : Int32)) hx hb dX1_isSound_131 (by decide) ?_
              exact J22 (0 : Int32) (Or.inl rfl) ls _ _ E (lv_sub hl [0, 1, 2] rfl) hP hD hS
            · rw [if_neg c18] at E
              refine lv_iload_n hx hb dX1_isSound_114 rfl (lv_at hl 0 rfl) ?_
              refine lv_if_eq (tgt := 131) hx hb dX1_isSound_115 (by decide) (fun c19 => ?_) (fun c19 => ?_)
              · rw [if_pos c19] at E
                refine lv_iconst (v := (0 : Int32)) hx hb dX1_isSound_131 (by decide) ?_
                exact J22 (0 : Int32) (Or.inl rfl) ls _ _ E (lv_sub hl [0, 1, 2] rfl) hP hD hS
              · rw [if_neg c19] at E
                refine lv_aload_n hx hb dX1_isSound_118 rfl (lv_at hl 2 rfl) ?_
                refine va_get (D := D) (ci := 1) (v := .int o_base) (C := RX1) (T := TX1) (N := 4) hx hb hts hi_X1 hown hK hP 0 rfl rfl 0 (by decide) lk18 (fun _ h9 => h9) rfl dX1_isSound_119 ?_
                refine lv_bipush (v := (16 : Int32)) hx hb dX1_isSound_122 (by decide) ?_
                refine lv_icmp_eq (tgt := 131) hx hb dX1_isSound_124 (by decide) (fun c20 => ?_) (fun c20 => ?_)
                · rw [if_pos c20] at E
                  refine lv_iconst (v := (0 : Int32)) hx hb dX1_isSound_131 (by decide) ?_
                  exact J22 (0 : Int32) (Or.inl rfl) ls _ _ E (lv_sub hl [0, 1, 2] rfl) hP hD hS
                · rw [if_neg c20] at E
                  refine lv_iconst (v := (1 : Int32)) hx hb dX1_isSound_127 (by decide) ?_
                  refine lv_goto (tgt := 132) hx hb dX1_isSound_128 (by decide) ?_
                  exact J22 (1 : Int32) (Or.inr rfl) ls _ _ E (lv_sub hl [0, 1, 2] rfl) hP hD hS
          refine lv_if_lt (tgt := 108) hx hb dX1_isSound_84 (by decide) (fun c13 => ?_) (fun c13 => ?_)
          · rw [if_pos c13] at E
            refine lv_iconst (v := (0 : Int32)) hx hb dX1_isSound_108 (by decide) ?_
            exact J17 (0 : Int32) (Or.inl rfl) ls _ _ E (lv_sub hl [0, 1] rfl) hP hD hS
          · rw [if_neg c13] at E
            refine lv_aload_n hx hb dX1_isSound_87 rfl (lv_at hl 1 rfl) ?_
            refine va_get (D := D) (ci := 1) (v := .int o_index) (C := RX1) (T := TX1) (N := 4) hx hb hts hi_X1 hown hK hP 0 rfl rfl 1 (by decide) lk22 (fun _ h9 => h9) rfl dX1_isSound_88 ?_
            refine lv_bipush (v := (15 : Int32)) hx hb dX1_isSound_91 (by decide) ?_
            refine lv_icmp_gt (tgt := 108) hx hb dX1_isSound_93 (by decide) (fun c14 => ?_) (fun c14 => ?_)
            · rw [if_pos c14] at E
              refine lv_iconst (v := (0 : Int32)) hx hb dX1_isSound_108 (by decide) ?_
              exact J17 (0 : Int32) (Or.inl rfl) ls _ _ E (lv_sub hl [0, 1] rfl) hP hD hS
            · rw [if_neg c14] at E
              refine lv_aload_n hx hb dX1_isSound_96 rfl (lv_at hl 1 rfl) ?_
              refine va_get (D := D) (ci := 1) (v := .int o_index) (C := RX1) (T := TX1) (N := 4) hx hb hts hi_X1 hown hK hP 0 rfl rfl 1 (by decide) lk22 (fun _ h9 => h9) rfl dX1_isSound_97 ?_
              refine lv_iconst (v := (4 : Int32)) hx hb dX1_isSound_100 (by decide) ?_
              refine lv_icmp_eq (tgt := 108) hx hb dX1_isSound_101 (by decide) (fun c15 => ?_) (fun c15 => ?_)
              · rw [if_pos c15] at E
                refine lv_iconst (v := (0 : Int32)) hx hb dX1_isSound_108 (by decide) ?_
                exact J17 (0 : Int32) (Or.inl rfl) ls _ _ E (lv_sub hl [0, 1] rfl) hP hD hS
              · rw [if_neg c15] at E
                refine lv_iconst (v := (1 : Int32)) hx hb dX1_isSound_104 (by decide) ?_
                refine lv_goto (tgt := 109) hx hb dX1_isSound_105 (by decide) ?_
                exact J17 (1 : Int32) (Or.inr rfl) ls _ _ E (lv_sub hl [0, 1] rfl) hP hD hS
        refine lv_icmp_eq (tgt := 74) hx hb dX1_isSound_46 (by decide) (fun c7 => ?_) (fun c7 => ?_)
        · rw [if_pos c7] at E
          refine lv_iconst (v := (1 : Int32)) hx hb dX1_isSound_74 (by decide) ?_
          refine lv_goto (tgt := 79) hx hb dX1_isSound_75 (by decide) ?_
          exact J12 (1 : Int32) (Or.inr rfl) ls _ _ E (lv_sub hl [0] rfl) hP hD hS
        · rw [if_neg c7] at E
          refine lv_aload_n hx hb dX1_isSound_49 rfl (lv_at hl 0 rfl) ?_
          refine va_get (D := D) (ci := 1) (v := .int o_scale) (C := RX1) (T := TX1) (N := 4) hx hb hts hi_X1 hown hK hP 0 rfl rfl 2 (by decide) lk25 (fun _ h9 => h9) rfl dX1_isSound_50 ?_
          refine lv_iconst (v := (2 : Int32)) hx hb dX1_isSound_53 (by decide) ?_
          refine lv_icmp_eq (tgt := 74) hx hb dX1_isSound_54 (by decide) (fun c8 => ?_) (fun c8 => ?_)
          · rw [if_pos c8] at E
            refine lv_iconst (v := (1 : Int32)) hx hb dX1_isSound_74 (by decide) ?_
            refine lv_goto (tgt := 79) hx hb dX1_isSound_75 (by decide) ?_
            exact J12 (1 : Int32) (Or.inr rfl) ls _ _ E (lv_sub hl [0] rfl) hP hD hS
          · rw [if_neg c8] at E
            refine lv_aload_n hx hb dX1_isSound_57 rfl (lv_at hl 0 rfl) ?_
            refine va_get (D := D) (ci := 1) (v := .int o_scale) (C := RX1) (T := TX1) (N := 4) hx hb hts hi_X1 hown hK hP 0 rfl rfl 2 (by decide) lk25 (fun _ h9 => h9) rfl dX1_isSound_58 ?_
            refine lv_iconst (v := (4 : Int32)) hx hb dX1_isSound_61 (by decide) ?_
            refine lv_icmp_eq (tgt := 74) hx hb dX1_isSound_62 (by decide) (fun c9 => ?_) (fun c9 => ?_)
            · rw [if_pos c9] at E
              refine lv_iconst (v := (1 : Int32)) hx hb dX1_isSound_74 (by decide) ?_
              refine lv_goto (tgt := 79) hx hb dX1_isSound_75 (by decide) ?_
              exact J12 (1 : Int32) (Or.inr rfl) ls _ _ E (lv_sub hl [0] rfl) hP hD hS
            · rw [if_neg c9] at E
              refine lv_aload_n hx hb dX1_isSound_65 rfl (lv_at hl 0 rfl) ?_
              refine va_get (D := D) (ci := 1) (v := .int o_scale) (C := RX1) (T := TX1) (N := 4) hx hb hts hi_X1 hown hK hP 0 rfl rfl 2 (by decide) lk25 (fun _ h9 => h9) rfl dX1_isSound_66 ?_
              refine lv_bipush (v := (8 : Int32)) hx hb dX1_isSound_69 (by decide) ?_
              refine lv_icmp_ne (tgt := 78) hx hb dX1_isSound_71 (by decide) (fun c10 => ?_) (fun c10 => ?_)
              · rw [if_neg c10] at E
                refine lv_iconst (v := (0 : Int32)) hx hb dX1_isSound_78 (by decide) ?_
                exact J12 (0 : Int32) (Or.inl rfl) ls _ _ E (lv_sub hl [0] rfl) hP hD hS
              · rw [if_pos c10] at E
                refine lv_iconst (v := (1 : Int32)) hx hb dX1_isSound_74 (by decide) ?_
                refine lv_goto (tgt := 79) hx hb dX1_isSound_75 (by decide) ?_
                exact J12 (1 : Int32) (Or.inr rfl) ls _ _ E (lv_sub hl [0] rfl) hP hD hS
      · rw [if_pos c3] at E
        refine lv_aload_n hx hb dX1_isSound_27 rfl (lv_at hl 0 rfl) ?_
        refine va_get (D := D) (ci := 1) (v := .int o_scale) (C := RX1) (T := TX1) (N := 4) hx hb hts hi_X1 hown hK hP 0 rfl rfl 2 (by decide) lk25 (fun _ h9 => h9) rfl dX1_isSound_28 ?_
        refine lv_iconst (v := (1 : Int32)) hx hb dX1_isSound_31 (by decide) ?_
        have J6 : ∀ (x5 : Int32) (hb_x5 : x5 = 0 ∨ x5 = 1) (ls : Array Slot) (H : Heap) (locs : List Loc), f_X1_isSound_J6 x5 = r_o → lv_has ls 3 [(0, .ref o)] → va_P D vwCl [(o, .inr (1, [.int o_base, .int o_index, .int o_scale, .int o_disp]))] H → va_D A [(o, .inr (1, [.int o_base, .int o_index, .int o_scale, .int o_disp]))] → va_S A s.heap H locs → W p l e (qr 0 0) s m args below meth c H locs 0 0 Z (F0 m 40 ls [.int x5]) := by
          intro x5 hb_x5 ls H locs E hl hP hD hS
          rw [f_X1_isSound_J6] at E
          cases E
          rw [hZ]
          exact qw_zret hx hb hr hlk hb_x5 hP hD hS dX1_isSound_40
        refine lv_icmp_ne (tgt := 39) hx hb dX1_isSound_32 (by decide) (fun c4 => ?_) (fun c4 => ?_)
        · rw [if_neg c4] at E
          refine lv_iconst (v := (0 : Int32)) hx hb dX1_isSound_39 (by decide) ?_
          exact J6 (0 : Int32) (Or.inl rfl) ls _ _ E (lv_sub hl [0] rfl) hP hD hS
        · rw [if_pos c4] at E
          refine lv_iconst (v := (1 : Int32)) hx hb dX1_isSound_35 (by decide) ?_
          refine lv_goto (tgt := 40) hx hb dX1_isSound_36 (by decide) ?_
          exact J6 (1 : Int32) (Or.inr rfl) ls _ _ E (lv_sub hl [0] rfl) hP hD hS
    · rw [if_neg c2] at E
      refine lv_iconst (v := (0 : Int32)) hx hb dX1_isSound_17 (by decide) ?_
      cases E
      rw [hZ]
      exact qw_zret hx hb hr hlk (Or.inl rfl) hP hD hS dX1_isSound_18
def f_X1_hasBaseRegister_J4 (x3 : Int32) : Int32 := (x3)
def f_X1_hasBaseRegister (o_base : Int32) : Int32 := ((if o_base = (-1 : Int32) then (f_X1_hasBaseRegister_J4 (0 : Int32)) else (if o_base = (16 : Int32) then (f_X1_hasBaseRegister_J4 (0 : Int32)) else (f_X1_hasBaseRegister_J4 (1 : Int32)))))
set_option maxHeartbeats 4000000 in
set_option maxRecDepth 100000 in
theorem c_X1_hasBaseRegister (l : Launch) (D : va_G) (cI : ClassId) (tT : Nat) (o : Nat) (o_base : Int32) (o_index : Int32) (o_scale : Int32) (o_disp : Int32) (r_o : Int32) (hq : f_X1_hasBaseRegister o_base = r_o) : qM l yX1_hasBaseRegister wsX1_hasBaseRegister (qr 0 0) (qX tT) D vwCl [(cI, .int)] [(o, .inr (1, [.int o_base, .int o_index, .int o_scale, .int o_disp]))] [.ref o] (some (.int r_o)) [(o, .inr (1, [.int o_base, .int o_index, .int o_scale, .int o_disp]))] := by
  refine qM_of (cc := cX1_hasBaseRegister) (maxL := 1) (ret := (some .boolean)) (by decide) rfl (Nat.le_of_ble_eq_true rfl) ?_
  intro p e s m args below meth c A ls Z hx hb hml hr hts hown hlk hK hA hXs hP hD hS hl hZ
  have hown : s.vm.findClass RX1 = some m.cls := hown
  have hl : lv_has ls 1 [(0, .ref o)] := hl
  have hi_X1 : ∀ w ∈ wsX10, w ∈ wsX1_hasBaseRegister := by decide +kernel
  have lk18 := hts (.fieldLink RX1 18 "InstructionCoder$Memory" "base" "I") (by decide +kernel)
  have E := hq
  rw [f_X1_hasBaseRegister] at E
  refine lv_aload_n hx hb dX1_hasBaseRegister_0 rfl (lv_at hl 0 rfl) ?_
  refine va_get (D := D) (ci := 1) (v := .int o_base) (C := RX1) (T := TX1) (N := 4) hx hb hts hi_X1 hown hK hP 0 rfl rfl 0 (by decide) lk18 (fun _ h9 => h9) rfl dX1_hasBaseRegister_1 ?_
  refine lv_iconst (v := (-1 : Int32)) hx hb dX1_hasBaseRegister_4 (by decide) ?_
  have J4 : ∀ (x3 : Int32) (hb_x3 : x3 = 0 ∨ x3 = 1) (ls : Array Slot) (H : Heap) (locs : List Loc), f_X1_hasBaseRegister_J4 x3 = r_o → lv_has ls 1 [(0, .ref o)] → va_P D vwCl [(o, .inr (1, [.int o_base, .int o_index, .int o_scale, .int o_disp]))] H → va_D A [(o, .inr (1, [.int o_base, .int o_index, .int o_scale, .int o_disp]))] → va_S A s.heap H locs → W p l e (qr 0 0) s m args below meth c H locs 0 0 Z (F0 m 22 ls [.int x3]) := by
    intro x3 hb_x3 ls H locs E hl hP hD hS
    rw [f_X1_hasBaseRegister_J4] at E
    cases E
    rw [hZ]
    exact qw_zret hx hb hr hlk hb_x3 hP hD hS dX1_hasBaseRegister_22
  refine lv_icmp_eq (tgt := 21) hx hb dX1_hasBaseRegister_5 (by decide) (fun c1 => ?_) (fun c1 => ?_)
  · rw [if_pos c1] at E
    refine lv_iconst (v := (0 : Int32)) hx hb dX1_hasBaseRegister_21 (by decide) ?_
    exact J4 (0 : Int32) (Or.inl rfl) ls _ _ E (lv_sub hl [0] rfl) hP hD hS
  · rw [if_neg c1] at E
    refine lv_aload_n hx hb dX1_hasBaseRegister_8 rfl (lv_at hl 0 rfl) ?_
    refine va_get (D := D) (ci := 1) (v := .int o_base) (C := RX1) (T := TX1) (N := 4) hx hb hts hi_X1 hown hK hP 0 rfl rfl 0 (by decide) lk18 (fun _ h9 => h9) rfl dX1_hasBaseRegister_9 ?_
    refine lv_bipush (v := (16 : Int32)) hx hb dX1_hasBaseRegister_12 (by decide) ?_
    refine lv_icmp_eq (tgt := 21) hx hb dX1_hasBaseRegister_14 (by decide) (fun c2 => ?_) (fun c2 => ?_)
    · rw [if_pos c2] at E
      refine lv_iconst (v := (0 : Int32)) hx hb dX1_hasBaseRegister_21 (by decide) ?_
      exact J4 (0 : Int32) (Or.inl rfl) ls _ _ E (lv_sub hl [0] rfl) hP hD hS
    · rw [if_neg c2] at E
      refine lv_iconst (v := (1 : Int32)) hx hb dX1_hasBaseRegister_17 (by decide) ?_
      refine lv_goto (tgt := 22) hx hb dX1_hasBaseRegister_18 (by decide) ?_
      exact J4 (1 : Int32) (Or.inr rfl) ls _ _ E (lv_sub hl [0] rfl) hP hD hS
def f_X1_needsIndexByte_J6 (x5 : Int32) : Int32 := (x5)
def f_X1_needsIndexByte (o_base : Int32) (o_index : Int32) : Int32 := ((if o_base = (-1 : Int32) then (f_X1_needsIndexByte_J6 (1 : Int32)) else (if o_index = (-1 : Int32) then (if (f_X1_hasBaseRegister o_base) = 0 then (f_X1_needsIndexByte_J6 (0 : Int32)) else (if (o_base &&& (7 : Int32)) = (4 : Int32) then (f_X1_needsIndexByte_J6 (1 : Int32)) else (f_X1_needsIndexByte_J6 (0 : Int32)))) else (f_X1_needsIndexByte_J6 (1 : Int32)))))
set_option maxHeartbeats 4000000 in
set_option maxRecDepth 100000 in
theorem c_X1_needsIndexByte (l : Launch) (D : va_G) (cI : ClassId) (tT : Nat) (o : Nat) (o_base : Int32) (o_index : Int32) (o_scale : Int32) (o_disp : Int32) (r_o : Int32) (hq : f_X1_needsIndexByte o_base o_index = r_o) : qM l yX1_needsIndexByte wsX1_needsIndexByte (qr 1 20) (qX tT) D vwCl [(cI, .int)] [(o, .inr (1, [.int o_base, .int o_index, .int o_scale, .int o_disp]))] [.ref o] (some (.int r_o)) [(o, .inr (1, [.int o_base, .int o_index, .int o_scale, .int o_disp]))] := by
  refine qM_of (cc := cX1_needsIndexByte) (maxL := 1) (ret := (some .boolean)) (by decide) rfl (Nat.le_of_ble_eq_true rfl) ?_
  intro p e s m args below meth c A ls Z hx hb hml hr hts hown hlk hK hA hXs hP hD hS hl hZ
  have hown : s.vm.findClass RX1 = some m.cls := hown
  have hl : lv_has ls 1 [(0, .ref o)] := hl
  have hi_X1 : ∀ w ∈ wsX10, w ∈ wsX1_needsIndexByte := by decide +kernel
  have lk18 := hts (.fieldLink RX1 18 "InstructionCoder$Memory" "base" "I") (by decide +kernel)
  have lk22 := hts (.fieldLink RX1 22 "InstructionCoder$Memory" "index" "I") (by decide +kernel)
  have hXg := qX_ok tT
  have E := hq
  rw [f_X1_needsIndexByte] at E
  refine lv_aload_n hx hb dX1_needsIndexByte_0 rfl (lv_at hl 0 rfl) ?_
  refine va_get (D := D) (ci := 1) (v := .int o_base) (C := RX1) (T := TX1) (N := 4) hx hb hts hi_X1 hown hK hP 0 rfl rfl 0 (by decide) lk18 (fun _ h9 => h9) rfl dX1_needsIndexByte_1 ?_
  refine lv_iconst (v := (-1 : Int32)) hx hb dX1_needsIndexByte_4 (by decide) ?_
  have J6 : ∀ (x5 : Int32) (hb_x5 : x5 = 0 ∨ x5 = 1) (ls : Array Slot) (H : Heap) (locs : List Loc), f_X1_needsIndexByte_J6 x5 = r_o → lv_has ls 1 [(0, .ref o)] → va_P D vwCl [(o, .inr (1, [.int o_base, .int o_index, .int o_scale, .int o_disp]))] H → va_D A [(o, .inr (1, [.int o_base, .int o_index, .int o_scale, .int o_disp]))] → va_S A s.heap H locs → W p l e (qr 1 20) s m args below meth c H locs 0 0 Z (F0 m 39 ls [.int x5]) := by
    intro x5 hb_x5 ls H locs E hl hP hD hS
    rw [f_X1_needsIndexByte_J6] at E
    cases E
    rw [hZ]
    exact qw_zret hx hb hr hlk hb_x5 hP hD hS dX1_needsIndexByte_39
  refine lv_icmp_eq (tgt := 34) hx hb dX1_needsIndexByte_5 (by decide) (fun c1 => ?_) (fun c1 => ?_)
  · rw [if_pos c1] at E
    refine lv_iconst (v := (1 : Int32)) hx hb dX1_needsIndexByte_34 (by decide) ?_
    refine lv_goto (tgt := 39) hx hb dX1_needsIndexByte_35 (by decide) ?_
    exact J6 (1 : Int32) (Or.inr rfl) ls _ _ E (lv_sub hl [0] rfl) hP hD hS
  · rw [if_neg c1] at E
    refine lv_aload_n hx hb dX1_needsIndexByte_8 rfl (lv_at hl 0 rfl) ?_
    refine va_get (D := D) (ci := 1) (v := .int o_index) (C := RX1) (T := TX1) (N := 4) hx hb hts hi_X1 hown hK hP 0 rfl rfl 1 (by decide) lk22 (fun _ h9 => h9) rfl dX1_needsIndexByte_9 ?_
    refine lv_iconst (v := (-1 : Int32)) hx hb dX1_needsIndexByte_12 (by decide) ?_
    refine lv_icmp_ne (tgt := 34) hx hb dX1_needsIndexByte_13 (by decide) (fun c2 => ?_) (fun c2 => ?_)
    · rw [if_neg c2] at E
      refine lv_iconst (v := (1 : Int32)) hx hb dX1_needsIndexByte_34 (by decide) ?_
      refine lv_goto (tgt := 39) hx hb dX1_needsIndexByte_35 (by decide) ?_
      exact J6 (1 : Int32) (Or.inr rfl) ls _ _ E (lv_sub hl [0] rfl) hP hD hS
    · rw [if_pos c2] at E
      refine lv_aload_n hx hb dX1_needsIndexByte_16 rfl (lv_at hl 0 rfl) ?_
      refine qw_callV (As := []) (rest := []) (ws' := [(o, .inr (1, [.int o_base, .int o_index, .int o_scale, .int o_disp]))]) (st1 := [.int (f_X1_hasBaseRegister o_base)]) ⟨hx, hb, hml, hown, hts⟩ (c_X1_hasBaseRegister l D cI tT o o_base o_index o_scale o_disp (f_X1_hasBaseRegister o_base) rfl) (cwV 0 hts gX1_needsIndexByte_X1_hasBaseRegister rfl rfl rfl (by decide +kernel) ⟨Nat.le_of_ble_eq_true rfl, Nat.le_of_ble_eq_true rfl⟩) hXg hK hP hD hS hA hXs [0] rfl rfl  rfl rfl rfl rfl rfl rfl hl.1 rfl (Nat.le_of_ble_eq_true rfl) rfl ⟨Nat.zero_le _, Nat.zero_le _⟩ dX1_needsIndexByte_17 (fun H locs hP hD hS => ?_)
      refine lv_if_eq (tgt := 38) hx hb dX1_needsIndexByte_20 (by decide) (fun c3 => ?_) (fun c3 => ?_)
      · rw [if_pos c3] at E
        refine lv_iconst (v := (0 : Int32)) hx hb dX1_needsIndexByte_38 (by decide) ?_
        exact J6 (0 : Int32) (Or.inl rfl) ls _ _ E (lv_sub hl [0] rfl) hP hD hS
      · rw [if_neg c3] at E
        refine lv_aload_n hx hb dX1_needsIndexByte_23 rfl (lv_at hl 0 rfl) ?_
        refine va_get (D := D) (ci := 1) (v := .int o_base) (C := RX1) (T := TX1) (N := 4) hx hb hts hi_X1 hown hK hP 0 rfl rfl 0 (by decide) lk18 (fun _ h9 => h9) rfl dX1_needsIndexByte_24 ?_
        refine lv_bipush (v := (7 : Int32)) hx hb dX1_needsIndexByte_27 (by decide) ?_
        refine lv_iand hx hb dX1_needsIndexByte_29 ?_
        refine lv_iconst (v := (4 : Int32)) hx hb dX1_needsIndexByte_30 (by decide) ?_
        refine lv_icmp_ne (tgt := 38) hx hb dX1_needsIndexByte_31 (by decide) (fun c4 => ?_) (fun c4 => ?_)
        · rw [if_neg c4] at E
          refine lv_iconst (v := (0 : Int32)) hx hb dX1_needsIndexByte_38 (by decide) ?_
          exact J6 (0 : Int32) (Or.inl rfl) ls _ _ E (lv_sub hl [0] rfl) hP hD hS
        · rw [if_pos c4] at E
          refine lv_iconst (v := (1 : Int32)) hx hb dX1_needsIndexByte_34 (by decide) ?_
          refine lv_goto (tgt := 39) hx hb dX1_needsIndexByte_35 (by decide) ?_
          exact J6 (1 : Int32) (Or.inr rfl) ls _ _ E (lv_sub hl [0] rfl) hP hD hS
def f_X1_mod_J7 (x6 : Int32) : Int32 := (x6)
def f_X1_mod_J4 (o_disp : Int32) : Int32 := ((if o_disp = ((o_disp).toInt8.toInt32) then (f_X1_mod_J7 (1 : Int32)) else (f_X1_mod_J7 (2 : Int32))))
def f_X1_mod (o_base : Int32) (o_disp : Int32) : Int32 := (if (f_X1_hasBaseRegister o_base) = 0 then ((0 : Int32)) else ((if o_disp = 0 then (if (o_base &&& (7 : Int32)) = (5 : Int32) then (f_X1_mod_J4 o_disp) else ((0 : Int32))) else (f_X1_mod_J4 o_disp))))
set_option maxHeartbeats 4000000 in
set_option maxRecDepth 100000 in
theorem c_X1_mod (l : Launch) (D : va_G) (cI : ClassId) (tT : Nat) (o : Nat) (o_base : Int32) (o_index : Int32) (o_scale : Int32) (o_disp : Int32) (r_o : Int32) (hq : f_X1_mod o_base o_disp = r_o) : qM l yX1_mod wsX1_mod (qr 1 20) (qX tT) D vwCl [(cI, .int)] [(o, .inr (1, [.int o_base, .int o_index, .int o_scale, .int o_disp]))] [.ref o] (some (.int r_o)) [(o, .inr (1, [.int o_base, .int o_index, .int o_scale, .int o_disp]))] := by
  refine qM_of (cc := cX1_mod) (maxL := 1) (ret := (some .int)) (by decide) rfl (Nat.le_of_ble_eq_true rfl) ?_
  intro p e s m args below meth c A ls Z hx hb hml hr hts hown hlk hK hA hXs hP hD hS hl hZ
  have hown : s.vm.findClass RX1 = some m.cls := hown
  have hl : lv_has ls 1 [(0, .ref o)] := hl
  have hi_X1 : ∀ w ∈ wsX10, w ∈ wsX1_mod := by decide +kernel
  have lk18 := hts (.fieldLink RX1 18 "InstructionCoder$Memory" "base" "I") (by decide +kernel)
  have lk28 := hts (.fieldLink RX1 28 "InstructionCoder$Memory" "displacement" "I") (by decide +kernel)
  have hXg := qX_ok tT
  have E := hq
  rw [f_X1_mod] at E
  refine lv_aload_n hx hb dX1_mod_0 rfl (lv_at hl 0 rfl) ?_
  refine qw_callV (As := []) (rest := []) (ws' := [(o, .inr (1, [.int o_base, .int o_index, .int o_scale, .int o_disp]))]) (st1 := [.int (f_X1_hasBaseRegister o_base)]) ⟨hx, hb, hml, hown, hts⟩ (c_X1_hasBaseRegister l D cI tT o o_base o_index o_scale o_disp (f_X1_hasBaseRegister o_base) rfl) (cwV 0 hts gX1_mod_X1_hasBaseRegister rfl rfl rfl (by decide +kernel) ⟨Nat.le_of_ble_eq_true rfl, Nat.le_of_ble_eq_true rfl⟩) hXg hK hP hD hS hA hXs [0] rfl rfl  rfl rfl rfl rfl rfl rfl hl.1 rfl (Nat.le_of_ble_eq_true rfl) rfl ⟨Nat.zero_le _, Nat.zero_le _⟩ dX1_mod_1 (fun H locs hP hD hS => ?_)
  refine lv_if_ne (tgt := 9) hx hb dX1_mod_4 (by decide) (fun c1 => ?_) (fun c1 => ?_)
  · rw [if_neg c1] at E
    refine lv_aload_n hx hb dX1_mod_9 rfl (lv_at hl 0 rfl) ?_
    refine va_get (D := D) (ci := 1) (v := .int o_disp) (C := RX1) (T := TX1) (N := 4) hx hb hts hi_X1 hown hK hP 0 rfl rfl 3 (by decide) lk28 (fun _ h9 => h9) rfl dX1_mod_10 ?_
    have J4 : ∀  (ls : Array Slot) (H : Heap) (locs : List Loc), f_X1_mod_J4 o_disp = r_o → lv_has ls 1 [(0, .ref o)] → va_P D vwCl [(o, .inr (1, [.int o_base, .int o_index, .int o_scale, .int o_disp]))] H → va_D A [(o, .inr (1, [.int o_base, .int o_index, .int o_scale, .int o_disp]))] → va_S A s.heap H locs → W p l e (qr 1 20) s m args below meth c H locs 0 0 Z (F0 m 29 ls []) := by
      intro  ls H locs E hl hP hD hS
      rw [f_X1_mod_J4] at E
      refine lv_aload_n hx hb dX1_mod_29 rfl (lv_at hl 0 rfl) ?_
      refine va_get (D := D) (ci := 1) (v := .int o_disp) (C := RX1) (T := TX1) (N := 4) hx hb hts hi_X1 hown hK hP 0 rfl rfl 3 (by decide) lk28 (fun _ h9 => h9) rfl dX1_mod_30 ?_
      refine lv_aload_n hx hb dX1_mod_33 rfl (lv_at hl 0 rfl) ?_
      refine va_get (D := D) (ci := 1) (v := .int o_disp) (C := RX1) (T := TX1) (N := 4) hx hb hts hi_X1 hown hK hP 0 rfl rfl 3 (by decide) lk28 (fun _ h9 => h9) rfl dX1_mod_34 ?_
      refine lv_i2b (v := (o_disp).toInt8.toInt32) hx hb dX1_mod_37 rfl ?_
      have J7 : ∀ (x6 : Int32) (ls : Array Slot) (H : Heap) (locs : List Loc), f_X1_mod_J7 x6 = r_o → lv_has ls 1 [(0, .ref o)] → va_P D vwCl [(o, .inr (1, [.int o_base, .int o_index, .int o_scale, .int o_disp]))] H → va_D A [(o, .inr (1, [.int o_base, .int o_index, .int o_scale, .int o_disp]))] → va_S A s.heap H locs → W p l e (qr 1 20) s m args below meth c H locs 0 0 Z (F0 m 46 ls [.int x6]) := by
        intro x6 ls H locs E hl hP hD hS
        rw [f_X1_mod_J7] at E
        cases E
        rw [hZ]
        exact qw_iret hx hb hr hlk hP hD hS dX1_mod_46
      refine lv_icmp_ne (tgt := 45) hx hb dX1_mod_38 (by decide) (fun c5 => ?_) (fun c5 => ?_)
      · rw [if_neg c5] at E
        refine lv_iconst (v := (2 : Int32)) hx hb dX1_mod_45 (by decide) ?_
        exact J7 (2 : Int32) ls _ _ E (lv_sub hl [0] rfl) hP hD hS
      · rw [if_pos c5] at E
        refine lv_iconst (v := (1 : Int32)) hx hb dX1_mod_41 (by decide) ?_
        refine lv_goto (tgt := 46) hx hb dX1_mod_42 (by decide) ?_
        exact J7 (1 : Int32) ls _ _ E (lv_sub hl [0] rfl) hP hD hS
    refine lv_if_ne (tgt := 29) hx hb dX1_mod_13 (by decide) (fun c2 => ?_) (fun c2 => ?_)
    · rw [if_neg c2] at E
      exact J4  ls _ _ E (lv_sub hl [0] rfl) hP hD hS
    · rw [if_pos c2] at E
      refine lv_aload_n hx hb dX1_mod_16 rfl (lv_at hl 0 rfl) ?_
      refine va_get (D := D) (ci := 1) (v := .int o_base) (C := RX1) (T := TX1) (N := 4) hx hb hts hi_X1 hown hK hP 0 rfl rfl 0 (by decide) lk18 (fun _ h9 => h9) rfl dX1_mod_17 ?_
      refine lv_bipush (v := (7 : Int32)) hx hb dX1_mod_20 (by decide) ?_
      refine lv_iand hx hb dX1_mod_22 ?_
      refine lv_iconst (v := (5 : Int32)) hx hb dX1_mod_23 (by decide) ?_
      refine lv_icmp_eq (tgt := 29) hx hb dX1_mod_24 (by decide) (fun c3 => ?_) (fun c3 => ?_)
      · rw [if_pos c3] at E
        exact J4  ls _ _ E (lv_sub hl [0] rfl) hP hD hS
      · rw [if_neg c3] at E
        refine lv_iconst (v := (0 : Int32)) hx hb dX1_mod_27 (by decide) ?_
        cases E
        rw [hZ]
        exact qw_iret hx hb hr hlk hP hD hS dX1_mod_28
  · rw [if_pos c1] at E
    refine lv_iconst (v := (0 : Int32)) hx hb dX1_mod_7 (by decide) ?_
    cases E
    rw [hZ]
    exact qw_iret hx hb hr hlk hP hD hS dX1_mod_8
def f_X1_displacementWidth_J5 (x4 : Int32) : Int32 := (x4)
def f_X1_displacementWidth (o_base : Int32) (o_disp : Int32) : Int32 := (if (f_X1_hasBaseRegister o_base) = 0 then ((4 : Int32)) else ((if (f_X1_mod o_base o_disp) = 0 then (f_X1_displacementWidth_J5 (0 : Int32)) else (if (f_X1_mod o_base o_disp) = (1 : Int32) then (f_X1_displacementWidth_J5 (1 : Int32)) else (f_X1_displacementWidth_J5 (4 : Int32))))))
set_option maxHeartbeats 4000000 in
set_option maxRecDepth 100000 in
theorem c_X1_displacementWidth (l : Launch) (D : va_G) (cI : ClassId) (tT : Nat) (o : Nat) (o_base : Int32) (o_index : Int32) (o_scale : Int32) (o_disp : Int32) (r_o : Int32) (hq : f_X1_displacementWidth o_base o_disp = r_o) : qM l yX1_displacementWidth wsX1_displacementWidth (qr 2 40) (qX tT) D vwCl [(cI, .int)] [(o, .inr (1, [.int o_base, .int o_index, .int o_scale, .int o_disp]))] [.ref o] (some (.int r_o)) [(o, .inr (1, [.int o_base, .int o_index, .int o_scale, .int o_disp]))] := by
  refine qM_of (cc := cX1_displacementWidth) (maxL := 2) (ret := (some .int)) (by decide) rfl (Nat.le_of_ble_eq_true rfl) ?_
  intro p e s m args below meth c A ls Z hx hb hml hr hts hown hlk hK hA hXs hP hD hS hl hZ
  have hown : s.vm.findClass RX1 = some m.cls := hown
  have hl : lv_has ls 2 [(0, .ref o)] := hl
  have hXg := qX_ok tT
  have E := hq
  rw [f_X1_displacementWidth] at E
  refine lv_aload_n hx hb dX1_displacementWidth_0 rfl (lv_at hl 0 rfl) ?_
  refine qw_callV (As := []) (rest := []) (ws' := [(o, .inr (1, [.int o_base, .int o_index, .int o_scale, .int o_disp]))]) (st1 := [.int (f_X1_hasBaseRegister o_base)]) ⟨hx, hb, hml, hown, hts⟩ (c_X1_hasBaseRegister l D cI tT o o_base o_index o_scale o_disp (f_X1_hasBaseRegister o_base) rfl) (cwV 0 hts gX1_displacementWidth_X1_hasBaseRegister rfl rfl rfl (by decide +kernel) ⟨Nat.le_of_ble_eq_true rfl, Nat.le_of_ble_eq_true rfl⟩) hXg hK hP hD hS hA hXs [0] rfl rfl  rfl rfl rfl rfl rfl rfl hl.1 rfl (Nat.le_of_ble_eq_true rfl) rfl ⟨Nat.zero_le _, Nat.zero_le _⟩ dX1_displacementWidth_1 (fun H locs hP hD hS => ?_)
  refine lv_if_ne (tgt := 9) hx hb dX1_displacementWidth_4 (by decide) (fun c1 => ?_) (fun c1 => ?_)
  · rw [if_neg c1] at E
    refine lv_aload_n hx hb dX1_displacementWidth_9 rfl (lv_at hl 0 rfl) ?_
    refine qw_callV (As := []) (rest := []) (ws' := [(o, .inr (1, [.int o_base, .int o_index, .int o_scale, .int o_disp]))]) (st1 := [.int (f_X1_mod o_base o_disp)]) ⟨hx, hb, hml, hown, hts⟩ (c_X1_mod l D cI tT o o_base o_index o_scale o_disp (f_X1_mod o_base o_disp) rfl) (cwV 0 hts gX1_displacementWidth_X1_mod rfl rfl rfl (by decide +kernel) ⟨Nat.le_of_ble_eq_true rfl, Nat.le_of_ble_eq_true rfl⟩) hXg hK hP hD hS hA hXs [0] rfl rfl  rfl rfl rfl rfl rfl rfl hl.1 rfl (Nat.le_of_ble_eq_true rfl) rfl ⟨Nat.zero_le _, Nat.zero_le _⟩ dX1_displacementWidth_10 (fun H locs hP hD hS => ?_)
    refine lv_istore_n (lv' := [(1, .int (f_X1_mod o_base o_disp)), (0, .ref o)]) hx hb dX1_displacementWidth_13 rfl hl (by decide) rfl (fun ls hl => ?_)
    refine lv_iload_n hx hb dX1_displacementWidth_14 rfl (lv_at hl 0 rfl) ?_
    have J5 : ∀ (x4 : Int32) (ls : Array Slot) (H : Heap) (locs : List Loc), f_X1_displacementWidth_J5 x4 = r_o → lv_has ls 2 [(1, .int (f_X1_mod o_base o_disp)), (0, .ref o)] → va_P D vwCl [(o, .inr (1, [.int o_base, .int o_index, .int o_scale, .int o_disp]))] H → va_D A [(o, .inr (1, [.int o_base, .int o_index, .int o_scale, .int o_disp]))] → va_S A s.heap H locs → W p l e (qr 2 40) s m args below meth c H locs 0 0 Z (F0 m 32 ls [.int x4]) := by
      intro x4 ls H locs E hl hP hD hS
      rw [f_X1_displacementWidth_J5] at E
      cases E
      rw [hZ]
      exact qw_iret hx hb hr hlk hP hD hS dX1_displacementWidth_32
    refine lv_if_ne (tgt := 22) hx hb dX1_displacementWidth_15 (by decide) (fun c2 => ?_) (fun c2 => ?_)
    · rw [if_neg c2] at E
      refine lv_iload_n hx hb dX1_displacementWidth_22 rfl (lv_at hl 0 rfl) ?_
      refine lv_iconst (v := (1 : Int32)) hx hb dX1_displacementWidth_23 (by decide) ?_
      refine lv_icmp_ne (tgt := 31) hx hb dX1_displacementWidth_24 (by decide) (fun c3 => ?_) (fun c3 => ?_)
      · rw [if_neg c3] at E
        refine lv_iconst (v := (4 : Int32)) hx hb dX1_displacementWidth_31 (by decide) ?_
        exact J5 (4 : Int32) ls _ _ E (lv_sub hl [0, 1] rfl) hP hD hS
      · rw [if_pos c3] at E
        refine lv_iconst (v := (1 : Int32)) hx hb dX1_displacementWidth_27 (by decide) ?_
        refine lv_goto (tgt := 32) hx hb dX1_displacementWidth_28 (by decide) ?_
        exact J5 (1 : Int32) ls _ _ E (lv_sub hl [0, 1] rfl) hP hD hS
    · rw [if_pos c2] at E
      refine lv_iconst (v := (0 : Int32)) hx hb dX1_displacementWidth_18 (by decide) ?_
      refine lv_goto (tgt := 32) hx hb dX1_displacementWidth_19 (by decide) ?_
      exact J5 (0 : Int32) ls _ _ E (lv_sub hl [0, 1] rfl) hP hD hS
  · rw [if_pos c1] at E
    refine lv_iconst (v := (4 : Int32)) hx hb dX1_displacementWidth_7 (by decide) ?_
    cases E
    rw [hZ]
    exact qw_iret hx hb hr hlk hP hD hS dX1_displacementWidth_8
def f_X1_formLow_J4 (x3 : Int32) : Int32 := (x3)
def f_X1_formLow (o_base : Int32) (o_index : Int32) : Int32 := (if (f_X1_needsIndexByte o_base o_index) = 0 then ((if o_base = (16 : Int32) then (f_X1_formLow_J4 (5 : Int32)) else (f_X1_formLow_J4 (o_base &&& (7 : Int32))))) else ((4 : Int32)))
set_option maxHeartbeats 4000000 in
set_option maxRecDepth 100000 in
theorem c_X1_formLow (l : Launch) (D : va_G) (cI : ClassId) (tT : Nat) (o : Nat) (o_base : Int32) (o_index : Int32) (o_scale : Int32) (o_disp : Int32) (r_o : Int32) (hq : f_X1_formLow o_base o_index = r_o) : qM l yX1_formLow wsX1_formLow (qr 2 40) (qX tT) D vwCl [(cI, .int)] [(o, .inr (1, [.int o_base, .int o_index, .int o_scale, .int o_disp]))] [.ref o] (some (.int r_o)) [(o, .inr (1, [.int o_base, .int o_index, .int o_scale, .int o_disp]))] := by
  refine qM_of (cc := cX1_formLow) (maxL := 1) (ret := (some .int)) (by decide) rfl (Nat.le_of_ble_eq_true rfl) ?_
  intro p e s m args below meth c A ls Z hx hb hml hr hts hown hlk hK hA hXs hP hD hS hl hZ
  have hown : s.vm.findClass RX1 = some m.cls := hown
  have hl : lv_has ls 1 [(0, .ref o)] := hl
  have hi_X1 : ∀ w ∈ wsX10, w ∈ wsX1_formLow := by decide +kernel
  have lk18 := hts (.fieldLink RX1 18 "InstructionCoder$Memory" "base" "I") (by decide +kernel)
  have hXg := qX_ok tT
  have E := hq
  rw [f_X1_formLow] at E
  refine lv_aload_n hx hb dX1_formLow_0 rfl (lv_at hl 0 rfl) ?_
  refine qw_callV (As := []) (rest := []) (ws' := [(o, .inr (1, [.int o_base, .int o_index, .int o_scale, .int o_disp]))]) (st1 := [.int (f_X1_needsIndexByte o_base o_index)]) ⟨hx, hb, hml, hown, hts⟩ (c_X1_needsIndexByte l D cI tT o o_base o_index o_scale o_disp (f_X1_needsIndexByte o_base o_index) rfl) (cwV 0 hts gX1_formLow_X1_needsIndexByte rfl rfl rfl (by decide +kernel) ⟨Nat.le_of_ble_eq_true rfl, Nat.le_of_ble_eq_true rfl⟩) hXg hK hP hD hS hA hXs [0] rfl rfl  rfl rfl rfl rfl rfl rfl hl.1 rfl (Nat.le_of_ble_eq_true rfl) rfl ⟨Nat.zero_le _, Nat.zero_le _⟩ dX1_formLow_1 (fun H locs hP hD hS => ?_)
  refine lv_if_eq (tgt := 9) hx hb dX1_formLow_4 (by decide) (fun c1 => ?_) (fun c1 => ?_)
  · rw [if_pos c1] at E
    refine lv_aload_n hx hb dX1_formLow_9 rfl (lv_at hl 0 rfl) ?_
    refine va_get (D := D) (ci := 1) (v := .int o_base) (C := RX1) (T := TX1) (N := 4) hx hb hts hi_X1 hown hK hP 0 rfl rfl 0 (by decide) lk18 (fun _ h9 => h9) rfl dX1_formLow_10 ?_
    refine lv_bipush (v := (16 : Int32)) hx hb dX1_formLow_13 (by decide) ?_
    have J4 : ∀ (x3 : Int32) (ls : Array Slot) (H : Heap) (locs : List Loc), f_X1_formLow_J4 x3 = r_o → lv_has ls 1 [(0, .ref o)] → va_P D vwCl [(o, .inr (1, [.int o_base, .int o_index, .int o_scale, .int o_disp]))] H → va_D A [(o, .inr (1, [.int o_base, .int o_index, .int o_scale, .int o_disp]))] → va_S A s.heap H locs → W p l e (qr 2 40) s m args below meth c H locs 0 0 Z (F0 m 29 ls [.int x3]) := by
      intro x3 ls H locs E hl hP hD hS
      rw [f_X1_formLow_J4] at E
      cases E
      rw [hZ]
      exact qw_iret hx hb hr hlk hP hD hS dX1_formLow_29
    refine lv_icmp_ne (tgt := 22) hx hb dX1_formLow_15 (by decide) (fun c2 => ?_) (fun c2 => ?_)
    · rw [if_neg c2] at E
      refine lv_aload_n hx hb dX1_formLow_22 rfl (lv_at hl 0 rfl) ?_
      refine va_get (D := D) (ci := 1) (v := .int o_base) (C := RX1) (T := TX1) (N := 4) hx hb hts hi_X1 hown hK hP 0 rfl rfl 0 (by decide) lk18 (fun _ h9 => h9) rfl dX1_formLow_23 ?_
      refine lv_bipush (v := (7 : Int32)) hx hb dX1_formLow_26 (by decide) ?_
      refine lv_iand hx hb dX1_formLow_28 ?_
      exact J4 (o_base &&& (7 : Int32)) ls _ _ E (lv_sub hl [0] rfl) hP hD hS
    · rw [if_pos c2] at E
      refine lv_iconst (v := (5 : Int32)) hx hb dX1_formLow_18 (by decide) ?_
      refine lv_goto (tgt := 29) hx hb dX1_formLow_19 (by decide) ?_
      exact J4 (5 : Int32) ls _ _ E (lv_sub hl [0] rfl) hP hD hS
  · rw [if_neg c1] at E
    refine lv_iconst (v := (4 : Int32)) hx hb dX1_formLow_7 (by decide) ?_
    cases E
    rw [hZ]
    exact qw_iret hx hb hr hlk hP hD hS dX1_formLow_8
def f_X1_indexByte_J11 (x4 : Int32) (x7 : Int32) (x10 : Int32) : Int32 := (((((64 : Int32) * x4) + ((8 : Int32) * x7)) + x10))
def f_X1_indexByte_J8 (o_base : Int32) (x4 : Int32) (x7 : Int32) : Int32 := ((if o_base = (-1 : Int32) then (f_X1_indexByte_J11 x4 x7 (5 : Int32)) else (f_X1_indexByte_J11 x4 x7 (o_base &&& (7 : Int32)))))
def f_X1_indexByte_J5 (o_base : Int32) (o_index : Int32) (x4 : Int32) : Int32 := ((if o_index = (-1 : Int32) then (f_X1_indexByte_J8 o_base x4 (4 : Int32)) else (f_X1_indexByte_J8 o_base x4 (o_index &&& (7 : Int32)))))
def f_X1_indexByte (o_base : Int32) (o_index : Int32) (o_scale : Int32) : Int32 := ((if o_scale = (8 : Int32) then (f_X1_indexByte_J5 o_base o_index (3 : Int32)) else (if o_scale = (4 : Int32) then (f_X1_indexByte_J5 o_base o_index (2 : Int32)) else (if o_scale = (2 : Int32) then (f_X1_indexByte_J5 o_base o_index (1 : Int32)) else (f_X1_indexByte_J5 o_base o_index (0 : Int32))))))
set_option maxHeartbeats 4000000 in
set_option maxRecDepth 100000 in
theorem c_X1_indexByte (l : Launch) (D : va_G) (cI : ClassId) (tT : Nat) (o : Nat) (o_base : Int32) (o_index : Int32) (o_scale : Int32) (o_disp : Int32) (r_o : Int32) (hq : f_X1_indexByte o_base o_index o_scale = r_o) : qM l yX1_indexByte wsX1_indexByte (qr 0 0) (qX tT) D vwCl [(cI, .int)] [(o, .inr (1, [.int o_base, .int o_index, .int o_scale, .int o_disp]))] [.ref o] (some (.int r_o)) [(o, .inr (1, [.int o_base, .int o_index, .int o_scale, .int o_disp]))] := by
  refine qM_of (cc := cX1_indexByte) (maxL := 4) (ret := (some .int)) (by decide) rfl (Nat.le_of_ble_eq_true rfl) ?_
  intro p e s m args below meth c A ls Z hx hb hml hr hts hown hlk hK hA hXs hP hD hS hl hZ
  have hown : s.vm.findClass RX1 = some m.cls := hown
  have hl : lv_has ls 4 [(0, .ref o)] := hl
  have hi_X1 : ∀ w ∈ wsX10, w ∈ wsX1_indexByte := by decide +kernel
  have lk18 := hts (.fieldLink RX1 18 "InstructionCoder$Memory" "base" "I") (by decide +kernel)
  have lk22 := hts (.fieldLink RX1 22 "InstructionCoder$Memory" "index" "I") (by decide +kernel)
  have lk25 := hts (.fieldLink RX1 25 "InstructionCoder$Memory" "scale" "I") (by decide +kernel)
  have E := hq
  rw [f_X1_indexByte] at E
  refine lv_aload_n hx hb dX1_indexByte_0 rfl (lv_at hl 0 rfl) ?_
  refine va_get (D := D) (ci := 1) (v := .int o_scale) (C := RX1) (T := TX1) (N := 4) hx hb hts hi_X1 hown hK hP 0 rfl rfl 2 (by decide) lk25 (fun _ h9 => h9) rfl dX1_indexByte_1 ?_
  refine lv_bipush (v := (8 : Int32)) hx hb dX1_indexByte_4 (by decide) ?_
  have J5 : ∀ (x4 : Int32) (ls : Array Slot) (H : Heap) (locs : List Loc), f_X1_indexByte_J5 o_base o_index x4 = r_o → lv_has ls 4 [(0, .ref o)] → va_P D vwCl [(o, .inr (1, [.int o_base, .int o_index, .int o_scale, .int o_disp]))] H → va_D A [(o, .inr (1, [.int o_base, .int o_index, .int o_scale, .int o_disp]))] → va_S A s.heap H locs → W p l e (qr 0 0) s m args below meth c H locs 0 0 Z (F0 m 38 ls [.int x4]) := by
    intro x4 ls H locs E hl hP hD hS
    rw [f_X1_indexByte_J5] at E
    refine lv_istore_n (lv' := [(1, .int x4), (0, .ref o)]) hx hb dX1_indexByte_38 rfl hl (by decide) rfl (fun ls hl => ?_)
    refine lv_aload_n hx hb dX1_indexByte_39 rfl (lv_at hl 1 rfl) ?_
    refine va_get (D := D) (ci := 1) (v := .int o_index) (C := RX1) (T := TX1) (N := 4) hx hb hts hi_X1 hown hK hP 0 rfl rfl 1 (by decide) lk22 (fun _ h9 => h9) rfl dX1_indexByte_40 ?_
    refine lv_iconst (v := (-1 : Int32)) hx hb dX1_indexByte_43 (by decide) ?_
    have J8 : ∀ (x7 : Int32) (ls : Array Slot) (H : Heap) (locs : List Loc), f_X1_indexByte_J8 o_base x4 x7 = r_o → lv_has ls 4 [(1, .int x4), (0, .ref o)] → va_P D vwCl [(o, .inr (1, [.int o_base, .int o_index, .int o_scale, .int o_disp]))] H → va_D A [(o, .inr (1, [.int o_base, .int o_index, .int o_scale, .int o_disp]))] → va_S A s.heap H locs → W p l e (qr 0 0) s m args below meth c H locs 0 0 Z (F0 m 58 ls [.int x7]) := by
      intro x7 ls H locs E hl hP hD hS
      rw [f_X1_indexByte_J8] at E
      refine lv_istore_n (lv' := [(2, .int x7), (1, .int x4), (0, .ref o)]) hx hb dX1_indexByte_58 rfl hl (by decide) rfl (fun ls hl => ?_)
      refine lv_aload_n hx hb dX1_indexByte_59 rfl (lv_at hl 2 rfl) ?_
      refine va_get (D := D) (ci := 1) (v := .int o_base) (C := RX1) (T := TX1) (N := 4) hx hb hts hi_X1 hown hK hP 0 rfl rfl 0 (by decide) lk18 (fun _ h9 => h9) rfl dX1_indexByte_60 ?_
      refine lv_iconst (v := (-1 : Int32)) hx hb dX1_indexByte_63 (by decide) ?_
      have J11 : ∀ (x10 : Int32) (ls : Array Slot) (H : Heap) (locs : List Loc), f_X1_indexByte_J11 x4 x7 x10 = r_o → lv_has ls 4 [(2, .int x7), (1, .int x4), (0, .ref o)] → va_P D vwCl [(o, .inr (1, [.int o_base, .int o_index, .int o_scale, .int o_disp]))] H → va_D A [(o, .inr (1, [.int o_base, .int o_index, .int o_scale, .int o_disp]))] → va_S A s.heap H locs → W p l e (qr 0 0) s m args below meth c H locs 0 0 Z (F0 m 78 ls [.int x10]) := by
        intro x10 ls H locs E hl hP hD hS
        rw [f_X1_indexByte_J11] at E
        refine lv_istore_n (lv' := [(3, .int x10), (2, .int x7), (1, .int x4), (0, .ref o)]) hx hb dX1_indexByte_78 rfl hl (by decide) rfl (fun ls hl => ?_)
        refine lv_bipush (v := (64 : Int32)) hx hb dX1_indexByte_79 (by decide) ?_
        refine lv_iload_n hx hb dX1_indexByte_81 rfl (lv_at hl 2 rfl) ?_
        refine lv_imul hx hb dX1_indexByte_82 ?_
        refine lv_bipush (v := (8 : Int32)) hx hb dX1_indexByte_83 (by decide) ?_
        refine lv_iload_n hx hb dX1_indexByte_85 rfl (lv_at hl 1 rfl) ?_
        refine lv_imul hx hb dX1_indexByte_86 ?_
        refine lv_iadd hx hb dX1_indexByte_87 ?_
        refine lv_iload_n hx hb dX1_indexByte_88 rfl (lv_at hl 0 rfl) ?_
        refine lv_iadd hx hb dX1_indexByte_89 ?_
        cases E
        rw [hZ]
        exact qw_iret hx hb hr hlk hP hD hS dX1_indexByte_90
      refine lv_icmp_ne (tgt := 71) hx hb dX1_indexByte_64 (by decide) (fun c9 => ?_) (fun c9 => ?_)
      · rw [if_neg c9] at E
        refine lv_aload_n hx hb dX1_indexByte_71 rfl (lv_at hl 2 rfl) ?_
        refine va_get (D := D) (ci := 1) (v := .int o_base) (C := RX1) (T := TX1) (N := 4) hx hb hts hi_X1 hown hK hP 0 rfl rfl 0 (by decide) lk18 (fun _ h9 => h9) rfl dX1_indexByte_72 ?_
        refine lv_bipush (v := (7 : Int32)) hx hb dX1_indexByte_75 (by decide) ?_
        refine lv_iand hx hb dX1_indexByte_77 ?_
        exact J11 (o_base &&& (7 : Int32)) ls _ _ E (lv_sub hl [0, 1, 2] rfl) hP hD hS
      · rw [if_pos c9] at E
        refine lv_iconst (v := (5 : Int32)) hx hb dX1_indexByte_67 (by decide) ?_
        refine lv_goto (tgt := 78) hx hb dX1_indexByte_68 (by decide) ?_
        exact J11 (5 : Int32) ls _ _ E (lv_sub hl [0, 1, 2] rfl) hP hD hS
    refine lv_icmp_ne (tgt := 51) hx hb dX1_indexByte_44 (by decide) (fun c6 => ?_) (fun c6 => ?_)
    · rw [if_neg c6] at E
      refine lv_aload_n hx hb dX1_indexByte_51 rfl (lv_at hl 1 rfl) ?_
      refine va_get (D := D) (ci := 1) (v := .int o_index) (C := RX1) (T := TX1) (N := 4) hx hb hts hi_X1 hown hK hP 0 rfl rfl 1 (by decide) lk22 (fun _ h9 => h9) rfl dX1_indexByte_52 ?_
      refine lv_bipush (v := (7 : Int32)) hx hb dX1_indexByte_55 (by decide) ?_
      refine lv_iand hx hb dX1_indexByte_57 ?_
      exact J8 (o_index &&& (7 : Int32)) ls _ _ E (lv_sub hl [0, 1] rfl) hP hD hS
    · rw [if_pos c6] at E
      refine lv_iconst (v := (4 : Int32)) hx hb dX1_indexByte_47 (by decide) ?_
      refine lv_goto (tgt := 58) hx hb dX1_indexByte_48 (by decide) ?_
      exact J8 (4 : Int32) ls _ _ E (lv_sub hl [0, 1] rfl) hP hD hS
  refine lv_icmp_ne (tgt := 13) hx hb dX1_indexByte_6 (by decide) (fun c1 => ?_) (fun c1 => ?_)
  · rw [if_neg c1] at E
    refine lv_aload_n hx hb dX1_indexByte_13 rfl (lv_at hl 0 rfl) ?_
    refine va_get (D := D) (ci := 1) (v := .int o_scale) (C := RX1) (T := TX1) (N := 4) hx hb hts hi_X1 hown hK hP 0 rfl rfl 2 (by decide) lk25 (fun _ h9 => h9) rfl dX1_indexByte_14 ?_
    refine lv_iconst (v := (4 : Int32)) hx hb dX1_indexByte_17 (by decide) ?_
    refine lv_icmp_ne (tgt := 25) hx hb dX1_indexByte_18 (by decide) (fun c2 => ?_) (fun c2 => ?_)
    · rw [if_neg c2] at E
      refine lv_aload_n hx hb dX1_indexByte_25 rfl (lv_at hl 0 rfl) ?_
      refine va_get (D := D) (ci := 1) (v := .int o_scale) (C := RX1) (T := TX1) (N := 4) hx hb hts hi_X1 hown hK hP 0 rfl rfl 2 (by decide) lk25 (fun _ h9 => h9) rfl dX1_indexByte_26 ?_
      refine lv_iconst (v := (2 : Int32)) hx hb dX1_indexByte_29 (by decide) ?_
      refine lv_icmp_ne (tgt := 37) hx hb dX1_indexByte_30 (by decide) (fun c3 => ?_) (fun c3 => ?_)
      · rw [if_neg c3] at E
        refine lv_iconst (v := (0 : Int32)) hx hb dX1_indexByte_37 (by decide) ?_
        exact J5 (0 : Int32) ls _ _ E (lv_sub hl [0] rfl) hP hD hS
      · rw [if_pos c3] at E
        refine lv_iconst (v := (1 : Int32)) hx hb dX1_indexByte_33 (by decide) ?_
        refine lv_goto (tgt := 38) hx hb dX1_indexByte_34 (by decide) ?_
        exact J5 (1 : Int32) ls _ _ E (lv_sub hl [0] rfl) hP hD hS
    · rw [if_pos c2] at E
      refine lv_iconst (v := (2 : Int32)) hx hb dX1_indexByte_21 (by decide) ?_
      refine lv_goto (tgt := 38) hx hb dX1_indexByte_22 (by decide) ?_
      exact J5 (2 : Int32) ls _ _ E (lv_sub hl [0] rfl) hP hD hS
  · rw [if_pos c1] at E
    refine lv_iconst (v := (3 : Int32)) hx hb dX1_indexByte_9 (by decide) ?_
    refine lv_goto (tgt := 38) hx hb dX1_indexByte_10 (by decide) ?_
    exact J5 (3 : Int32) ls _ _ E (lv_sub hl [0] rfl) hP hD hS
def f_X1_prefixBits_J7 (x6 : Int32) : Int32 := (x6)
def f_X1_prefixBits_J3 (o_base : Int32) (x2 : Int32) : Int32 := ((if (f_X1_hasBaseRegister o_base) = 0 then (f_X1_prefixBits_J7 x2) else (if o_base ≤ (7 : Int32) then (f_X1_prefixBits_J7 x2) else (f_X1_prefixBits_J7 (x2 ||| (1 : Int32))))))
def f_X1_prefixBits (o_base : Int32) (o_index : Int32) : Int32 := ((if o_index ≤ (7 : Int32) then (f_X1_prefixBits_J3 o_base (0 : Int32)) else (f_X1_prefixBits_J3 o_base (2 : Int32))))
set_option maxHeartbeats 4000000 in
set_option maxRecDepth 100000 in
theorem c_X1_prefixBits (l : Launch) (D : va_G) (cI : ClassId) (tT : Nat) (o : Nat) (o_base : Int32) (o_index : Int32) (o_scale : Int32) (o_disp : Int32) (r_o : Int32) (hq : f_X1_prefixBits o_base o_index = r_o) : qM l yX1_prefixBits wsX1_prefixBits (qr 1 20) (qX tT) D vwCl [(cI, .int)] [(o, .inr (1, [.int o_base, .int o_index, .int o_scale, .int o_disp]))] [.ref o] (some (.int r_o)) [(o, .inr (1, [.int o_base, .int o_index, .int o_scale, .int o_disp]))] := by
  refine qM_of (cc := cX1_prefixBits) (maxL := 2) (ret := (some .int)) (by decide) rfl (Nat.le_of_ble_eq_true rfl) ?_
  intro p e s m args below meth c A ls Z hx hb hml hr hts hown hlk hK hA hXs hP hD hS hl hZ
  have hown : s.vm.findClass RX1 = some m.cls := hown
  have hl : lv_has ls 2 [(0, .ref o)] := hl
  have hi_X1 : ∀ w ∈ wsX10, w ∈ wsX1_prefixBits := by decide +kernel
  have lk18 := hts (.fieldLink RX1 18 "InstructionCoder$Memory" "base" "I") (by decide +kernel)
  have lk22 := hts (.fieldLink RX1 22 "InstructionCoder$Memory" "index" "I") (by decide +kernel)
  have hXg := qX_ok tT
  have E := hq
  rw [f_X1_prefixBits] at E
  refine lv_iconst (v := (0 : Int32)) hx hb dX1_prefixBits_0 (by decide) ?_
  refine lv_istore_n (lv' := [(1, .int (0 : Int32)), (0, .ref o)]) hx hb dX1_prefixBits_1 rfl hl (by decide) rfl (fun ls hl => ?_)
  refine lv_aload_n hx hb dX1_prefixBits_2 rfl (lv_at hl 1 rfl) ?_
  refine va_get (D := D) (ci := 1) (v := .int o_index) (C := RX1) (T := TX1) (N := 4) hx hb hts hi_X1 hown hK hP 0 rfl rfl 1 (by decide) lk22 (fun _ h9 => h9) rfl dX1_prefixBits_3 ?_
  refine lv_bipush (v := (7 : Int32)) hx hb dX1_prefixBits_6 (by decide) ?_
  have J3 : ∀ (x2 : Int32) (ls : Array Slot) (H : Heap) (locs : List Loc), f_X1_prefixBits_J3 o_base x2 = r_o → lv_has ls 2 [(1, .int x2), (0, .ref o)] → va_P D vwCl [(o, .inr (1, [.int o_base, .int o_index, .int o_scale, .int o_disp]))] H → va_D A [(o, .inr (1, [.int o_base, .int o_index, .int o_scale, .int o_disp]))] → va_S A s.heap H locs → W p l e (qr 1 20) s m args below meth c H locs 0 0 Z (F0 m 15 ls []) := by
    intro x2 ls H locs E hl hP hD hS
    rw [f_X1_prefixBits_J3] at E
    refine lv_aload_n hx hb dX1_prefixBits_15 rfl (lv_at hl 1 rfl) ?_
    refine qw_callV (As := []) (rest := []) (ws' := [(o, .inr (1, [.int o_base, .int o_index, .int o_scale, .int o_disp]))]) (st1 := [.int (f_X1_hasBaseRegister o_base)]) ⟨hx, hb, hml, hown, hts⟩ (c_X1_hasBaseRegister l D cI tT o o_base o_index o_scale o_disp (f_X1_hasBaseRegister o_base) rfl) (cwV 0 hts gX1_prefixBits_X1_hasBaseRegister rfl rfl rfl (by decide +kernel) ⟨Nat.le_of_ble_eq_true rfl, Nat.le_of_ble_eq_true rfl⟩) hXg hK hP hD hS hA hXs [0] rfl rfl  rfl rfl rfl rfl rfl rfl hl.1 rfl (Nat.le_of_ble_eq_true rfl) rfl ⟨Nat.zero_le _, Nat.zero_le _⟩ dX1_prefixBits_16 (fun H locs hP hD hS => ?_)
    have J7 : ∀ (x6 : Int32) (ls : Array Slot) (H : Heap) (locs : List Loc), f_X1_prefixBits_J7 x6 = r_o → lv_has ls 2 [(1, .int x6), (0, .ref o)] → va_P D vwCl [(o, .inr (1, [.int o_base, .int o_index, .int o_scale, .int o_disp]))] H → va_D A [(o, .inr (1, [.int o_base, .int o_index, .int o_scale, .int o_disp]))] → va_S A s.heap H locs → W p l e (qr 1 20) s m args below meth c H locs 0 0 Z (F0 m 35 ls []) := by
      intro x6 ls H locs E hl hP hD hS
      rw [f_X1_prefixBits_J7] at E
      refine lv_iload_n hx hb dX1_prefixBits_35 rfl (lv_at hl 0 rfl) ?_
      cases E
      rw [hZ]
      exact qw_iret hx hb hr hlk hP hD hS dX1_prefixBits_36
    refine lv_if_eq (tgt := 35) hx hb dX1_prefixBits_19 (by decide) (fun c4 => ?_) (fun c4 => ?_)
    · rw [if_pos c4] at E
      exact J7 x2 ls _ _ E (lv_sub hl [0, 1] rfl) hP hD hS
    · rw [if_neg c4] at E
      refine lv_aload_n hx hb dX1_prefixBits_22 rfl (lv_at hl 1 rfl) ?_
      refine va_get (D := D) (ci := 1) (v := .int o_base) (C := RX1) (T := TX1) (N := 4) hx hb hts hi_X1 hown hK hP 0 rfl rfl 0 (by decide) lk18 (fun _ h9 => h9) rfl dX1_prefixBits_23 ?_
      refine lv_bipush (v := (7 : Int32)) hx hb dX1_prefixBits_26 (by decide) ?_
      refine lv_icmp_le (tgt := 35) hx hb dX1_prefixBits_28 (by decide) (fun c5 => ?_) (fun c5 => ?_)
      · rw [if_pos c5] at E
        exact J7 x2 ls _ _ E (lv_sub hl [0, 1] rfl) hP hD hS
      · rw [if_neg c5] at E
        refine lv_iload_n hx hb dX1_prefixBits_31 rfl (lv_at hl 0 rfl) ?_
        refine lv_iconst (v := (1 : Int32)) hx hb dX1_prefixBits_32 (by decide) ?_
        refine lv_ior hx hb dX1_prefixBits_33 ?_
        refine lv_istore_n (lv' := [(1, .int (x2 ||| (1 : Int32))), (0, .ref o)]) hx hb dX1_prefixBits_34 rfl hl (by decide) rfl (fun ls hl => ?_)
        exact J7 (x2 ||| (1 : Int32)) ls _ _ E (lv_sub hl [0, 1] rfl) hP hD hS
  refine lv_icmp_le (tgt := 15) hx hb dX1_prefixBits_8 (by decide) (fun c1 => ?_) (fun c1 => ?_)
  · rw [if_pos c1] at E
    exact J3 (0 : Int32) ls _ _ E (lv_sub hl [0, 1] rfl) hP hD hS
  · rw [if_neg c1] at E
    refine lv_iload_n hx hb dX1_prefixBits_11 rfl (lv_at hl 0 rfl) ?_
    refine lv_iconst (v := (2 : Int32)) hx hb dX1_prefixBits_12 (by decide) ?_
    refine lv_ior hx hb dX1_prefixBits_13 ?_
    refine qw_topi (v := (2 : Int32)) (by decide) ?_
    refine lv_istore_n (lv' := [(1, .int (2 : Int32)), (0, .ref o)]) hx hb dX1_prefixBits_14 rfl hl (by decide) rfl (fun ls hl => ?_)
    exact J3 (2 : Int32) ls _ _ E (lv_sub hl [0, 1] rfl) hP hD hS
