def f_X7_hasForm_J10 (x9 : Int32) : Int32 := (x9)
def f_X7_hasForm (p0 : Int32) : Int32 := ((if p0 = (1 : Int32) then (f_X7_hasForm_J10 (1 : Int32)) else (if p0 = (2 : Int32) then (f_X7_hasForm_J10 (1 : Int32)) else (if p0 = (4 : Int32) then (f_X7_hasForm_J10 (1 : Int32)) else (if p0 = (7 : Int32) then (f_X7_hasForm_J10 (1 : Int32)) else (if p0 = (8 : Int32) then (f_X7_hasForm_J10 (1 : Int32)) else (if p0 = (9 : Int32) then (f_X7_hasForm_J10 (1 : Int32)) else (if p0 = (11 : Int32) then (f_X7_hasForm_J10 (1 : Int32)) else (if p0 = (12 : Int32) then (f_X7_hasForm_J10 (1 : Int32)) else (f_X7_hasForm_J10 (0 : Int32)))))))))))
set_option maxHeartbeats 4000000 in
set_option maxRecDepth 100000 in
theorem c_X7_hasForm (l : Launch) (D : va_G) (cI : ClassId) (tT : Nat) (p0 : Int32) (r_o : Int32) (hq : f_X7_hasForm p0 = r_o) : qM l yX7_hasForm wsX7_hasForm (qr 0 0) (qX tT) D vwCl [(cI, .int)] [] [.int p0] (some (.int r_o)) [] := by
  refine qM_of (cc := cX7_hasForm) (maxL := 1) (ret := (some .boolean)) (by decide) rfl (Nat.le_of_ble_eq_true rfl) ?_
  intro p e s m args below meth c A ls Z hx hb hml hr hts hown hlk hK hA hXs hP hD hS hl hZ
  have hown : s.vm.findClass RX7 = some m.cls := hown
  have hl : lv_has ls 1 [(0, .int p0)] := hl
  have E := hq
  rw [f_X7_hasForm] at E
  refine lv_iload_n hx hb dX7_hasForm_0 rfl (lv_at hl 0 rfl) ?_
  refine lv_iconst (v := (1 : Int32)) hx hb dX7_hasForm_1 (by decide) ?_
  have J10 : ∀ (x9 : Int32) (hb_x9 : x9 = 0 ∨ x9 = 1) (hv_x9 : qv (0) (1) x9) (ls : Array Slot) (H : Heap) (locs : List Loc), f_X7_hasForm_J10 x9 = r_o → lv_has ls 1 [(0, .int p0)] → va_P D vwCl [] H → va_D A [] → va_S A s.heap H locs → W p l e (qr 0 0) s m args below meth c H locs 0 0 Z (F0 m 50 ls [.int x9]) := by
    intro x9 hb_x9 hv_x9 ls H locs E hl hP hD hS
    rw [f_X7_hasForm_J10] at E
    cases E
    rw [hZ]
    exact qw_zret hx hb hr hlk hb_x9 hP hD hS dX7_hasForm_50
  refine lv_icmp_eq (tgt := 45) hx hb dX7_hasForm_2 (by decide) (fun c1 => ?_) (fun c1 => ?_)
  · rw [if_pos c1] at E
    refine lv_iconst (v := (1 : Int32)) hx hb dX7_hasForm_45 (by decide) ?_
    refine lv_goto (tgt := 50) hx hb dX7_hasForm_46 (by decide) ?_
    exact J10 (1 : Int32) (Or.inr rfl) (qv_w (⟨by decide, by decide⟩ : qv (1) (1) (1 : Int32)) (by decide) (by decide)) ls _ _ E (lv_sub hl [0] rfl) hP hD hS
  · rw [if_neg c1] at E
    refine lv_iload_n hx hb dX7_hasForm_5 rfl (lv_at hl 0 rfl) ?_
    refine lv_iconst (v := (2 : Int32)) hx hb dX7_hasForm_6 (by decide) ?_
    refine lv_icmp_eq (tgt := 45) hx hb dX7_hasForm_7 (by decide) (fun c2 => ?_) (fun c2 => ?_)
    · rw [if_pos c2] at E
      refine lv_iconst (v := (1 : Int32)) hx hb dX7_hasForm_45 (by decide) ?_
      refine lv_goto (tgt := 50) hx hb dX7_hasForm_46 (by decide) ?_
      exact J10 (1 : Int32) (Or.inr rfl) (qv_w (⟨by decide, by decide⟩ : qv (1) (1) (1 : Int32)) (by decide) (by decide)) ls _ _ E (lv_sub hl [0] rfl) hP hD hS
    · rw [if_neg c2] at E
      refine lv_iload_n hx hb dX7_hasForm_10 rfl (lv_at hl 0 rfl) ?_
      refine lv_iconst (v := (4 : Int32)) hx hb dX7_hasForm_11 (by decide) ?_
      refine lv_icmp_eq (tgt := 45) hx hb dX7_hasForm_12 (by decide) (fun c3 => ?_) (fun c3 => ?_)
      · rw [if_pos c3] at E
        refine lv_iconst (v := (1 : Int32)) hx hb dX7_hasForm_45 (by decide) ?_
        refine lv_goto (tgt := 50) hx hb dX7_hasForm_46 (by decide) ?_
        exact J10 (1 : Int32) (Or.inr rfl) (qv_w (⟨by decide, by decide⟩ : qv (1) (1) (1 : Int32)) (by decide) (by decide)) ls _ _ E (lv_sub hl [0] rfl) hP hD hS
      · rw [if_neg c3] at E
        refine lv_iload_n hx hb dX7_hasForm_15 rfl (lv_at hl 0 rfl) ?_
        refine lv_bipush (v := (7 : Int32)) hx hb dX7_hasForm_16 (by decide) ?_
        refine lv_icmp_eq (tgt := 45) hx hb dX7_hasForm_18 (by decide) (fun c4 => ?_) (fun c4 => ?_)
        · rw [if_pos c4] at E
          refine lv_iconst (v := (1 : Int32)) hx hb dX7_hasForm_45 (by decide) ?_
          refine lv_goto (tgt := 50) hx hb dX7_hasForm_46 (by decide) ?_
          exact J10 (1 : Int32) (Or.inr rfl) (qv_w (⟨by decide, by decide⟩ : qv (1) (1) (1 : Int32)) (by decide) (by decide)) ls _ _ E (lv_sub hl [0] rfl) hP hD hS
        · rw [if_neg c4] at E
          refine lv_iload_n hx hb dX7_hasForm_21 rfl (lv_at hl 0 rfl) ?_
          refine lv_bipush (v := (8 : Int32)) hx hb dX7_hasForm_22 (by decide) ?_
          refine lv_icmp_eq (tgt := 45) hx hb dX7_hasForm_24 (by decide) (fun c5 => ?_) (fun c5 => ?_)
          · rw [if_pos c5] at E
            refine lv_iconst (v := (1 : Int32)) hx hb dX7_hasForm_45 (by decide) ?_
            refine lv_goto (tgt := 50) hx hb dX7_hasForm_46 (by decide) ?_
            exact J10 (1 : Int32) (Or.inr rfl) (qv_w (⟨by decide, by decide⟩ : qv (1) (1) (1 : Int32)) (by decide) (by decide)) ls _ _ E (lv_sub hl [0] rfl) hP hD hS
          · rw [if_neg c5] at E
            refine lv_iload_n hx hb dX7_hasForm_27 rfl (lv_at hl 0 rfl) ?_
            refine lv_bipush (v := (9 : Int32)) hx hb dX7_hasForm_28 (by decide) ?_
            refine lv_icmp_eq (tgt := 45) hx hb dX7_hasForm_30 (by decide) (fun c6 => ?_) (fun c6 => ?_)
            · rw [if_pos c6] at E
              refine lv_iconst (v := (1 : Int32)) hx hb dX7_hasForm_45 (by decide) ?_
              refine lv_goto (tgt := 50) hx hb dX7_hasForm_46 (by decide) ?_
              exact J10 (1 : Int32) (Or.inr rfl) (qv_w (⟨by decide, by decide⟩ : qv (1) (1) (1 : Int32)) (by decide) (by decide)) ls _ _ E (lv_sub hl [0] rfl) hP hD hS
            · rw [if_neg c6] at E
              refine lv_iload_n hx hb dX7_hasForm_33 rfl (lv_at hl 0 rfl) ?_
              refine lv_bipush (v := (11 : Int32)) hx hb dX7_hasForm_34 (by decide) ?_
              refine lv_icmp_eq (tgt := 45) hx hb dX7_hasForm_36 (by decide) (fun c7 => ?_) (fun c7 => ?_)
              · rw [if_pos c7] at E
                refine lv_iconst (v := (1 : Int32)) hx hb dX7_hasForm_45 (by decide) ?_
                refine lv_goto (tgt := 50) hx hb dX7_hasForm_46 (by decide) ?_
                exact J10 (1 : Int32) (Or.inr rfl) (qv_w (⟨by decide, by decide⟩ : qv (1) (1) (1 : Int32)) (by decide) (by decide)) ls _ _ E (lv_sub hl [0] rfl) hP hD hS
              · rw [if_neg c7] at E
                refine lv_iload_n hx hb dX7_hasForm_39 rfl (lv_at hl 0 rfl) ?_
                refine lv_bipush (v := (12 : Int32)) hx hb dX7_hasForm_40 (by decide) ?_
                refine lv_icmp_ne (tgt := 49) hx hb dX7_hasForm_42 (by decide) (fun c8 => ?_) (fun c8 => ?_)
                · rw [if_neg c8] at E
                  refine lv_iconst (v := (0 : Int32)) hx hb dX7_hasForm_49 (by decide) ?_
                  exact J10 (0 : Int32) (Or.inl rfl) (qv_w (⟨by decide, by decide⟩ : qv (0) (0) (0 : Int32)) (by decide) (by decide)) ls _ _ E (lv_sub hl [0] rfl) hP hD hS
                · rw [if_pos c8] at E
                  refine lv_iconst (v := (1 : Int32)) hx hb dX7_hasForm_45 (by decide) ?_
                  refine lv_goto (tgt := 50) hx hb dX7_hasForm_46 (by decide) ?_
                  exact J10 (1 : Int32) (Or.inr rfl) (qv_w (⟨by decide, by decide⟩ : qv (1) (1) (1 : Int32)) (by decide) (by decide)) ls _ _ E (lv_sub hl [0] rfl) hP hD hS
def f_X7_conditional_J4 (x3 : Int32) : Int32 := (x3)
def f_X7_conditional (p0 : Int32) : Int32 := ((if p0 < (34 : Int32) then (f_X7_conditional_J4 (0 : Int32)) else (if (36 : Int32) < p0 then (f_X7_conditional_J4 (0 : Int32)) else (f_X7_conditional_J4 (1 : Int32)))))
set_option maxHeartbeats 4000000 in
set_option maxRecDepth 100000 in
theorem c_X7_conditional (l : Launch) (D : va_G) (cI : ClassId) (tT : Nat) (p0 : Int32) (r_o : Int32) (hq : f_X7_conditional p0 = r_o) : qM l yX7_conditional wsX7_conditional (qr 0 0) (qX tT) D vwCl [(cI, .int)] [] [.int p0] (some (.int r_o)) [] := by
  refine qM_of (cc := cX7_conditional) (maxL := 1) (ret := (some .boolean)) (by decide) rfl (Nat.le_of_ble_eq_true rfl) ?_
  intro p e s m args below meth c A ls Z hx hb hml hr hts hown hlk hK hA hXs hP hD hS hl hZ
  have hown : s.vm.findClass RX7 = some m.cls := hown
  have hl : lv_has ls 1 [(0, .int p0)] := hl
  have E := hq
  rw [f_X7_conditional] at E
  refine lv_iload_n hx hb dX7_conditional_0 rfl (lv_at hl 0 rfl) ?_
  refine lv_bipush (v := (34 : Int32)) hx hb dX7_conditional_1 (by decide) ?_
  have J4 : ∀ (x3 : Int32) (hb_x3 : x3 = 0 ∨ x3 = 1) (hv_x3 : qv (0) (1) x3) (ls : Array Slot) (H : Heap) (locs : List Loc), f_X7_conditional_J4 x3 = r_o → lv_has ls 1 [(0, .int p0)] → va_P D vwCl [] H → va_D A [] → va_S A s.heap H locs → W p l e (qr 0 0) s m args below meth c H locs 0 0 Z (F0 m 17 ls [.int x3]) := by
    intro x3 hb_x3 hv_x3 ls H locs E hl hP hD hS
    rw [f_X7_conditional_J4] at E
    cases E
    rw [hZ]
    exact qw_zret hx hb hr hlk hb_x3 hP hD hS dX7_conditional_17
  refine lv_icmp_lt (tgt := 16) hx hb dX7_conditional_3 (by decide) (fun c1 => ?_) (fun c1 => ?_)
  · rw [if_pos c1] at E
    refine lv_iconst (v := (0 : Int32)) hx hb dX7_conditional_16 (by decide) ?_
    exact J4 (0 : Int32) (Or.inl rfl) (qv_w (⟨by decide, by decide⟩ : qv (0) (0) (0 : Int32)) (by decide) (by decide)) ls _ _ E (lv_sub hl [0] rfl) hP hD hS
  · rw [if_neg c1] at E
    refine lv_iload_n hx hb dX7_conditional_6 rfl (lv_at hl 0 rfl) ?_
    refine lv_bipush (v := (36 : Int32)) hx hb dX7_conditional_7 (by decide) ?_
    refine lv_icmp_gt (tgt := 16) hx hb dX7_conditional_9 (by decide) (fun c2 => ?_) (fun c2 => ?_)
    · rw [if_pos c2] at E
      refine lv_iconst (v := (0 : Int32)) hx hb dX7_conditional_16 (by decide) ?_
      exact J4 (0 : Int32) (Or.inl rfl) (qv_w (⟨by decide, by decide⟩ : qv (0) (0) (0 : Int32)) (by decide) (by decide)) ls _ _ E (lv_sub hl [0] rfl) hP hD hS
    · rw [if_neg c2] at E
      refine lv_iconst (v := (1 : Int32)) hx hb dX7_conditional_12 (by decide) ?_
      refine lv_goto (tgt := 17) hx hb dX7_conditional_13 (by decide) ?_
      exact J4 (1 : Int32) (Or.inr rfl) (qv_w (⟨by decide, by decide⟩ : qv (1) (1) (1 : Int32)) (by decide) (by decide)) ls _ _ E (lv_sub hl [0] rfl) hP hD hS
def f_X7_allows_J29 (x28 : Int32) : Int32 := (x28)
def f_X7_allows_J26 (p1 : Int32) : Int32 := ((if p1 = (8 : Int32) then (f_X7_allows_J29 (1 : Int32)) else (f_X7_allows_J29 (0 : Int32))))
def f_X7_allows_J12 (x11 : Int32) : Int32 := (x11)
def f_X7_allows_J16 (x15 : Int32) : Int32 := (x15)
def f_X7_allows_J19 (x18 : Int32) : Int32 := (x18)
def f_X7_allows_J22 (x21 : Int32) : Int32 := (x21)
def f_X7_allows_J25 (x24 : Int32) : Int32 := (x24)
def f_X7_allows (p0 : Int32) (p1 : Int32) : Int32 := ((if p0 = (0 : Int32) then ((if p1 = (1 : Int32) then (f_X7_allows_J12 (1 : Int32)) else (if p1 = (4 : Int32) then (f_X7_allows_J12 (1 : Int32)) else (if p1 = (8 : Int32) then (f_X7_allows_J12 (1 : Int32)) else (f_X7_allows_J12 (0 : Int32)))))) else (if p0 = (1 : Int32) then ((if p1 = (4 : Int32) then (f_X7_allows_J16 (1 : Int32)) else (if p1 = (8 : Int32) then (f_X7_allows_J16 (1 : Int32)) else (f_X7_allows_J16 (0 : Int32))))) else (if p0 = (2 : Int32) then (f_X7_allows_J26 p1) else (if p0 = (3 : Int32) then (f_X7_allows_J26 p1) else (if p0 = (4 : Int32) then ((if p1 = 0 then (f_X7_allows_J19 (1 : Int32)) else (f_X7_allows_J19 (0 : Int32)))) else (if p0 = (5 : Int32) then ((if p1 = (1 : Int32) then (f_X7_allows_J22 (1 : Int32)) else (f_X7_allows_J22 (0 : Int32)))) else (if p0 = (6 : Int32) then ((if p1 = (4 : Int32) then (f_X7_allows_J25 (1 : Int32)) else (f_X7_allows_J25 (0 : Int32)))) else (f_X7_allows_J26 p1)))))))))
set_option maxHeartbeats 4000000 in
set_option maxRecDepth 100000 in
theorem c_X7_allows (l : Launch) (D : va_G) (cI : ClassId) (tT : Nat) (p0 : Int32) (p1 : Int32) (r_o : Int32) (hq : f_X7_allows p0 p1 = r_o) : qM l yX7_allows wsX7_allows (qr 0 0) (qX tT) D vwCl [(cI, .int)] [] [.int p0, .int p1] (some (.int r_o)) [] := by
  refine qM_of (cc := cX7_allows) (maxL := 2) (ret := (some .boolean)) (by decide) rfl (Nat.le_of_ble_eq_true rfl) ?_
  intro p e s m args below meth c A ls Z hx hb hml hr hts hown hlk hK hA hXs hP hD hS hl hZ
  have hown : s.vm.findClass RX7 = some m.cls := hown
  have hl : lv_has ls 2 [(0, .int p0), (1, .int p1)] := hl
  have E := hq
  rw [f_X7_allows] at E
  refine lv_iload_n hx hb dX7_allows_0 rfl (lv_at hl 0 rfl) ?_
  have J26 : ∀  (ls : Array Slot) (H : Heap) (locs : List Loc), f_X7_allows_J26 p1 = r_o → lv_has ls 2 [(0, .int p0), (1, .int p1)] → va_P D vwCl [] H → va_D A [] → va_S A s.heap H locs → W p l e (qr 0 0) s m args below meth c H locs 0 0 Z (F0 m 115 ls []) := by
    intro  ls H locs E hl hP hD hS
    rw [f_X7_allows_J26] at E
    refine lv_iload_n hx hb dX7_allows_115 rfl (lv_at hl 1 rfl) ?_
    refine lv_bipush (v := (8 : Int32)) hx hb dX7_allows_116 (by decide) ?_
    have J29 : ∀ (x28 : Int32) (hb_x28 : x28 = 0 ∨ x28 = 1) (hv_x28 : qv (0) (1) x28) (ls : Array Slot) (H : Heap) (locs : List Loc), f_X7_allows_J29 x28 = r_o → lv_has ls 2 [(0, .int p0), (1, .int p1)] → va_P D vwCl [] H → va_D A [] → va_S A s.heap H locs → W p l e (qr 0 0) s m args below meth c H locs 0 0 Z (F0 m 126 ls [.int x28]) := by
      intro x28 hb_x28 hv_x28 ls H locs E hl hP hD hS
      rw [f_X7_allows_J29] at E
      cases E
      rw [hZ]
      exact qw_zret hx hb hr hlk hb_x28 hP hD hS dX7_allows_126
    refine lv_icmp_ne (tgt := 125) hx hb dX7_allows_118 (by decide) (fun c27 => ?_) (fun c27 => ?_)
    · rw [if_neg c27] at E
      refine lv_iconst (v := (0 : Int32)) hx hb dX7_allows_125 (by decide) ?_
      exact J29 (0 : Int32) (Or.inl rfl) (qv_w (⟨by decide, by decide⟩ : qv (0) (0) (0 : Int32)) (by decide) (by decide)) ls _ _ E (lv_sub hl [0, 1] rfl) hP hD hS
    · rw [if_pos c27] at E
      refine lv_iconst (v := (1 : Int32)) hx hb dX7_allows_121 (by decide) ?_
      refine lv_goto (tgt := 126) hx hb dX7_allows_122 (by decide) ?_
      exact J29 (1 : Int32) (Or.inr rfl) (qv_w (⟨by decide, by decide⟩ : qv (1) (1) (1 : Int32)) (by decide) (by decide)) ls _ _ E (lv_sub hl [0, 1] rfl) hP hD hS
  by_cases c1 : p0 = (0 : Int32)
  · rw [if_pos c1] at E
    refine lv_tableIn (off := (43 : Int)) (tgt := 44) hx hb dX7_allows_1 (by rw [c1]; decide) (by rw [c1]; decide) (by rw [c1]; rfl) (by decide) ?_
    refine lv_iload_n hx hb dX7_allows_44 rfl (lv_at hl 1 rfl) ?_
    refine lv_iconst (v := (1 : Int32)) hx hb dX7_allows_45 (by decide) ?_
    have J12 : ∀ (x11 : Int32) (hb_x11 : x11 = 0 ∨ x11 = 1) (hv_x11 : qv (0) (1) x11) (ls : Array Slot) (H : Heap) (locs : List Loc), f_X7_allows_J12 x11 = r_o → lv_has ls 2 [(0, .int p0), (1, .int p1)] → va_P D vwCl [] H → va_D A [] → va_S A s.heap H locs → W p l e (qr 0 0) s m args below meth c H locs 0 0 Z (F0 m 65 ls [.int x11]) := by
      intro x11 hb_x11 hv_x11 ls H locs E hl hP hD hS
      rw [f_X7_allows_J12] at E
      cases E
      rw [hZ]
      exact qw_zret hx hb hr hlk hb_x11 hP hD hS dX7_allows_65
    refine lv_icmp_eq (tgt := 60) hx hb dX7_allows_46 (by decide) (fun c8 => ?_) (fun c8 => ?_)
    · rw [if_pos c8] at E
      refine lv_iconst (v := (1 : Int32)) hx hb dX7_allows_60 (by decide) ?_
      refine lv_goto (tgt := 65) hx hb dX7_allows_61 (by decide) ?_
      exact J12 (1 : Int32) (Or.inr rfl) (qv_w (⟨by decide, by decide⟩ : qv (1) (1) (1 : Int32)) (by decide) (by decide)) ls _ _ E (lv_sub hl [0, 1] rfl) hP hD hS
    · rw [if_neg c8] at E
      refine lv_iload_n hx hb dX7_allows_49 rfl (lv_at hl 1 rfl) ?_
      refine lv_iconst (v := (4 : Int32)) hx hb dX7_allows_50 (by decide) ?_
      refine lv_icmp_eq (tgt := 60) hx hb dX7_allows_51 (by decide) (fun c9 => ?_) (fun c9 => ?_)
      · rw [if_pos c9] at E
        refine lv_iconst (v := (1 : Int32)) hx hb dX7_allows_60 (by decide) ?_
        refine lv_goto (tgt := 65) hx hb dX7_allows_61 (by decide) ?_
        exact J12 (1 : Int32) (Or.inr rfl) (qv_w (⟨by decide, by decide⟩ : qv (1) (1) (1 : Int32)) (by decide) (by decide)) ls _ _ E (lv_sub hl [0, 1] rfl) hP hD hS
      · rw [if_neg c9] at E
        refine lv_iload_n hx hb dX7_allows_54 rfl (lv_at hl 1 rfl) ?_
        refine lv_bipush (v := (8 : Int32)) hx hb dX7_allows_55 (by decide) ?_
        refine lv_icmp_ne (tgt := 64) hx hb dX7_allows_57 (by decide) (fun c10 => ?_) (fun c10 => ?_)
        · rw [if_neg c10] at E
          refine lv_iconst (v := (0 : Int32)) hx hb dX7_allows_64 (by decide) ?_
          exact J12 (0 : Int32) (Or.inl rfl) (qv_w (⟨by decide, by decide⟩ : qv (0) (0) (0 : Int32)) (by decide) (by decide)) ls _ _ E (lv_sub hl [0, 1] rfl) hP hD hS
        · rw [if_pos c10] at E
          refine lv_iconst (v := (1 : Int32)) hx hb dX7_allows_60 (by decide) ?_
          refine lv_goto (tgt := 65) hx hb dX7_allows_61 (by decide) ?_
          exact J12 (1 : Int32) (Or.inr rfl) (qv_w (⟨by decide, by decide⟩ : qv (1) (1) (1 : Int32)) (by decide) (by decide)) ls _ _ E (lv_sub hl [0, 1] rfl) hP hD hS
  · rw [if_neg c1] at E
    by_cases c2 : p0 = (1 : Int32)
    · rw [if_pos c2] at E
      refine lv_tableIn (off := (65 : Int)) (tgt := 66) hx hb dX7_allows_1 (by rw [c2]; decide) (by rw [c2]; decide) (by rw [c2]; rfl) (by decide) ?_
      refine lv_iload_n hx hb dX7_allows_66 rfl (lv_at hl 1 rfl) ?_
      refine lv_iconst (v := (4 : Int32)) hx hb dX7_allows_67 (by decide) ?_
      have J16 : ∀ (x15 : Int32) (hb_x15 : x15 = 0 ∨ x15 = 1) (hv_x15 : qv (0) (1) x15) (ls : Array Slot) (H : Heap) (locs : List Loc), f_X7_allows_J16 x15 = r_o → lv_has ls 2 [(0, .int p0), (1, .int p1)] → va_P D vwCl [] H → va_D A [] → va_S A s.heap H locs → W p l e (qr 0 0) s m args below meth c H locs 0 0 Z (F0 m 82 ls [.int x15]) := by
        intro x15 hb_x15 hv_x15 ls H locs E hl hP hD hS
        rw [f_X7_allows_J16] at E
        cases E
        rw [hZ]
        exact qw_zret hx hb hr hlk hb_x15 hP hD hS dX7_allows_82
      refine lv_icmp_eq (tgt := 77) hx hb dX7_allows_68 (by decide) (fun c13 => ?_) (fun c13 => ?_)
      · rw [if_pos c13] at E
        refine lv_iconst (v := (1 : Int32)) hx hb dX7_allows_77 (by decide) ?_
        refine lv_goto (tgt := 82) hx hb dX7_allows_78 (by decide) ?_
        exact J16 (1 : Int32) (Or.inr rfl) (qv_w (⟨by decide, by decide⟩ : qv (1) (1) (1 : Int32)) (by decide) (by decide)) ls _ _ E (lv_sub hl [0, 1] rfl) hP hD hS
      · rw [if_neg c13] at E
        refine lv_iload_n hx hb dX7_allows_71 rfl (lv_at hl 1 rfl) ?_
        refine lv_bipush (v := (8 : Int32)) hx hb dX7_allows_72 (by decide) ?_
        refine lv_icmp_ne (tgt := 81) hx hb dX7_allows_74 (by decide) (fun c14 => ?_) (fun c14 => ?_)
        · rw [if_neg c14] at E
          refine lv_iconst (v := (0 : Int32)) hx hb dX7_allows_81 (by decide) ?_
          exact J16 (0 : Int32) (Or.inl rfl) (qv_w (⟨by decide, by decide⟩ : qv (0) (0) (0 : Int32)) (by decide) (by decide)) ls _ _ E (lv_sub hl [0, 1] rfl) hP hD hS
        · rw [if_pos c14] at E
          refine lv_iconst (v := (1 : Int32)) hx hb dX7_allows_77 (by decide) ?_
          refine lv_goto (tgt := 82) hx hb dX7_allows_78 (by decide) ?_
          exact J16 (1 : Int32) (Or.inr rfl) (qv_w (⟨by decide, by decide⟩ : qv (1) (1) (1 : Int32)) (by decide) (by decide)) ls _ _ E (lv_sub hl [0, 1] rfl) hP hD hS
    · rw [if_neg c2] at E
      by_cases c3 : p0 = (2 : Int32)
      · rw [if_pos c3] at E
        refine lv_tableIn (off := (114 : Int)) (tgt := 115) hx hb dX7_allows_1 (by rw [c3]; decide) (by rw [c3]; decide) (by rw [c3]; rfl) (by decide) ?_
        exact J26  ls _ _ E (lv_sub hl [0, 1] rfl) hP hD hS
      · rw [if_neg c3] at E
        by_cases c4 : p0 = (3 : Int32)
        · rw [if_pos c4] at E
          refine lv_tableIn (off := (114 : Int)) (tgt := 115) hx hb dX7_allows_1 (by rw [c4]; decide) (by rw [c4]; decide) (by rw [c4]; rfl) (by decide) ?_
          exact J26  ls _ _ E (lv_sub hl [0, 1] rfl) hP hD hS
        · rw [if_neg c4] at E
          by_cases c5 : p0 = (4 : Int32)
          · rw [if_pos c5] at E
            refine lv_tableIn (off := (82 : Int)) (tgt := 83) hx hb dX7_allows_1 (by rw [c5]; decide) (by rw [c5]; decide) (by rw [c5]; rfl) (by decide) ?_
            refine lv_iload_n hx hb dX7_allows_83 rfl (lv_at hl 1 rfl) ?_
            have J19 : ∀ (x18 : Int32) (hb_x18 : x18 = 0 ∨ x18 = 1) (hv_x18 : qv (0) (1) x18) (ls : Array Slot) (H : Heap) (locs : List Loc), f_X7_allows_J19 x18 = r_o → lv_has ls 2 [(0, .int p0), (1, .int p1)] → va_P D vwCl [] H → va_D A [] → va_S A s.heap H locs → W p l e (qr 0 0) s m args below meth c H locs 0 0 Z (F0 m 92 ls [.int x18]) := by
              intro x18 hb_x18 hv_x18 ls H locs E hl hP hD hS
              rw [f_X7_allows_J19] at E
              cases E
              rw [hZ]
              exact qw_zret hx hb hr hlk hb_x18 hP hD hS dX7_allows_92
            refine lv_if_ne (tgt := 91) hx hb dX7_allows_84 (by decide) (fun c17 => ?_) (fun c17 => ?_)
            · rw [if_neg c17] at E
              refine lv_iconst (v := (0 : Int32)) hx hb dX7_allows_91 (by decide) ?_
              exact J19 (0 : Int32) (Or.inl rfl) (qv_w (⟨by decide, by decide⟩ : qv (0) (0) (0 : Int32)) (by decide) (by decide)) ls _ _ E (lv_sub hl [0, 1] rfl) hP hD hS
            · rw [if_pos c17] at E
              refine lv_iconst (v := (1 : Int32)) hx hb dX7_allows_87 (by decide) ?_
              refine lv_goto (tgt := 92) hx hb dX7_allows_88 (by decide) ?_
              exact J19 (1 : Int32) (Or.inr rfl) (qv_w (⟨by decide, by decide⟩ : qv (1) (1) (1 : Int32)) (by decide) (by decide)) ls _ _ E (lv_sub hl [0, 1] rfl) hP hD hS
          · rw [if_neg c5] at E
            by_cases c6 : p0 = (5 : Int32)
            · rw [if_pos c6] at E
              refine lv_tableIn (off := (92 : Int)) (tgt := 93) hx hb dX7_allows_1 (by rw [c6]; decide) (by rw [c6]; decide) (by rw [c6]; rfl) (by decide) ?_
              refine lv_iload_n hx hb dX7_allows_93 rfl (lv_at hl 1 rfl) ?_
              refine lv_iconst (v := (1 : Int32)) hx hb dX7_allows_94 (by decide) ?_
              have J22 : ∀ (x21 : Int32) (hb_x21 : x21 = 0 ∨ x21 = 1) (hv_x21 : qv (0) (1) x21) (ls : Array Slot) (H : Heap) (locs : List Loc), f_X7_allows_J22 x21 = r_o → lv_has ls 2 [(0, .int p0), (1, .int p1)] → va_P D vwCl [] H → va_D A [] → va_S A s.heap H locs → W p l e (qr 0 0) s m args below meth c H locs 0 0 Z (F0 m 103 ls [.int x21]) := by
                intro x21 hb_x21 hv_x21 ls H locs E hl hP hD hS
                rw [f_X7_allows_J22] at E
                cases E
                rw [hZ]
                exact qw_zret hx hb hr hlk hb_x21 hP hD hS dX7_allows_103
              refine lv_icmp_ne (tgt := 102) hx hb dX7_allows_95 (by decide) (fun c20 => ?_) (fun c20 => ?_)
              · rw [if_neg c20] at E
                refine lv_iconst (v := (0 : Int32)) hx hb dX7_allows_102 (by decide) ?_
                exact J22 (0 : Int32) (Or.inl rfl) (qv_w (⟨by decide, by decide⟩ : qv (0) (0) (0 : Int32)) (by decide) (by decide)) ls _ _ E (lv_sub hl [0, 1] rfl) hP hD hS
              · rw [if_pos c20] at E
                refine lv_iconst (v := (1 : Int32)) hx hb dX7_allows_98 (by decide) ?_
                refine lv_goto (tgt := 103) hx hb dX7_allows_99 (by decide) ?_
                exact J22 (1 : Int32) (Or.inr rfl) (qv_w (⟨by decide, by decide⟩ : qv (1) (1) (1 : Int32)) (by decide) (by decide)) ls _ _ E (lv_sub hl [0, 1] rfl) hP hD hS
            · rw [if_neg c6] at E
              by_cases c7 : p0 = (6 : Int32)
              · rw [if_pos c7] at E
                refine lv_tableIn (off := (103 : Int)) (tgt := 104) hx hb dX7_allows_1 (by rw [c7]; decide) (by rw [c7]; decide) (by rw [c7]; rfl) (by decide) ?_
                refine lv_iload_n hx hb dX7_allows_104 rfl (lv_at hl 1 rfl) ?_
                refine lv_iconst (v := (4 : Int32)) hx hb dX7_allows_105 (by decide) ?_
                have J25 : ∀ (x24 : Int32) (hb_x24 : x24 = 0 ∨ x24 = 1) (hv_x24 : qv (0) (1) x24) (ls : Array Slot) (H : Heap) (locs : List Loc), f_X7_allows_J25 x24 = r_o → lv_has ls 2 [(0, .int p0), (1, .int p1)] → va_P D vwCl [] H → va_D A [] → va_S A s.heap H locs → W p l e (qr 0 0) s m args below meth c H locs 0 0 Z (F0 m 114 ls [.int x24]) := by
                  intro x24 hb_x24 hv_x24 ls H locs E hl hP hD hS
                  rw [f_X7_allows_J25] at E
                  cases E
                  rw [hZ]
                  exact qw_zret hx hb hr hlk hb_x24 hP hD hS dX7_allows_114
                refine lv_icmp_ne (tgt := 113) hx hb dX7_allows_106 (by decide) (fun c23 => ?_) (fun c23 => ?_)
                · rw [if_neg c23] at E
                  refine lv_iconst (v := (0 : Int32)) hx hb dX7_allows_113 (by decide) ?_
                  exact J25 (0 : Int32) (Or.inl rfl) (qv_w (⟨by decide, by decide⟩ : qv (0) (0) (0 : Int32)) (by decide) (by decide)) ls _ _ E (lv_sub hl [0, 1] rfl) hP hD hS
                · rw [if_pos c23] at E
                  refine lv_iconst (v := (1 : Int32)) hx hb dX7_allows_109 (by decide) ?_
                  refine lv_goto (tgt := 114) hx hb dX7_allows_110 (by decide) ?_
                  exact J25 (1 : Int32) (Or.inr rfl) (qv_w (⟨by decide, by decide⟩ : qv (1) (1) (1 : Int32)) (by decide) (by decide)) ls _ _ E (lv_sub hl [0, 1] rfl) hP hD hS
              · rw [if_neg c7] at E
                refine lv_tableOut (tgt := 115) hx hb dX7_allows_1 (by have nc1 := lv_neT c1 (a := 0) rfl; have nc2 := lv_neT c2 (a := 1) rfl; have nc3 := lv_neT c3 (a := 2) rfl; have nc4 := lv_neT c4 (a := 3) rfl; have nc5 := lv_neT c5 (a := 4) rfl; have nc6 := lv_neT c6 (a := 5) rfl; have nc7 := lv_neT c7 (a := 6) rfl; omega) (by decide) ?_
                exact J26  ls _ _ E (lv_sub hl [0, 1] rfl) hP hD hS
def f_X7_room_J9 (x8 : Int32) : Int32 := (x8)
def f_X7_room (p0 : Int32) (p1 : Int32) : Int32 := ((if p0 = (1 : Int32) then (if p1 = (1 : Int32) then (f_X7_room_J9 (1 : Int32)) else (f_X7_room_J9 (4 : Int32))) else (if p0 = (2 : Int32) then (f_X7_room_J9 (1 : Int32)) else (if p0 = (6 : Int32) then (f_X7_room_J9 (1 : Int32)) else (if p0 = (3 : Int32) then (f_X7_room_J9 (4 : Int32)) else (if p0 = (4 : Int32) then (f_X7_room_J9 (8 : Int32)) else (if p0 = (5 : Int32) then (f_X7_room_J9 (2 : Int32)) else (f_X7_room_J9 (0 : Int32)))))))))
set_option maxHeartbeats 4000000 in
set_option maxRecDepth 100000 in
theorem c_X7_room (l : Launch) (D : va_G) (cI : ClassId) (tT : Nat) (p0 : Int32) (p1 : Int32) (r_o : Int32) (hq : f_X7_room p0 p1 = r_o) : qM l yX7_room wsX7_room (qr 0 0) (qX tT) D vwCl [(cI, .int)] [] [.int p0, .int p1] (some (.int r_o)) [] := by
  refine qM_of (cc := cX7_room) (maxL := 2) (ret := (some .int)) (by decide) rfl (Nat.le_of_ble_eq_true rfl) ?_
  intro p e s m args below meth c A ls Z hx hb hml hr hts hown hlk hK hA hXs hP hD hS hl hZ
  have hown : s.vm.findClass RX7 = some m.cls := hown
  have hl : lv_has ls 2 [(0, .int p0), (1, .int p1)] := hl
  have E := hq
  rw [f_X7_room] at E
  refine lv_iload_n hx hb dX7_room_0 rfl (lv_at hl 0 rfl) ?_
  refine lv_iconst (v := (1 : Int32)) hx hb dX7_room_1 (by decide) ?_
  have J9 : ∀ (x8 : Int32) (hv_x8 : qv (0) (8) x8) (ls : Array Slot) (H : Heap) (locs : List Loc), f_X7_room_J9 x8 = r_o → lv_has ls 2 [(0, .int p0), (1, .int p1)] → va_P D vwCl [] H → va_D A [] → va_S A s.heap H locs → W p l e (qr 0 0) s m args below meth c H locs 0 0 Z (F0 m 62 ls [.int x8]) := by
    intro x8 hv_x8 ls H locs E hl hP hD hS
    rw [f_X7_room_J9] at E
    cases E
    rw [hZ]
    exact qw_iret hx hb hr hlk hP hD hS dX7_room_62
  refine lv_icmp_ne (tgt := 18) hx hb dX7_room_2 (by decide) (fun c1 => ?_) (fun c1 => ?_)
  · rw [if_neg c1] at E
    refine lv_iload_n hx hb dX7_room_18 rfl (lv_at hl 0 rfl) ?_
    refine lv_iconst (v := (2 : Int32)) hx hb dX7_room_19 (by decide) ?_
    refine lv_icmp_eq (tgt := 29) hx hb dX7_room_20 (by decide) (fun c2 => ?_) (fun c2 => ?_)
    · rw [if_pos c2] at E
      refine lv_iconst (v := (1 : Int32)) hx hb dX7_room_29 (by decide) ?_
      refine lv_goto (tgt := 62) hx hb dX7_room_30 (by decide) ?_
      exact J9 (1 : Int32) (qv_w (⟨by decide, by decide⟩ : qv (1) (1) (1 : Int32)) (by decide) (by decide)) ls _ _ E (lv_sub hl [0, 1] rfl) hP hD hS
    · rw [if_neg c2] at E
      refine lv_iload_n hx hb dX7_room_23 rfl (lv_at hl 0 rfl) ?_
      refine lv_bipush (v := (6 : Int32)) hx hb dX7_room_24 (by decide) ?_
      refine lv_icmp_ne (tgt := 33) hx hb dX7_room_26 (by decide) (fun c3 => ?_) (fun c3 => ?_)
      · rw [if_neg c3] at E
        refine lv_iload_n hx hb dX7_room_33 rfl (lv_at hl 0 rfl) ?_
        refine lv_iconst (v := (3 : Int32)) hx hb dX7_room_34 (by decide) ?_
        refine lv_icmp_ne (tgt := 42) hx hb dX7_room_35 (by decide) (fun c4 => ?_) (fun c4 => ?_)
        · rw [if_neg c4] at E
          refine lv_iload_n hx hb dX7_room_42 rfl (lv_at hl 0 rfl) ?_
          refine lv_iconst (v := (4 : Int32)) hx hb dX7_room_43 (by decide) ?_
          refine lv_icmp_ne (tgt := 52) hx hb dX7_room_44 (by decide) (fun c5 => ?_) (fun c5 => ?_)
          · rw [if_neg c5] at E
            refine lv_iload_n hx hb dX7_room_52 rfl (lv_at hl 0 rfl) ?_
            refine lv_iconst (v := (5 : Int32)) hx hb dX7_room_53 (by decide) ?_
            refine lv_icmp_ne (tgt := 61) hx hb dX7_room_54 (by decide) (fun c6 => ?_) (fun c6 => ?_)
            · rw [if_neg c6] at E
              refine lv_iconst (v := (0 : Int32)) hx hb dX7_room_61 (by decide) ?_
              exact J9 (0 : Int32) (qv_w (⟨by decide, by decide⟩ : qv (0) (0) (0 : Int32)) (by decide) (by decide)) ls _ _ E (lv_sub hl [0, 1] rfl) hP hD hS
            · rw [if_pos c6] at E
              refine lv_iconst (v := (2 : Int32)) hx hb dX7_room_57 (by decide) ?_
              refine lv_goto (tgt := 62) hx hb dX7_room_58 (by decide) ?_
              exact J9 (2 : Int32) (qv_w (⟨by decide, by decide⟩ : qv (2) (2) (2 : Int32)) (by decide) (by decide)) ls _ _ E (lv_sub hl [0, 1] rfl) hP hD hS
          · rw [if_pos c5] at E
            refine lv_bipush (v := (8 : Int32)) hx hb dX7_room_47 (by decide) ?_
            refine lv_goto (tgt := 62) hx hb dX7_room_49 (by decide) ?_
            exact J9 (8 : Int32) (qv_w (⟨by decide, by decide⟩ : qv (8) (8) (8 : Int32)) (by decide) (by decide)) ls _ _ E (lv_sub hl [0, 1] rfl) hP hD hS
        · rw [if_pos c4] at E
          refine lv_iconst (v := (4 : Int32)) hx hb dX7_room_38 (by decide) ?_
          refine lv_goto (tgt := 62) hx hb dX7_room_39 (by decide) ?_
          exact J9 (4 : Int32) (qv_w (⟨by decide, by decide⟩ : qv (4) (4) (4 : Int32)) (by decide) (by decide)) ls _ _ E (lv_sub hl [0, 1] rfl) hP hD hS
      · rw [if_pos c3] at E
        refine lv_iconst (v := (1 : Int32)) hx hb dX7_room_29 (by decide) ?_
        refine lv_goto (tgt := 62) hx hb dX7_room_30 (by decide) ?_
        exact J9 (1 : Int32) (qv_w (⟨by decide, by decide⟩ : qv (1) (1) (1 : Int32)) (by decide) (by decide)) ls _ _ E (lv_sub hl [0, 1] rfl) hP hD hS
  · rw [if_pos c1] at E
    refine lv_iload_n hx hb dX7_room_5 rfl (lv_at hl 1 rfl) ?_
    refine lv_iconst (v := (1 : Int32)) hx hb dX7_room_6 (by decide) ?_
    refine lv_icmp_ne (tgt := 14) hx hb dX7_room_7 (by decide) (fun c7 => ?_) (fun c7 => ?_)
    · rw [if_neg c7] at E
      refine lv_iconst (v := (4 : Int32)) hx hb dX7_room_14 (by decide) ?_
      refine lv_goto (tgt := 62) hx hb dX7_room_15 (by decide) ?_
      exact J9 (4 : Int32) (qv_w (⟨by decide, by decide⟩ : qv (4) (4) (4 : Int32)) (by decide) (by decide)) ls _ _ E (lv_sub hl [0, 1] rfl) hP hD hS
    · rw [if_pos c7] at E
      refine lv_iconst (v := (1 : Int32)) hx hb dX7_room_10 (by decide) ?_
      refine lv_goto (tgt := 62) hx hb dX7_room_11 (by decide) ?_
      exact J9 (1 : Int32) (qv_w (⟨by decide, by decide⟩ : qv (1) (1) (1 : Int32)) (by decide) (by decide)) ls _ _ E (lv_sub hl [0, 1] rfl) hP hD hS
def f_X7_holds_J5 (x4 : Int32) : Int32 := (x4)
def f_X7_holds_J10 (x9 : Int32) : Int32 := (x9)
def f_X7_holds_J15 (x14 : Int32) : Int32 := (x14)
def f_X7_holds (p0 : Int32) (p1 : Int32) (p2 : Int64) : Int32 := (if p0 = (6 : Int32) then ((if (lg_cmp p2 (0 : Int64)) < 0 then (f_X7_holds_J5 (0 : Int32)) else (if 0 ≤ (lg_cmp p2 ((1 : Int64) <<< ((((8 : Int32) * (f_X7_room p0 p1))).toInt64 &&& 63))) then (f_X7_holds_J5 (0 : Int32)) else (f_X7_holds_J5 (1 : Int32))))) else (if p0 = (5 : Int32) then ((if (lg_cmp p2 (0 : Int64)) < 0 then (f_X7_holds_J10 (0 : Int32)) else (if 0 ≤ (lg_cmp p2 ((1 : Int64) <<< ((((8 : Int32) * (f_X7_room p0 p1))).toInt64 &&& 63))) then (f_X7_holds_J10 (0 : Int32)) else (f_X7_holds_J10 (1 : Int32))))) else ((if (f_X7_room p0 p1) = (8 : Int32) then (f_X7_holds_J15 (1 : Int32)) else (if (lg_cmp p2 ((-1 : Int64) <<< (((((8 : Int32) * (f_X7_room p0 p1)) - (1 : Int32))).toInt64 &&& 63))) < 0 then (f_X7_holds_J15 (0 : Int32)) else (if 0 ≤ (lg_cmp p2 ((1 : Int64) <<< (((((8 : Int32) * (f_X7_room p0 p1)) - (1 : Int32))).toInt64 &&& 63))) then (f_X7_holds_J15 (0 : Int32)) else (f_X7_holds_J15 (1 : Int32))))))))
set_option maxHeartbeats 4000000 in
set_option maxRecDepth 100000 in
theorem c_X7_holds (l : Launch) (D : va_G) (cI : ClassId) (tT : Nat) (p0 : Int32) (p1 : Int32) (p2 : Int64) (r_o : Int32) (hq : f_X7_holds p0 p1 p2 = r_o) : qM l yX7_holds wsX7_holds (qr 1 21) (qX tT) D vwCl [(cI, .int)] [] [.int p0, .int p1, .long p2] (some (.int r_o)) [] := by
  refine qM_of (cc := cX7_holds) (maxL := 5) (ret := (some .boolean)) (by decide) rfl (Nat.le_of_ble_eq_true rfl) ?_
  intro p e s m args below meth c A ls Z hx hb hml hr hts hown hlk hK hA hXs hP hD hS hl hZ
  have hown : s.vm.findClass RX7 = some m.cls := hown
  have hl : lv_has ls 5 [(0, .int p0), (1, .int p1), (2, .long p2)] := hl
  have lk68 := hts (.constantLong RX7 68 (-1)) (by decide +kernel)
  have hXg := qX_ok tT
  have E := hq
  rw [f_X7_holds] at E
  refine lv_iload_n hx hb dX7_holds_0 rfl (lv_at hl 0 rfl) ?_
  refine lv_iload_n hx hb dX7_holds_1 rfl (lv_at hl 1 rfl) ?_
  refine qw_callS (As := [.int p0, .int p1]) (rest := []) (ws' := []) (st1 := [.int (f_X7_room p0 p1)]) ⟨hx, hb, hml, hown, hts⟩ (c_X7_room l D cI tT p0 p1 (f_X7_room p0 p1) rfl) (va_cwS 2 hts gX7_holds_X7_room rfl rfl rfl (by decide +kernel) ⟨Nat.le_of_ble_eq_true rfl, Nat.le_of_ble_eq_true rfl⟩) hXg hK hP hD hS hA hXs [] rfl rfl  rfl rfl rfl hl.1 rfl (Nat.le_of_ble_eq_true rfl) rfl ⟨Nat.zero_le _, Nat.zero_le _⟩ dX7_holds_2 (fun H locs hP hD hS => ?_)
  refine lv_istore (lv' := [(4, .int (f_X7_room p0 p1)), (0, .int p0), (1, .int p1), (2, .long p2)]) hx hb dX7_holds_5 hl (by decide) rfl (fun ls hl => ?_)
  refine lv_iload_n hx hb dX7_holds_7 rfl (lv_at hl 1 rfl) ?_
  refine lv_bipush (v := (6 : Int32)) hx hb dX7_holds_8 (by decide) ?_
  refine lv_icmp_eq (tgt := 18) hx hb dX7_holds_10 (by decide) (fun c1 => ?_) (fun c1 => ?_)
  · rw [if_pos c1] at E
    refine lv_lload_n hx hb dX7_holds_18 rfl (lv_at hl 3 rfl) ?_
    refine lv_lconst (v := (0 : Int64)) hx hb dX7_holds_19 (by decide) ?_
    refine W.lcmp hx hb dX7_holds_20 ?_
    have J5 : ∀ (x4 : Int32) (hb_x4 : x4 = 0 ∨ x4 = 1) (hv_x4 : qv (0) (1) x4) (ls : Array Slot) (H : Heap) (locs : List Loc), f_X7_holds_J5 x4 = r_o → lv_has ls 5 [(4, .int (f_X7_room p0 p1)), (0, .int p0), (1, .int p1), (2, .long p2)] → va_P D vwCl [] H → va_D A [] → va_S A s.heap H locs → W p l e (qr 1 21) s m args below meth c H locs 0 0 Z (F0 m 41 ls [.int x4]) := by
      intro x4 hb_x4 hv_x4 ls H locs E hl hP hD hS
      rw [f_X7_holds_J5] at E
      cases E
      rw [hZ]
      exact qw_zret hx hb hr hlk hb_x4 hP hD hS dX7_holds_41
    refine lv_if_lt (tgt := 40) hx hb dX7_holds_21 (by decide) (fun c2 => ?_) (fun c2 => ?_)
    · rw [if_pos c2] at E
      refine lv_iconst (v := (0 : Int32)) hx hb dX7_holds_40 (by decide) ?_
      exact J5 (0 : Int32) (Or.inl rfl) (qv_w (⟨by decide, by decide⟩ : qv (0) (0) (0 : Int32)) (by decide) (by decide)) ls _ _ E (lv_sub hl [0, 1, 2, 3] rfl) hP hD hS
    · rw [if_neg c2] at E
      refine lv_lload_n hx hb dX7_holds_24 rfl (lv_at hl 3 rfl) ?_
      refine lv_lconst (v := (1 : Int64)) hx hb dX7_holds_25 (by decide) ?_
      refine lv_bipush (v := (8 : Int32)) hx hb dX7_holds_26 (by decide) ?_
      refine lv_iload hx hb dX7_holds_28 (lv_at hl 0 rfl) ?_
      refine lv_imul hx hb dX7_holds_30 ?_
      refine lv_lshl (v := ((1 : Int64) <<< ((((8 : Int32) * (f_X7_room p0 p1))).toInt64 &&& 63))) hx hb dX7_holds_31 rfl ?_
      refine W.lcmp hx hb dX7_holds_32 ?_
      refine lv_if_ge (tgt := 40) hx hb dX7_holds_33 (by decide) (fun c3 => ?_) (fun c3 => ?_)
      · rw [if_pos c3] at E
        refine lv_iconst (v := (0 : Int32)) hx hb dX7_holds_40 (by decide) ?_
        exact J5 (0 : Int32) (Or.inl rfl) (qv_w (⟨by decide, by decide⟩ : qv (0) (0) (0 : Int32)) (by decide) (by decide)) ls _ _ E (lv_sub hl [0, 1, 2, 3] rfl) hP hD hS
      · rw [if_neg c3] at E
        refine lv_iconst (v := (1 : Int32)) hx hb dX7_holds_36 (by decide) ?_
        refine lv_goto (tgt := 41) hx hb dX7_holds_37 (by decide) ?_
        exact J5 (1 : Int32) (Or.inr rfl) (qv_w (⟨by decide, by decide⟩ : qv (1) (1) (1 : Int32)) (by decide) (by decide)) ls _ _ E (lv_sub hl [0, 1, 2, 3] rfl) hP hD hS
  · rw [if_neg c1] at E
    refine lv_iload_n hx hb dX7_holds_13 rfl (lv_at hl 1 rfl) ?_
    refine lv_iconst (v := (5 : Int32)) hx hb dX7_holds_14 (by decide) ?_
    refine lv_icmp_ne (tgt := 42) hx hb dX7_holds_15 (by decide) (fun c6 => ?_) (fun c6 => ?_)
    · rw [if_neg c6] at E
      refine lv_iload hx hb dX7_holds_42 (lv_at hl 0 rfl) ?_
      refine lv_bipush (v := (8 : Int32)) hx hb dX7_holds_44 (by decide) ?_
      have J15 : ∀ (x14 : Int32) (hb_x14 : x14 = 0 ∨ x14 = 1) (hv_x14 : qv (0) (1) x14) (ls : Array Slot) (H : Heap) (locs : List Loc), f_X7_holds_J15 x14 = r_o → lv_has ls 5 [(4, .int (f_X7_room p0 p1)), (0, .int p0), (1, .int p1), (2, .long p2)] → va_P D vwCl [] H → va_D A [] → va_S A s.heap H locs → W p l e (qr 1 21) s m args below meth c H locs 0 0 Z (F0 m 84 ls [.int x14]) := by
        intro x14 hb_x14 hv_x14 ls H locs E hl hP hD hS
        rw [f_X7_holds_J15] at E
        cases E
        rw [hZ]
        exact qw_zret hx hb hr hlk hb_x14 hP hD hS dX7_holds_84
      refine lv_icmp_eq (tgt := 79) hx hb dX7_holds_46 (by decide) (fun c11 => ?_) (fun c11 => ?_)
      · rw [if_pos c11] at E
        refine lv_iconst (v := (1 : Int32)) hx hb dX7_holds_79 (by decide) ?_
        refine lv_goto (tgt := 84) hx hb dX7_holds_80 (by decide) ?_
        exact J15 (1 : Int32) (Or.inr rfl) (qv_w (⟨by decide, by decide⟩ : qv (1) (1) (1 : Int32)) (by decide) (by decide)) ls _ _ E (lv_sub hl [0, 1, 2, 3] rfl) hP hD hS
      · rw [if_neg c11] at E
        refine lv_lload_n hx hb dX7_holds_49 rfl (lv_at hl 3 rfl) ?_
        refine lv_ldc2 hx hb hown lk68 dX7_holds_50 ?_
        refine lv_bipush (v := (8 : Int32)) hx hb dX7_holds_53 (by decide) ?_
        refine lv_iload hx hb dX7_holds_55 (lv_at hl 0 rfl) ?_
        refine lv_imul hx hb dX7_holds_57 ?_
        refine lv_iconst (v := (1 : Int32)) hx hb dX7_holds_58 (by decide) ?_
        refine lv_isub hx hb dX7_holds_59 ?_
        refine lv_lshl (v := ((-1 : Int64) <<< (((((8 : Int32) * (f_X7_room p0 p1)) - (1 : Int32))).toInt64 &&& 63))) hx hb dX7_holds_60 rfl ?_
        refine W.lcmp hx hb dX7_holds_61 ?_
        refine lv_if_lt (tgt := 83) hx hb dX7_holds_62 (by decide) (fun c12 => ?_) (fun c12 => ?_)
        · rw [if_pos c12] at E
          refine lv_iconst (v := (0 : Int32)) hx hb dX7_holds_83 (by decide) ?_
          exact J15 (0 : Int32) (Or.inl rfl) (qv_w (⟨by decide, by decide⟩ : qv (0) (0) (0 : Int32)) (by decide) (by decide)) ls _ _ E (lv_sub hl [0, 1, 2, 3] rfl) hP hD hS
        · rw [if_neg c12] at E
          refine lv_lload_n hx hb dX7_holds_65 rfl (lv_at hl 3 rfl) ?_
          refine lv_lconst (v := (1 : Int64)) hx hb dX7_holds_66 (by decide) ?_
          refine lv_bipush (v := (8 : Int32)) hx hb dX7_holds_67 (by decide) ?_
          refine lv_iload hx hb dX7_holds_69 (lv_at hl 0 rfl) ?_
          refine lv_imul hx hb dX7_holds_71 ?_
          refine lv_iconst (v := (1 : Int32)) hx hb dX7_holds_72 (by decide) ?_
          refine lv_isub hx hb dX7_holds_73 ?_
          refine lv_lshl (v := ((1 : Int64) <<< (((((8 : Int32) * (f_X7_room p0 p1)) - (1 : Int32))).toInt64 &&& 63))) hx hb dX7_holds_74 rfl ?_
          refine W.lcmp hx hb dX7_holds_75 ?_
          refine lv_if_ge (tgt := 83) hx hb dX7_holds_76 (by decide) (fun c13 => ?_) (fun c13 => ?_)
          · rw [if_pos c13] at E
            refine lv_iconst (v := (0 : Int32)) hx hb dX7_holds_83 (by decide) ?_
            exact J15 (0 : Int32) (Or.inl rfl) (qv_w (⟨by decide, by decide⟩ : qv (0) (0) (0 : Int32)) (by decide) (by decide)) ls _ _ E (lv_sub hl [0, 1, 2, 3] rfl) hP hD hS
          · rw [if_neg c13] at E
            refine lv_iconst (v := (1 : Int32)) hx hb dX7_holds_79 (by decide) ?_
            refine lv_goto (tgt := 84) hx hb dX7_holds_80 (by decide) ?_
            exact J15 (1 : Int32) (Or.inr rfl) (qv_w (⟨by decide, by decide⟩ : qv (1) (1) (1 : Int32)) (by decide) (by decide)) ls _ _ E (lv_sub hl [0, 1, 2, 3] rfl) hP hD hS
    · rw [if_pos c6] at E
      refine lv_lload_n hx hb dX7_holds_18 rfl (lv_at hl 3 rfl) ?_
      refine lv_lconst (v := (0 : Int64)) hx hb dX7_holds_19 (by decide) ?_
      refine W.lcmp hx hb dX7_holds_20 ?_
      have J10 : ∀ (x9 : Int32) (hb_x9 : x9 = 0 ∨ x9 = 1) (hv_x9 : qv (0) (1) x9) (ls : Array Slot) (H : Heap) (locs : List Loc), f_X7_holds_J10 x9 = r_o → lv_has ls 5 [(4, .int (f_X7_room p0 p1)), (0, .int p0), (1, .int p1), (2, .long p2)] → va_P D vwCl [] H → va_D A [] → va_S A s.heap H locs → W p l e (qr 1 21) s m args below meth c H locs 0 0 Z (F0 m 41 ls [.int x9]) := by
        intro x9 hb_x9 hv_x9 ls H locs E hl hP hD hS
        rw [f_X7_holds_J10] at E
        cases E
        rw [hZ]
        exact qw_zret hx hb hr hlk hb_x9 hP hD hS dX7_holds_41
      refine lv_if_lt (tgt := 40) hx hb dX7_holds_21 (by decide) (fun c7 => ?_) (fun c7 => ?_)
      · rw [if_pos c7] at E
        refine lv_iconst (v := (0 : Int32)) hx hb dX7_holds_40 (by decide) ?_
        exact J10 (0 : Int32) (Or.inl rfl) (qv_w (⟨by decide, by decide⟩ : qv (0) (0) (0 : Int32)) (by decide) (by decide)) ls _ _ E (lv_sub hl [0, 1, 2, 3] rfl) hP hD hS
      · rw [if_neg c7] at E
        refine lv_lload_n hx hb dX7_holds_24 rfl (lv_at hl 3 rfl) ?_
        refine lv_lconst (v := (1 : Int64)) hx hb dX7_holds_25 (by decide) ?_
        refine lv_bipush (v := (8 : Int32)) hx hb dX7_holds_26 (by decide) ?_
        refine lv_iload hx hb dX7_holds_28 (lv_at hl 0 rfl) ?_
        refine lv_imul hx hb dX7_holds_30 ?_
        refine lv_lshl (v := ((1 : Int64) <<< ((((8 : Int32) * (f_X7_room p0 p1))).toInt64 &&& 63))) hx hb dX7_holds_31 rfl ?_
        refine W.lcmp hx hb dX7_holds_32 ?_
        refine lv_if_ge (tgt := 40) hx hb dX7_holds_33 (by decide) (fun c8 => ?_) (fun c8 => ?_)
        · rw [if_pos c8] at E
          refine lv_iconst (v := (0 : Int32)) hx hb dX7_holds_40 (by decide) ?_
          exact J10 (0 : Int32) (Or.inl rfl) (qv_w (⟨by decide, by decide⟩ : qv (0) (0) (0 : Int32)) (by decide) (by decide)) ls _ _ E (lv_sub hl [0, 1, 2, 3] rfl) hP hD hS
        · rw [if_neg c8] at E
          refine lv_iconst (v := (1 : Int32)) hx hb dX7_holds_36 (by decide) ?_
          refine lv_goto (tgt := 41) hx hb dX7_holds_37 (by decide) ?_
          exact J10 (1 : Int32) (Or.inr rfl) (qv_w (⟨by decide, by decide⟩ : qv (1) (1) (1 : Int32)) (by decide) (by decide)) ls _ _ E (lv_sub hl [0, 1, 2, 3] rfl) hP hD hS
def f_X7_place_J16 (x15 : Int32) : Int32 := (x15)
def f_X7_place_J20 (x19 : Int32) : Int32 := (x19)
def f_X7_place_J24 (x23 : Int32) : Int32 := (x23)
def f_X7_place_J28 (x27 : Int32) : Int32 := (x27)
def f_X7_place_J31 (x30 : Int32) : Int32 := (x30)
def f_X7_place_J35 (x34 : Int32) : Int32 := (x34)
def f_X7_place_J39 (x38 : Int32) : Int32 := (x38)
def f_X7_place_J42 (x41 : Int32) : Int32 := (x41)
def f_X7_place_J46 (x45 : Int32) : Int32 := (x45)
def f_X7_place_J49 (x48 : Int32) : Int32 := (x48)
def f_X7_place_J53 (x52 : Int32) : Int32 := (x52)
def f_X7_place_J57 (x56 : Int32) : Int32 := (x56)
def f_X7_place (p0 : Int32) (p1 : Int32) : Int32 := (if p0 = (1 : Int32) then ((if p1 = 0 then (f_X7_place_J16 (2 : Int32)) else (if p1 = (1 : Int32) then (f_X7_place_J16 (1 : Int32)) else (f_X7_place_J16 (0 : Int32))))) else (if p0 = (2 : Int32) then ((if p1 = 0 then (f_X7_place_J20 (1 : Int32)) else (if p1 = (1 : Int32) then (f_X7_place_J20 (2 : Int32)) else (f_X7_place_J20 (0 : Int32))))) else (if p0 = (3 : Int32) then ((if p1 = 0 then (f_X7_place_J24 (4 : Int32)) else (if p1 = (1 : Int32) then (f_X7_place_J24 (3 : Int32)) else (f_X7_place_J24 (0 : Int32))))) else (if p0 = (4 : Int32) then ((if p1 = 0 then (f_X7_place_J28 (2 : Int32)) else (if p1 = (1 : Int32) then (f_X7_place_J28 (3 : Int32)) else (f_X7_place_J28 (0 : Int32))))) else (if p0 = (5 : Int32) then ((if p1 = 0 then (f_X7_place_J31 (5 : Int32)) else (f_X7_place_J31 (0 : Int32)))) else (if p0 = (6 : Int32) then ((if p1 = 0 then (f_X7_place_J35 (5 : Int32)) else (if p1 = (1 : Int32) then (f_X7_place_J35 (3 : Int32)) else (f_X7_place_J35 (0 : Int32))))) else (if p0 = (7 : Int32) then ((if p1 = 0 then (f_X7_place_J39 (1 : Int32)) else (if p1 = (1 : Int32) then (f_X7_place_J39 (6 : Int32)) else (f_X7_place_J39 (0 : Int32))))) else (if p0 = (8 : Int32) then ((if p1 = 0 then (f_X7_place_J42 (2 : Int32)) else (f_X7_place_J42 (0 : Int32)))) else (if p0 = (9 : Int32) then ((if p1 = 0 then (f_X7_place_J46 (1 : Int32)) else (if p1 = (1 : Int32) then (f_X7_place_J46 (2 : Int32)) else (f_X7_place_J46 (3 : Int32))))) else (if p0 = (10 : Int32) then ((if p1 = 0 then (f_X7_place_J49 (3 : Int32)) else (f_X7_place_J49 (0 : Int32)))) else (if p0 = (11 : Int32) then ((if p1 = 0 then (f_X7_place_J53 (2 : Int32)) else (if p1 = (1 : Int32) then (f_X7_place_J53 (7 : Int32)) else (f_X7_place_J53 (0 : Int32))))) else (if p0 = (12 : Int32) then ((if p1 = 0 then (f_X7_place_J57 (2 : Int32)) else (if p1 = (1 : Int32) then (f_X7_place_J57 (8 : Int32)) else (f_X7_place_J57 (0 : Int32))))) else ((0 : Int32))))))))))))))
set_option maxHeartbeats 4000000 in
set_option maxRecDepth 100000 in
theorem c_X7_place (l : Launch) (D : va_G) (cI : ClassId) (tT : Nat) (p0 : Int32) (p1 : Int32) (r_o : Int32) (hq : f_X7_place p0 p1 = r_o) : qM l yX7_place wsX7_place (qr 0 0) (qX tT) D vwCl [(cI, .int)] [] [.int p0, .int p1] (some (.int r_o)) [] := by
  refine qM_of (cc := cX7_place) (maxL := 2) (ret := (some .int)) (by decide) rfl (Nat.le_of_ble_eq_true rfl) ?_
  intro p e s m args below meth c A ls Z hx hb hml hr hts hown hlk hK hA hXs hP hD hS hl hZ
  have hown : s.vm.findClass RX7 = some m.cls := hown
  have hl : lv_has ls 2 [(0, .int p0), (1, .int p1)] := hl
  have E := hq
  rw [f_X7_place] at E
  refine lv_iload_n hx hb dX7_place_0 rfl (lv_at hl 0 rfl) ?_
  by_cases c1 : p0 = (1 : Int32)
  · rw [if_pos c1] at E
    refine lv_tableIn (off := (63 : Int)) (tgt := 64) hx hb dX7_place_1 (by rw [c1]; decide) (by rw [c1]; decide) (by rw [c1]; rfl) (by decide) ?_
    refine lv_iload_n hx hb dX7_place_64 rfl (lv_at hl 1 rfl) ?_
    have J16 : ∀ (x15 : Int32) (hv_x15 : qv (0) (2) x15) (ls : Array Slot) (H : Heap) (locs : List Loc), f_X7_place_J16 x15 = r_o → lv_has ls 2 [(0, .int p0), (1, .int p1)] → va_P D vwCl [] H → va_D A [] → va_S A s.heap H locs → W p l e (qr 0 0) s m args below meth c H locs 0 0 Z (F0 m 82 ls [.int x15]) := by
      intro x15 hv_x15 ls H locs E hl hP hD hS
      rw [f_X7_place_J16] at E
      cases E
      rw [hZ]
      exact qw_iret hx hb hr hlk hP hD hS dX7_place_82
    refine lv_if_ne (tgt := 72) hx hb dX7_place_65 (by decide) (fun c13 => ?_) (fun c13 => ?_)
    · rw [if_neg c13] at E
      refine lv_iload_n hx hb dX7_place_72 rfl (lv_at hl 1 rfl) ?_
      refine lv_iconst (v := (1 : Int32)) hx hb dX7_place_73 (by decide) ?_
      refine lv_icmp_ne (tgt := 81) hx hb dX7_place_74 (by decide) (fun c14 => ?_) (fun c14 => ?_)
      · rw [if_neg c14] at E
        refine lv_iconst (v := (0 : Int32)) hx hb dX7_place_81 (by decide) ?_
        exact J16 (0 : Int32) (qv_w (⟨by decide, by decide⟩ : qv (0) (0) (0 : Int32)) (by decide) (by decide)) ls _ _ E (lv_sub hl [0, 1] rfl) hP hD hS
      · rw [if_pos c14] at E
        refine lv_iconst (v := (1 : Int32)) hx hb dX7_place_77 (by decide) ?_
        refine lv_goto (tgt := 82) hx hb dX7_place_78 (by decide) ?_
        exact J16 (1 : Int32) (qv_w (⟨by decide, by decide⟩ : qv (1) (1) (1 : Int32)) (by decide) (by decide)) ls _ _ E (lv_sub hl [0, 1] rfl) hP hD hS
    · rw [if_pos c13] at E
      refine lv_iconst (v := (2 : Int32)) hx hb dX7_place_68 (by decide) ?_
      refine lv_goto (tgt := 82) hx hb dX7_place_69 (by decide) ?_
      exact J16 (2 : Int32) (qv_w (⟨by decide, by decide⟩ : qv (2) (2) (2 : Int32)) (by decide) (by decide)) ls _ _ E (lv_sub hl [0, 1] rfl) hP hD hS
  · rw [if_neg c1] at E
    by_cases c2 : p0 = (2 : Int32)
    · rw [if_pos c2] at E
      refine lv_tableIn (off := (82 : Int)) (tgt := 83) hx hb dX7_place_1 (by rw [c2]; decide) (by rw [c2]; decide) (by rw [c2]; rfl) (by decide) ?_
      refine lv_iload_n hx hb dX7_place_83 rfl (lv_at hl 1 rfl) ?_
      have J20 : ∀ (x19 : Int32) (hv_x19 : qv (0) (2) x19) (ls : Array Slot) (H : Heap) (locs : List Loc), f_X7_place_J20 x19 = r_o → lv_has ls 2 [(0, .int p0), (1, .int p1)] → va_P D vwCl [] H → va_D A [] → va_S A s.heap H locs → W p l e (qr 0 0) s m args below meth c H locs 0 0 Z (F0 m 101 ls [.int x19]) := by
        intro x19 hv_x19 ls H locs E hl hP hD hS
        rw [f_X7_place_J20] at E
        cases E
        rw [hZ]
        exact qw_iret hx hb hr hlk hP hD hS dX7_place_101
      refine lv_if_ne (tgt := 91) hx hb dX7_place_84 (by decide) (fun c17 => ?_) (fun c17 => ?_)
      · rw [if_neg c17] at E
        refine lv_iload_n hx hb dX7_place_91 rfl (lv_at hl 1 rfl) ?_
        refine lv_iconst (v := (1 : Int32)) hx hb dX7_place_92 (by decide) ?_
        refine lv_icmp_ne (tgt := 100) hx hb dX7_place_93 (by decide) (fun c18 => ?_) (fun c18 => ?_)
        · rw [if_neg c18] at E
          refine lv_iconst (v := (0 : Int32)) hx hb dX7_place_100 (by decide) ?_
          exact J20 (0 : Int32) (qv_w (⟨by decide, by decide⟩ : qv (0) (0) (0 : Int32)) (by decide) (by decide)) ls _ _ E (lv_sub hl [0, 1] rfl) hP hD hS
        · rw [if_pos c18] at E
          refine lv_iconst (v := (2 : Int32)) hx hb dX7_place_96 (by decide) ?_
          refine lv_goto (tgt := 101) hx hb dX7_place_97 (by decide) ?_
          exact J20 (2 : Int32) (qv_w (⟨by decide, by decide⟩ : qv (2) (2) (2 : Int32)) (by decide) (by decide)) ls _ _ E (lv_sub hl [0, 1] rfl) hP hD hS
      · rw [if_pos c17] at E
        refine lv_iconst (v := (1 : Int32)) hx hb dX7_place_87 (by decide) ?_
        refine lv_goto (tgt := 101) hx hb dX7_place_88 (by decide) ?_
        exact J20 (1 : Int32) (qv_w (⟨by decide, by decide⟩ : qv (1) (1) (1 : Int32)) (by decide) (by decide)) ls _ _ E (lv_sub hl [0, 1] rfl) hP hD hS
    · rw [if_neg c2] at E
      by_cases c3 : p0 = (3 : Int32)
      · rw [if_pos c3] at E
        refine lv_tableIn (off := (101 : Int)) (tgt := 102) hx hb dX7_place_1 (by rw [c3]; decide) (by rw [c3]; decide) (by rw [c3]; rfl) (by decide) ?_
        refine lv_iload_n hx hb dX7_place_102 rfl (lv_at hl 1 rfl) ?_
        have J24 : ∀ (x23 : Int32) (hv_x23 : qv (0) (4) x23) (ls : Array Slot) (H : Heap) (locs : List Loc), f_X7_place_J24 x23 = r_o → lv_has ls 2 [(0, .int p0), (1, .int p1)] → va_P D vwCl [] H → va_D A [] → va_S A s.heap H locs → W p l e (qr 0 0) s m args below meth c H locs 0 0 Z (F0 m 120 ls [.int x23]) := by
          intro x23 hv_x23 ls H locs E hl hP hD hS
          rw [f_X7_place_J24] at E
          cases E
          rw [hZ]
          exact qw_iret hx hb hr hlk hP hD hS dX7_place_120
        refine lv_if_ne (tgt := 110) hx hb dX7_place_103 (by decide) (fun c21 => ?_) (fun c21 => ?_)
        · rw [if_neg c21] at E
          refine lv_iload_n hx hb dX7_place_110 rfl (lv_at hl 1 rfl) ?_
          refine lv_iconst (v := (1 : Int32)) hx hb dX7_place_111 (by decide) ?_
          refine lv_icmp_ne (tgt := 119) hx hb dX7_place_112 (by decide) (fun c22 => ?_) (fun c22 => ?_)
          · rw [if_neg c22] at E
            refine lv_iconst (v := (0 : Int32)) hx hb dX7_place_119 (by decide) ?_
            exact J24 (0 : Int32) (qv_w (⟨by decide, by decide⟩ : qv (0) (0) (0 : Int32)) (by decide) (by decide)) ls _ _ E (lv_sub hl [0, 1] rfl) hP hD hS
          · rw [if_pos c22] at E
            refine lv_iconst (v := (3 : Int32)) hx hb dX7_place_115 (by decide) ?_
            refine lv_goto (tgt := 120) hx hb dX7_place_116 (by decide) ?_
            exact J24 (3 : Int32) (qv_w (⟨by decide, by decide⟩ : qv (3) (3) (3 : Int32)) (by decide) (by decide)) ls _ _ E (lv_sub hl [0, 1] rfl) hP hD hS
        · rw [if_pos c21] at E
          refine lv_iconst (v := (4 : Int32)) hx hb dX7_place_106 (by decide) ?_
          refine lv_goto (tgt := 120) hx hb dX7_place_107 (by decide) ?_
          exact J24 (4 : Int32) (qv_w (⟨by decide, by decide⟩ : qv (4) (4) (4 : Int32)) (by decide) (by decide)) ls _ _ E (lv_sub hl [0, 1] rfl) hP hD hS
      · rw [if_neg c3] at E
        by_cases c4 : p0 = (4 : Int32)
        · rw [if_pos c4] at E
          refine lv_tableIn (off := (120 : Int)) (tgt := 121) hx hb dX7_place_1 (by rw [c4]; decide) (by rw [c4]; decide) (by rw [c4]; rfl) (by decide) ?_
          refine lv_iload_n hx hb dX7_place_121 rfl (lv_at hl 1 rfl) ?_
          have J28 : ∀ (x27 : Int32) (hv_x27 : qv (0) (3) x27) (ls : Array Slot) (H : Heap) (locs : List Loc), f_X7_place_J28 x27 = r_o → lv_has ls 2 [(0, .int p0), (1, .int p1)] → va_P D vwCl [] H → va_D A [] → va_S A s.heap H locs → W p l e (qr 0 0) s m args below meth c H locs 0 0 Z (F0 m 139 ls [.int x27]) := by
            intro x27 hv_x27 ls H locs E hl hP hD hS
            rw [f_X7_place_J28] at E
            cases E
            rw [hZ]
            exact qw_iret hx hb hr hlk hP hD hS dX7_place_139
          refine lv_if_ne (tgt := 129) hx hb dX7_place_122 (by decide) (fun c25 => ?_) (fun c25 => ?_)
          · rw [if_neg c25] at E
            refine lv_iload_n hx hb dX7_place_129 rfl (lv_at hl 1 rfl) ?_
            refine lv_iconst (v := (1 : Int32)) hx hb dX7_place_130 (by decide) ?_
            refine lv_icmp_ne (tgt := 138) hx hb dX7_place_131 (by decide) (fun c26 => ?_) (fun c26 => ?_)
            · rw [if_neg c26] at E
              refine lv_iconst (v := (0 : Int32)) hx hb dX7_place_138 (by decide) ?_
              exact J28 (0 : Int32) (qv_w (⟨by decide, by decide⟩ : qv (0) (0) (0 : Int32)) (by decide) (by decide)) ls _ _ E (lv_sub hl [0, 1] rfl) hP hD hS
            · rw [if_pos c26] at E
              refine lv_iconst (v := (3 : Int32)) hx hb dX7_place_134 (by decide) ?_
              refine lv_goto (tgt := 139) hx hb dX7_place_135 (by decide) ?_
              exact J28 (3 : Int32) (qv_w (⟨by decide, by decide⟩ : qv (3) (3) (3 : Int32)) (by decide) (by decide)) ls _ _ E (lv_sub hl [0, 1] rfl) hP hD hS
          · rw [if_pos c25] at E
            refine lv_iconst (v := (2 : Int32)) hx hb dX7_place_125 (by decide) ?_
            refine lv_goto (tgt := 139) hx hb dX7_place_126 (by decide) ?_
            exact J28 (2 : Int32) (qv_w (⟨by decide, by decide⟩ : qv (2) (2) (2 : Int32)) (by decide) (by decide)) ls _ _ E (lv_sub hl [0, 1] rfl) hP hD hS
        · rw [if_neg c4] at E
          by_cases c5 : p0 = (5 : Int32)
          · rw [if_pos c5] at E
            refine lv_tableIn (off := (139 : Int)) (tgt := 140) hx hb dX7_place_1 (by rw [c5]; decide) (by rw [c5]; decide) (by rw [c5]; rfl) (by decide) ?_
            refine lv_iload_n hx hb dX7_place_140 rfl (lv_at hl 1 rfl) ?_
            have J31 : ∀ (x30 : Int32) (hv_x30 : qv (0) (5) x30) (ls : Array Slot) (H : Heap) (locs : List Loc), f_X7_place_J31 x30 = r_o → lv_has ls 2 [(0, .int p0), (1, .int p1)] → va_P D vwCl [] H → va_D A [] → va_S A s.heap H locs → W p l e (qr 0 0) s m args below meth c H locs 0 0 Z (F0 m 149 ls [.int x30]) := by
              intro x30 hv_x30 ls H locs E hl hP hD hS
              rw [f_X7_place_J31] at E
              cases E
              rw [hZ]
              exact qw_iret hx hb hr hlk hP hD hS dX7_place_149
            refine lv_if_ne (tgt := 148) hx hb dX7_place_141 (by decide) (fun c29 => ?_) (fun c29 => ?_)
            · rw [if_neg c29] at E
              refine lv_iconst (v := (0 : Int32)) hx hb dX7_place_148 (by decide) ?_
              exact J31 (0 : Int32) (qv_w (⟨by decide, by decide⟩ : qv (0) (0) (0 : Int32)) (by decide) (by decide)) ls _ _ E (lv_sub hl [0, 1] rfl) hP hD hS
            · rw [if_pos c29] at E
              refine lv_iconst (v := (5 : Int32)) hx hb dX7_place_144 (by decide) ?_
              refine lv_goto (tgt := 149) hx hb dX7_place_145 (by decide) ?_
              exact J31 (5 : Int32) (qv_w (⟨by decide, by decide⟩ : qv (5) (5) (5 : Int32)) (by decide) (by decide)) ls _ _ E (lv_sub hl [0, 1] rfl) hP hD hS
          · rw [if_neg c5] at E
            by_cases c6 : p0 = (6 : Int32)
            · rw [if_pos c6] at E
              refine lv_tableIn (off := (149 : Int)) (tgt := 150) hx hb dX7_place_1 (by rw [c6]; decide) (by rw [c6]; decide) (by rw [c6]; rfl) (by decide) ?_
              refine lv_iload_n hx hb dX7_place_150 rfl (lv_at hl 1 rfl) ?_
              have J35 : ∀ (x34 : Int32) (hv_x34 : qv (0) (5) x34) (ls : Array Slot) (H : Heap) (locs : List Loc), f_X7_place_J35 x34 = r_o → lv_has ls 2 [(0, .int p0), (1, .int p1)] → va_P D vwCl [] H → va_D A [] → va_S A s.heap H locs → W p l e (qr 0 0) s m args below meth c H locs 0 0 Z (F0 m 168 ls [.int x34]) := by
                intro x34 hv_x34 ls H locs E hl hP hD hS
                rw [f_X7_place_J35] at E
                cases E
                rw [hZ]
                exact qw_iret hx hb hr hlk hP hD hS dX7_place_168
              refine lv_if_ne (tgt := 158) hx hb dX7_place_151 (by decide) (fun c32 => ?_) (fun c32 => ?_)
              · rw [if_neg c32] at E
                refine lv_iload_n hx hb dX7_place_158 rfl (lv_at hl 1 rfl) ?_
                refine lv_iconst (v := (1 : Int32)) hx hb dX7_place_159 (by decide) ?_
                refine lv_icmp_ne (tgt := 167) hx hb dX7_place_160 (by decide) (fun c33 => ?_) (fun c33 => ?_)
                · rw [if_neg c33] at E
                  refine lv_iconst (v := (0 : Int32)) hx hb dX7_place_167 (by decide) ?_
                  exact J35 (0 : Int32) (qv_w (⟨by decide, by decide⟩ : qv (0) (0) (0 : Int32)) (by decide) (by decide)) ls _ _ E (lv_sub hl [0, 1] rfl) hP hD hS
                · rw [if_pos c33] at E
                  refine lv_iconst (v := (3 : Int32)) hx hb dX7_place_163 (by decide) ?_
                  refine lv_goto (tgt := 168) hx hb dX7_place_164 (by decide) ?_
                  exact J35 (3 : Int32) (qv_w (⟨by decide, by decide⟩ : qv (3) (3) (3 : Int32)) (by decide) (by decide)) ls _ _ E (lv_sub hl [0, 1] rfl) hP hD hS
              · rw [if_pos c32] at E
                refine lv_iconst (v := (5 : Int32)) hx hb dX7_place_154 (by decide) ?_
                refine lv_goto (tgt := 168) hx hb dX7_place_155 (by decide) ?_
                exact J35 (5 : Int32) (qv_w (⟨by decide, by decide⟩ : qv (5) (5) (5 : Int32)) (by decide) (by decide)) ls _ _ E (lv_sub hl [0, 1] rfl) hP hD hS
            · rw [if_neg c6] at E
              by_cases c7 : p0 = (7 : Int32)
              · rw [if_pos c7] at E
                refine lv_tableIn (off := (168 : Int)) (tgt := 169) hx hb dX7_place_1 (by rw [c7]; decide) (by rw [c7]; decide) (by rw [c7]; rfl) (by decide) ?_
                refine lv_iload_n hx hb dX7_place_169 rfl (lv_at hl 1 rfl) ?_
                have J39 : ∀ (x38 : Int32) (hv_x38 : qv (0) (6) x38) (ls : Array Slot) (H : Heap) (locs : List Loc), f_X7_place_J39 x38 = r_o → lv_has ls 2 [(0, .int p0), (1, .int p1)] → va_P D vwCl [] H → va_D A [] → va_S A s.heap H locs → W p l e (qr 0 0) s m args below meth c H locs 0 0 Z (F0 m 188 ls [.int x38]) := by
                  intro x38 hv_x38 ls H locs E hl hP hD hS
                  rw [f_X7_place_J39] at E
                  cases E
                  rw [hZ]
                  exact qw_iret hx hb hr hlk hP hD hS dX7_place_188
                refine lv_if_ne (tgt := 177) hx hb dX7_place_170 (by decide) (fun c36 => ?_) (fun c36 => ?_)
                · rw [if_neg c36] at E
                  refine lv_iload_n hx hb dX7_place_177 rfl (lv_at hl 1 rfl) ?_
                  refine lv_iconst (v := (1 : Int32)) hx hb dX7_place_178 (by decide) ?_
                  refine lv_icmp_ne (tgt := 187) hx hb dX7_place_179 (by decide) (fun c37 => ?_) (fun c37 => ?_)
                  · rw [if_neg c37] at E
                    refine lv_iconst (v := (0 : Int32)) hx hb dX7_place_187 (by decide) ?_
                    exact J39 (0 : Int32) (qv_w (⟨by decide, by decide⟩ : qv (0) (0) (0 : Int32)) (by decide) (by decide)) ls _ _ E (lv_sub hl [0, 1] rfl) hP hD hS
                  · rw [if_pos c37] at E
                    refine lv_bipush (v := (6 : Int32)) hx hb dX7_place_182 (by decide) ?_
                    refine lv_goto (tgt := 188) hx hb dX7_place_184 (by decide) ?_
                    exact J39 (6 : Int32) (qv_w (⟨by decide, by decide⟩ : qv (6) (6) (6 : Int32)) (by decide) (by decide)) ls _ _ E (lv_sub hl [0, 1] rfl) hP hD hS
                · rw [if_pos c36] at E
                  refine lv_iconst (v := (1 : Int32)) hx hb dX7_place_173 (by decide) ?_
                  refine lv_goto (tgt := 188) hx hb dX7_place_174 (by decide) ?_
                  exact J39 (1 : Int32) (qv_w (⟨by decide, by decide⟩ : qv (1) (1) (1 : Int32)) (by decide) (by decide)) ls _ _ E (lv_sub hl [0, 1] rfl) hP hD hS
              · rw [if_neg c7] at E
                by_cases c8 : p0 = (8 : Int32)
                · rw [if_pos c8] at E
                  refine lv_tableIn (off := (188 : Int)) (tgt := 189) hx hb dX7_place_1 (by rw [c8]; decide) (by rw [c8]; decide) (by rw [c8]; rfl) (by decide) ?_
                  refine lv_iload_n hx hb dX7_place_189 rfl (lv_at hl 1 rfl) ?_
                  have J42 : ∀ (x41 : Int32) (hv_x41 : qv (0) (2) x41) (ls : Array Slot) (H : Heap) (locs : List Loc), f_X7_place_J42 x41 = r_o → lv_has ls 2 [(0, .int p0), (1, .int p1)] → va_P D vwCl [] H → va_D A [] → va_S A s.heap H locs → W p l e (qr 0 0) s m args below meth c H locs 0 0 Z (F0 m 198 ls [.int x41]) := by
                    intro x41 hv_x41 ls H locs E hl hP hD hS
                    rw [f_X7_place_J42] at E
                    cases E
                    rw [hZ]
                    exact qw_iret hx hb hr hlk hP hD hS dX7_place_198
                  refine lv_if_ne (tgt := 197) hx hb dX7_place_190 (by decide) (fun c40 => ?_) (fun c40 => ?_)
                  · rw [if_neg c40] at E
                    refine lv_iconst (v := (0 : Int32)) hx hb dX7_place_197 (by decide) ?_
                    exact J42 (0 : Int32) (qv_w (⟨by decide, by decide⟩ : qv (0) (0) (0 : Int32)) (by decide) (by decide)) ls _ _ E (lv_sub hl [0, 1] rfl) hP hD hS
                  · rw [if_pos c40] at E
                    refine lv_iconst (v := (2 : Int32)) hx hb dX7_place_193 (by decide) ?_
                    refine lv_goto (tgt := 198) hx hb dX7_place_194 (by decide) ?_
                    exact J42 (2 : Int32) (qv_w (⟨by decide, by decide⟩ : qv (2) (2) (2 : Int32)) (by decide) (by decide)) ls _ _ E (lv_sub hl [0, 1] rfl) hP hD hS
                · rw [if_neg c8] at E
                  by_cases c9 : p0 = (9 : Int32)
                  · rw [if_pos c9] at E
                    refine lv_tableIn (off := (198 : Int)) (tgt := 199) hx hb dX7_place_1 (by rw [c9]; decide) (by rw [c9]; decide) (by rw [c9]; rfl) (by decide) ?_
                    refine lv_iload_n hx hb dX7_place_199 rfl (lv_at hl 1 rfl) ?_
                    have J46 : ∀ (x45 : Int32) (hv_x45 : qv (1) (3) x45) (ls : Array Slot) (H : Heap) (locs : List Loc), f_X7_place_J46 x45 = r_o → lv_has ls 2 [(0, .int p0), (1, .int p1)] → va_P D vwCl [] H → va_D A [] → va_S A s.heap H locs → W p l e (qr 0 0) s m args below meth c H locs 0 0 Z (F0 m 217 ls [.int x45]) := by
                      intro x45 hv_x45 ls H locs E hl hP hD hS
                      rw [f_X7_place_J46] at E
                      cases E
                      rw [hZ]
                      exact qw_iret hx hb hr hlk hP hD hS dX7_place_217
                    refine lv_if_ne (tgt := 207) hx hb dX7_place_200 (by decide) (fun c43 => ?_) (fun c43 => ?_)
                    · rw [if_neg c43] at E
                      refine lv_iload_n hx hb dX7_place_207 rfl (lv_at hl 1 rfl) ?_
                      refine lv_iconst (v := (1 : Int32)) hx hb dX7_place_208 (by decide) ?_
                      refine lv_icmp_ne (tgt := 216) hx hb dX7_place_209 (by decide) (fun c44 => ?_) (fun c44 => ?_)
                      · rw [if_neg c44] at E
                        refine lv_iconst (v := (3 : Int32)) hx hb dX7_place_216 (by decide) ?_
                        exact J46 (3 : Int32) (qv_w (⟨by decide, by decide⟩ : qv (3) (3) (3 : Int32)) (by decide) (by decide)) ls _ _ E (lv_sub hl [0, 1] rfl) hP hD hS
                      · rw [if_pos c44] at E
                        refine lv_iconst (v := (2 : Int32)) hx hb dX7_place_212 (by decide) ?_
                        refine lv_goto (tgt := 217) hx hb dX7_place_213 (by decide) ?_
                        exact J46 (2 : Int32) (qv_w (⟨by decide, by decide⟩ : qv (2) (2) (2 : Int32)) (by decide) (by decide)) ls _ _ E (lv_sub hl [0, 1] rfl) hP hD hS
                    · rw [if_pos c43] at E
                      refine lv_iconst (v := (1 : Int32)) hx hb dX7_place_203 (by decide) ?_
                      refine lv_goto (tgt := 217) hx hb dX7_place_204 (by decide) ?_
                      exact J46 (1 : Int32) (qv_w (⟨by decide, by decide⟩ : qv (1) (1) (1 : Int32)) (by decide) (by decide)) ls _ _ E (lv_sub hl [0, 1] rfl) hP hD hS
                  · rw [if_neg c9] at E
                    by_cases c10 : p0 = (10 : Int32)
                    · rw [if_pos c10] at E
                      refine lv_tableIn (off := (217 : Int)) (tgt := 218) hx hb dX7_place_1 (by rw [c10]; decide) (by rw [c10]; decide) (by rw [c10]; rfl) (by decide) ?_
                      refine lv_iload_n hx hb dX7_place_218 rfl (lv_at hl 1 rfl) ?_
                      have J49 : ∀ (x48 : Int32) (hv_x48 : qv (0) (3) x48) (ls : Array Slot) (H : Heap) (locs : List Loc), f_X7_place_J49 x48 = r_o → lv_has ls 2 [(0, .int p0), (1, .int p1)] → va_P D vwCl [] H → va_D A [] → va_S A s.heap H locs → W p l e (qr 0 0) s m args below meth c H locs 0 0 Z (F0 m 227 ls [.int x48]) := by
                        intro x48 hv_x48 ls H locs E hl hP hD hS
                        rw [f_X7_place_J49] at E
                        cases E
                        rw [hZ]
                        exact qw_iret hx hb hr hlk hP hD hS dX7_place_227
                      refine lv_if_ne (tgt := 226) hx hb dX7_place_219 (by decide) (fun c47 => ?_) (fun c47 => ?_)
                      · rw [if_neg c47] at E
                        refine lv_iconst (v := (0 : Int32)) hx hb dX7_place_226 (by decide) ?_
                        exact J49 (0 : Int32) (qv_w (⟨by decide, by decide⟩ : qv (0) (0) (0 : Int32)) (by decide) (by decide)) ls _ _ E (lv_sub hl [0, 1] rfl) hP hD hS
                      · rw [if_pos c47] at E
                        refine lv_iconst (v := (3 : Int32)) hx hb dX7_place_222 (by decide) ?_
                        refine lv_goto (tgt := 227) hx hb dX7_place_223 (by decide) ?_
                        exact J49 (3 : Int32) (qv_w (⟨by decide, by decide⟩ : qv (3) (3) (3 : Int32)) (by decide) (by decide)) ls _ _ E (lv_sub hl [0, 1] rfl) hP hD hS
                    · rw [if_neg c10] at E
                      by_cases c11 : p0 = (11 : Int32)
                      · rw [if_pos c11] at E
                        refine lv_tableIn (off := (227 : Int)) (tgt := 228) hx hb dX7_place_1 (by rw [c11]; decide) (by rw [c11]; decide) (by rw [c11]; rfl) (by decide) ?_
                        refine lv_iload_n hx hb dX7_place_228 rfl (lv_at hl 1 rfl) ?_
                        have J53 : ∀ (x52 : Int32) (hv_x52 : qv (0) (7) x52) (ls : Array Slot) (H : Heap) (locs : List Loc), f_X7_place_J53 x52 = r_o → lv_has ls 2 [(0, .int p0), (1, .int p1)] → va_P D vwCl [] H → va_D A [] → va_S A s.heap H locs → W p l e (qr 0 0) s m args below meth c H locs 0 0 Z (F0 m 247 ls [.int x52]) := by
                          intro x52 hv_x52 ls H locs E hl hP hD hS
                          rw [f_X7_place_J53] at E
                          cases E
                          rw [hZ]
                          exact qw_iret hx hb hr hlk hP hD hS dX7_place_247
                        refine lv_if_ne (tgt := 236) hx hb dX7_place_229 (by decide) (fun c50 => ?_) (fun c50 => ?_)
                        · rw [if_neg c50] at E
                          refine lv_iload_n hx hb dX7_place_236 rfl (lv_at hl 1 rfl) ?_
                          refine lv_iconst (v := (1 : Int32)) hx hb dX7_place_237 (by decide) ?_
                          refine lv_icmp_ne (tgt := 246) hx hb dX7_place_238 (by decide) (fun c51 => ?_) (fun c51 => ?_)
                          · rw [if_neg c51] at E
                            refine lv_iconst (v := (0 : Int32)) hx hb dX7_place_246 (by decide) ?_
                            exact J53 (0 : Int32) (qv_w (⟨by decide, by decide⟩ : qv (0) (0) (0 : Int32)) (by decide) (by decide)) ls _ _ E (lv_sub hl [0, 1] rfl) hP hD hS
                          · rw [if_pos c51] at E
                            refine lv_bipush (v := (7 : Int32)) hx hb dX7_place_241 (by decide) ?_
                            refine lv_goto (tgt := 247) hx hb dX7_place_243 (by decide) ?_
                            exact J53 (7 : Int32) (qv_w (⟨by decide, by decide⟩ : qv (7) (7) (7 : Int32)) (by decide) (by decide)) ls _ _ E (lv_sub hl [0, 1] rfl) hP hD hS
                        · rw [if_pos c50] at E
                          refine lv_iconst (v := (2 : Int32)) hx hb dX7_place_232 (by decide) ?_
                          refine lv_goto (tgt := 247) hx hb dX7_place_233 (by decide) ?_
                          exact J53 (2 : Int32) (qv_w (⟨by decide, by decide⟩ : qv (2) (2) (2 : Int32)) (by decide) (by decide)) ls _ _ E (lv_sub hl [0, 1] rfl) hP hD hS
                      · rw [if_neg c11] at E
                        by_cases c12 : p0 = (12 : Int32)
                        · rw [if_pos c12] at E
                          refine lv_tableIn (off := (247 : Int)) (tgt := 248) hx hb dX7_place_1 (by rw [c12]; decide) (by rw [c12]; decide) (by rw [c12]; rfl) (by decide) ?_
                          refine lv_iload_n hx hb dX7_place_248 rfl (lv_at hl 1 rfl) ?_
                          have J57 : ∀ (x56 : Int32) (hv_x56 : qv (0) (8) x56) (ls : Array Slot) (H : Heap) (locs : List Loc), f_X7_place_J57 x56 = r_o → lv_has ls 2 [(0, .int p0), (1, .int p1)] → va_P D vwCl [] H → va_D A [] → va_S A s.heap H locs → W p l e (qr 0 0) s m args below meth c H locs 0 0 Z (F0 m 267 ls [.int x56]) := by
                            intro x56 hv_x56 ls H locs E hl hP hD hS
                            rw [f_X7_place_J57] at E
                            cases E
                            rw [hZ]
                            exact qw_iret hx hb hr hlk hP hD hS dX7_place_267
                          refine lv_if_ne (tgt := 256) hx hb dX7_place_249 (by decide) (fun c54 => ?_) (fun c54 => ?_)
                          · rw [if_neg c54] at E
                            refine lv_iload_n hx hb dX7_place_256 rfl (lv_at hl 1 rfl) ?_
                            refine lv_iconst (v := (1 : Int32)) hx hb dX7_place_257 (by decide) ?_
                            refine lv_icmp_ne (tgt := 266) hx hb dX7_place_258 (by decide) (fun c55 => ?_) (fun c55 => ?_)
                            · rw [if_neg c55] at E
                              refine lv_iconst (v := (0 : Int32)) hx hb dX7_place_266 (by decide) ?_
                              exact J57 (0 : Int32) (qv_w (⟨by decide, by decide⟩ : qv (0) (0) (0 : Int32)) (by decide) (by decide)) ls _ _ E (lv_sub hl [0, 1] rfl) hP hD hS
                            · rw [if_pos c55] at E
                              refine lv_bipush (v := (8 : Int32)) hx hb dX7_place_261 (by decide) ?_
                              refine lv_goto (tgt := 267) hx hb dX7_place_263 (by decide) ?_
                              exact J57 (8 : Int32) (qv_w (⟨by decide, by decide⟩ : qv (8) (8) (8 : Int32)) (by decide) (by decide)) ls _ _ E (lv_sub hl [0, 1] rfl) hP hD hS
                          · rw [if_pos c54] at E
                            refine lv_iconst (v := (2 : Int32)) hx hb dX7_place_252 (by decide) ?_
                            refine lv_goto (tgt := 267) hx hb dX7_place_253 (by decide) ?_
                            exact J57 (2 : Int32) (qv_w (⟨by decide, by decide⟩ : qv (2) (2) (2 : Int32)) (by decide) (by decide)) ls _ _ E (lv_sub hl [0, 1] rfl) hP hD hS
                        · rw [if_neg c12] at E
                          refine lv_tableOut (tgt := 268) hx hb dX7_place_1 (by have nc1 := lv_neT c1 (a := 1) rfl; have nc2 := lv_neT c2 (a := 2) rfl; have nc3 := lv_neT c3 (a := 3) rfl; have nc4 := lv_neT c4 (a := 4) rfl; have nc5 := lv_neT c5 (a := 5) rfl; have nc6 := lv_neT c6 (a := 6) rfl; have nc7 := lv_neT c7 (a := 7) rfl; have nc8 := lv_neT c8 (a := 8) rfl; have nc9 := lv_neT c9 (a := 9) rfl; have nc10 := lv_neT c10 (a := 10) rfl; have nc11 := lv_neT c11 (a := 11) rfl; have nc12 := lv_neT c12 (a := 12) rfl; omega) (by decide) ?_
                          refine lv_iconst (v := (0 : Int32)) hx hb dX7_place_268 (by decide) ?_
                          cases E
                          rw [hZ]
                          exact qw_iret hx hb hr hlk hP hD hS dX7_place_269
def f_X7_thrown (o_thrown : Int32) : Int32 := (o_thrown)
set_option maxHeartbeats 4000000 in
set_option maxRecDepth 100000 in
theorem c_X7_thrown (l : Launch) (D : va_G) (cI : ClassId) (tT : Nat) (o : Nat) (o_ops : Nat) (o_sizes : Nat) (o_patterns : Nat) (o_leads : Nat) (o_codes : Nat) (o_tells : Nat) (o_numbers : Nat) (o_fields : Nat) (o_found : Nat) (o_bytes : Nat) (o_trial : Nat) (o_fed : Nat) (o_thrown : Int32) (o_number : Int64) (o_foundNumber : Int64) (o_length : Int32) (o_tried : Int32) (o_given : Int32) (o_at : Int32) (o_pfx : Int32) (o_pfd : Int32) (o_short0 : Int32) (r_o : Int32) (hq : f_X7_thrown o_thrown = r_o) : qM l yX7_thrown wsX7_thrown (qr 0 0) (qX tT) D vwCl [(cI, .int)] [(o, .inr (6, [.int o_thrown, .int (115 : Int32), .ref o_ops, .ref o_sizes, .ref o_patterns, .ref o_leads, .ref o_codes, .ref o_tells, .ref o_numbers, .ref o_fields, .ref o_found, .long o_number, .long o_foundNumber, .ref o_bytes, .ref o_trial, .ref o_fed, .int o_length, .int o_tried, .int o_given, .int o_at, .int o_pfx, .int o_pfd, .int o_short0]))] [.ref o] (some (.int r_o)) [(o, .inr (6, [.int o_thrown, .int (115 : Int32), .ref o_ops, .ref o_sizes, .ref o_patterns, .ref o_leads, .ref o_codes, .ref o_tells, .ref o_numbers, .ref o_fields, .ref o_found, .long o_number, .long o_foundNumber, .ref o_bytes, .ref o_trial, .ref o_fed, .int o_length, .int o_tried, .int o_given, .int o_at, .int o_pfx, .int o_pfd, .int o_short0]))] := by
  refine qM_of (cc := cX7_thrown) (maxL := 1) (ret := (some .int)) (by decide) rfl (Nat.le_of_ble_eq_true rfl) ?_
  intro p e s m args below meth c A ls Z hx hb hml hr hts hown hlk hK hA hXs hP hD hS hl hZ
  have hown : s.vm.findClass RX7 = some m.cls := hown
  have hl : lv_has ls 1 [(0, .ref o)] := hl
  have hi_X7 : ∀ w ∈ wsX70, w ∈ wsX7_thrown := by decide +kernel
  have lk57 := hts (.fieldLink RX7 57 "InstructionCoderModel" "thrown" "I") (by decide +kernel)
  have E := hq
  rw [f_X7_thrown] at E
  refine lv_aload_n hx hb dX7_thrown_0 rfl (lv_at hl 0 rfl) ?_
  refine va_get (D := D) (ci := 6) (v := .int o_thrown) (C := RX7) (T := TX7) (N := 23) hx hb hts hi_X7 hown hK hP 0 rfl rfl 0 (by decide) lk57 (fun _ h9 => h9) rfl dX7_thrown_1 ?_
  cases E
  rw [hZ]
  exact qw_iret hx hb hr hlk hP hD hS dX7_thrown_4
def f_X7_memory (o_fields_f : (Nat → Int32)) (p0 : Int32) (p1 : Int32) (p2 : Int32) (p3 : Int32) : Int32 × (Nat → Int32) := (((0 : Int32), (upd (upd (upd (upd o_fields_f ((9 : Int32)).toNatClampNeg p0) ((10 : Int32)).toNatClampNeg p1) ((11 : Int32)).toNatClampNeg p2) ((12 : Int32)).toNatClampNeg p3)))
set_option maxHeartbeats 4000000 in
set_option maxRecDepth 100000 in
theorem c_X7_memory (l : Launch) (D : va_G) (cI : ClassId) (tT : Nat) (o : Nat) (o_ops : Nat) (o_sizes : Nat) (o_patterns : Nat) (o_leads : Nat) (o_codes : Nat) (o_tells : Nat) (o_numbers : Nat) (o_fields : Nat) (o_found : Nat) (o_bytes : Nat) (o_trial : Nat) (o_fed : Nat) (o_thrown : Int32) (o_number : Int64) (o_foundNumber : Int64) (o_length : Int32) (o_tried : Int32) (o_given : Int32) (o_at : Int32) (o_pfx : Int32) (o_pfd : Int32) (o_short0 : Int32) (o_fields_f : (Nat → Int32)) (p0 : Int32) (p1 : Int32) (p2 : Int32) (p3 : Int32) (o_thrown_o : Int32) (o_fields_f_o : (Nat → Int32)) (hq : f_X7_memory o_fields_f p0 p1 p2 p3 = (o_thrown_o, o_fields_f_o)) : qM l yX7_memory wsX7_memory (qr 0 0) (qX tT) D vwCl [(cI, .int)] [(o, .inr (6, [.int o_thrown, .int (115 : Int32), .ref o_ops, .ref o_sizes, .ref o_patterns, .ref o_leads, .ref o_codes, .ref o_tells, .ref o_numbers, .ref o_fields, .ref o_found, .long o_number, .long o_foundNumber, .ref o_bytes, .ref o_trial, .ref o_fed, .int o_length, .int o_tried, .int o_given, .int o_at, .int o_pfx, .int o_pfd, .int o_short0])), (o_fields, .inl (cI, 13, .inl o_fields_f))] [.ref o, .int p0, .int p1, .int p2, .int p3] none [(o, .inr (6, [.int o_thrown_o, .int (115 : Int32), .ref o_ops, .ref o_sizes, .ref o_patterns, .ref o_leads, .ref o_codes, .ref o_tells, .ref o_numbers, .ref o_fields, .ref o_found, .long o_number, .long o_foundNumber, .ref o_bytes, .ref o_trial, .ref o_fed, .int o_length, .int o_tried, .int o_given, .int o_at, .int o_pfx, .int o_pfd, .int o_short0])), (o_fields, .inl (cI, 13, .inl o_fields_f_o))] := by
  refine qM_of (cc := cX7_memory) (maxL := 5) (ret := none) (by decide) rfl (Nat.le_of_ble_eq_true rfl) ?_
  intro p e s m args below meth c A ls Z hx hb hml hr hts hown hlk hK hA hXs hP hD hS hl hZ
  have hown : s.vm.findClass RX7 = some m.cls := hown
  have hl : lv_has ls 5 [(0, .ref o), (1, .int p0), (2, .int p1), (3, .int p2), (4, .int p3)] := hl
  have hi_X7 : ∀ w ∈ wsX70, w ∈ wsX7_memory := by decide +kernel
  have lk31 := hts (.fieldLink RX7 31 "InstructionCoderModel" "fields" "[I") (by decide +kernel)
  have lk57 := hts (.fieldLink RX7 57 "InstructionCoderModel" "thrown" "I") (by decide +kernel)
  have E := hq
  rw [f_X7_memory] at E
  refine lv_aload_n hx hb dX7_memory_0 rfl (lv_at hl 0 rfl) ?_
  refine lv_iconst (v := (0 : Int32)) hx hb dX7_memory_1 (by decide) ?_
  refine va_put (D := D) (ci := 6) (v := .int (0 : Int32)) (ty := .int) (C := RX7) (T := TX7) (N := 23) hx hb hts hi_X7 tyX7 tyX7_ok nmX7 hown hK hP hD hS 0 rfl rfl 0 (by decide) lk57 (fun _ h9 => h9) rfl (by decide +kernel) rfl rfl (Nat.le_of_ble_eq_true rfl) dX7_memory_2 (fun H locs hP hD hS => ?_)
  have hP : va_P D vwCl [(o, .inr (6, [.int (0 : Int32), .int (115 : Int32), .ref o_ops, .ref o_sizes, .ref o_patterns, .ref o_leads, .ref o_codes, .ref o_tells, .ref o_numbers, .ref o_fields, .ref o_found, .long o_number, .long o_foundNumber, .ref o_bytes, .ref o_trial, .ref o_fed, .int o_length, .int o_tried, .int o_given, .int o_at, .int o_pfx, .int o_pfd, .int o_short0])), (o_fields, .inl (cI, 13, .inl o_fields_f))] H := hP
  have hD : va_D A [(o, .inr (6, [.int (0 : Int32), .int (115 : Int32), .ref o_ops, .ref o_sizes, .ref o_patterns, .ref o_leads, .ref o_codes, .ref o_tells, .ref o_numbers, .ref o_fields, .ref o_found, .long o_number, .long o_foundNumber, .ref o_bytes, .ref o_trial, .ref o_fed, .int o_length, .int o_tried, .int o_given, .int o_at, .int o_pfx, .int o_pfd, .int o_short0])), (o_fields, .inl (cI, 13, .inl o_fields_f))] := hD
  refine lv_aload_n hx hb dX7_memory_5 rfl (lv_at hl 0 rfl) ?_
  refine va_get (D := D) (ci := 6) (v := .ref o_fields) (C := RX7) (T := TX7) (N := 23) hx hb hts hi_X7 hown hK hP 0 rfl rfl 9 (by decide) lk31 (fun _ h9 => h9) rfl dX7_memory_6 ?_
  refine lv_bipush (v := (9 : Int32)) hx hb dX7_memory_9 (by decide) ?_
  refine lv_iload_n hx hb dX7_memory_11 rfl (lv_at hl 1 rfl) ?_
  refine va_iast hx hb hK hP hD hS 1 0 rfl rfl (qw_in0 (x := (9 : Int32)) (n := 13) (by decide) (by decide)) dX7_memory_12 (fun H locs hP hD hS => ?_)
  have hP : va_P D vwCl [(o, .inr (6, [.int (0 : Int32), .int (115 : Int32), .ref o_ops, .ref o_sizes, .ref o_patterns, .ref o_leads, .ref o_codes, .ref o_tells, .ref o_numbers, .ref o_fields, .ref o_found, .long o_number, .long o_foundNumber, .ref o_bytes, .ref o_trial, .ref o_fed, .int o_length, .int o_tried, .int o_given, .int o_at, .int o_pfx, .int o_pfd, .int o_short0])), (o_fields, .inl (cI, 13, .inl (upd o_fields_f ((9 : Int32)).toNatClampNeg p0)))] H := hP
  have hD : va_D A [(o, .inr (6, [.int (0 : Int32), .int (115 : Int32), .ref o_ops, .ref o_sizes, .ref o_patterns, .ref o_leads, .ref o_codes, .ref o_tells, .ref o_numbers, .ref o_fields, .ref o_found, .long o_number, .long o_foundNumber, .ref o_bytes, .ref o_trial, .ref o_fed, .int o_length, .int o_tried, .int o_given, .int o_at, .int o_pfx, .int o_pfd, .int o_short0])), (o_fields, .inl (cI, 13, .inl (upd o_fields_f ((9 : Int32)).toNatClampNeg p0)))] := hD
  refine lv_aload_n hx hb dX7_memory_13 rfl (lv_at hl 0 rfl) ?_
  refine va_get (D := D) (ci := 6) (v := .ref o_fields) (C := RX7) (T := TX7) (N := 23) hx hb hts hi_X7 hown hK hP 0 rfl rfl 9 (by decide) lk31 (fun _ h9 => h9) rfl dX7_memory_14 ?_
  refine lv_bipush (v := (10 : Int32)) hx hb dX7_memory_17 (by decide) ?_
  refine lv_iload_n hx hb dX7_memory_19 rfl (lv_at hl 2 rfl) ?_
  refine va_iast hx hb hK hP hD hS 1 0 rfl rfl (qw_in0 (x := (10 : Int32)) (n := 13) (by decide) (by decide)) dX7_memory_20 (fun H locs hP hD hS => ?_)
  have hP : va_P D vwCl [(o, .inr (6, [.int (0 : Int32), .int (115 : Int32), .ref o_ops, .ref o_sizes, .ref o_patterns, .ref o_leads, .ref o_codes, .ref o_tells, .ref o_numbers, .ref o_fields, .ref o_found, .long o_number, .long o_foundNumber, .ref o_bytes, .ref o_trial, .ref o_fed, .int o_length, .int o_tried, .int o_given, .int o_at, .int o_pfx, .int o_pfd, .int o_short0])), (o_fields, .inl (cI, 13, .inl (upd (upd o_fields_f ((9 : Int32)).toNatClampNeg p0) ((10 : Int32)).toNatClampNeg p1)))] H := hP
  have hD : va_D A [(o, .inr (6, [.int (0 : Int32), .int (115 : Int32), .ref o_ops, .ref o_sizes, .ref o_patterns, .ref o_leads, .ref o_codes, .ref o_tells, .ref o_numbers, .ref o_fields, .ref o_found, .long o_number, .long o_foundNumber, .ref o_bytes, .ref o_trial, .ref o_fed, .int o_length, .int o_tried, .int o_given, .int o_at, .int o_pfx, .int o_pfd, .int o_short0])), (o_fields, .inl (cI, 13, .inl (upd (upd o_fields_f ((9 : Int32)).toNatClampNeg p0) ((10 : Int32)).toNatClampNeg p1)))] := hD
  refine lv_aload_n hx hb dX7_memory_21 rfl (lv_at hl 0 rfl) ?_
  refine va_get (D := D) (ci := 6) (v := .ref o_fields) (C := RX7) (T := TX7) (N := 23) hx hb hts hi_X7 hown hK hP 0 rfl rfl 9 (by decide) lk31 (fun _ h9 => h9) rfl dX7_memory_22 ?_
  refine lv_bipush (v := (11 : Int32)) hx hb dX7_memory_25 (by decide) ?_
  refine lv_iload_n hx hb dX7_memory_27 rfl (lv_at hl 3 rfl) ?_
  refine va_iast hx hb hK hP hD hS 1 0 rfl rfl (qw_in0 (x := (11 : Int32)) (n := 13) (by decide) (by decide)) dX7_memory_28 (fun H locs hP hD hS => ?_)
  have hP : va_P D vwCl [(o, .inr (6, [.int (0 : Int32), .int (115 : Int32), .ref o_ops, .ref o_sizes, .ref o_patterns, .ref o_leads, .ref o_codes, .ref o_tells, .ref o_numbers, .ref o_fields, .ref o_found, .long o_number, .long o_foundNumber, .ref o_bytes, .ref o_trial, .ref o_fed, .int o_length, .int o_tried, .int o_given, .int o_at, .int o_pfx, .int o_pfd, .int o_short0])), (o_fields, .inl (cI, 13, .inl (upd (upd (upd o_fields_f ((9 : Int32)).toNatClampNeg p0) ((10 : Int32)).toNatClampNeg p1) ((11 : Int32)).toNatClampNeg p2)))] H := hP
  have hD : va_D A [(o, .inr (6, [.int (0 : Int32), .int (115 : Int32), .ref o_ops, .ref o_sizes, .ref o_patterns, .ref o_leads, .ref o_codes, .ref o_tells, .ref o_numbers, .ref o_fields, .ref o_found, .long o_number, .long o_foundNumber, .ref o_bytes, .ref o_trial, .ref o_fed, .int o_length, .int o_tried, .int o_given, .int o_at, .int o_pfx, .int o_pfd, .int o_short0])), (o_fields, .inl (cI, 13, .inl (upd (upd (upd o_fields_f ((9 : Int32)).toNatClampNeg p0) ((10 : Int32)).toNatClampNeg p1) ((11 : Int32)).toNatClampNeg p2)))] := hD
  refine lv_aload_n hx hb dX7_memory_29 rfl (lv_at hl 0 rfl) ?_
  refine va_get (D := D) (ci := 6) (v := .ref o_fields) (C := RX7) (T := TX7) (N := 23) hx hb hts hi_X7 hown hK hP 0 rfl rfl 9 (by decide) lk31 (fun _ h9 => h9) rfl dX7_memory_30 ?_
  refine lv_bipush (v := (12 : Int32)) hx hb dX7_memory_33 (by decide) ?_
  refine lv_iload hx hb dX7_memory_35 (lv_at hl 4 rfl) ?_
  refine va_iast hx hb hK hP hD hS 1 0 rfl rfl (qw_in0 (x := (12 : Int32)) (n := 13) (by decide) (by decide)) dX7_memory_37 (fun H locs hP hD hS => ?_)
  have hP : va_P D vwCl [(o, .inr (6, [.int (0 : Int32), .int (115 : Int32), .ref o_ops, .ref o_sizes, .ref o_patterns, .ref o_leads, .ref o_codes, .ref o_tells, .ref o_numbers, .ref o_fields, .ref o_found, .long o_number, .long o_foundNumber, .ref o_bytes, .ref o_trial, .ref o_fed, .int o_length, .int o_tried, .int o_given, .int o_at, .int o_pfx, .int o_pfd, .int o_short0])), (o_fields, .inl (cI, 13, .inl (upd (upd (upd (upd o_fields_f ((9 : Int32)).toNatClampNeg p0) ((10 : Int32)).toNatClampNeg p1) ((11 : Int32)).toNatClampNeg p2) ((12 : Int32)).toNatClampNeg p3)))] H := hP
  have hD : va_D A [(o, .inr (6, [.int (0 : Int32), .int (115 : Int32), .ref o_ops, .ref o_sizes, .ref o_patterns, .ref o_leads, .ref o_codes, .ref o_tells, .ref o_numbers, .ref o_fields, .ref o_found, .long o_number, .long o_foundNumber, .ref o_bytes, .ref o_trial, .ref o_fed, .int o_length, .int o_tried, .int o_given, .int o_at, .int o_pfx, .int o_pfd, .int o_short0])), (o_fields, .inl (cI, 13, .inl (upd (upd (upd (upd o_fields_f ((9 : Int32)).toNatClampNeg p0) ((10 : Int32)).toNatClampNeg p1) ((11 : Int32)).toNatClampNeg p2) ((12 : Int32)).toNatClampNeg p3)))] := hD
  cases E
  rw [hZ]
  exact qw_vret hx hb hr hlk hP hD hS dX7_memory_38
def f_X7_number (p0 : Int64) : Int32 × Int64 := (((0 : Int32), p0))
set_option maxHeartbeats 4000000 in
set_option maxRecDepth 100000 in
theorem c_X7_number (l : Launch) (D : va_G) (cI : ClassId) (tT : Nat) (o : Nat) (o_ops : Nat) (o_sizes : Nat) (o_patterns : Nat) (o_leads : Nat) (o_codes : Nat) (o_tells : Nat) (o_numbers : Nat) (o_fields : Nat) (o_found : Nat) (o_bytes : Nat) (o_trial : Nat) (o_fed : Nat) (o_thrown : Int32) (o_number : Int64) (o_foundNumber : Int64) (o_length : Int32) (o_tried : Int32) (o_given : Int32) (o_at : Int32) (o_pfx : Int32) (o_pfd : Int32) (o_short0 : Int32) (p0 : Int64) (o_thrown_o : Int32) (o_number_o : Int64) (hq : f_X7_number p0 = (o_thrown_o, o_number_o)) : qM l yX7_number wsX7_number (qr 0 0) (qX tT) D vwCl [(cI, .int)] [(o, .inr (6, [.int o_thrown, .int (115 : Int32), .ref o_ops, .ref o_sizes, .ref o_patterns, .ref o_leads, .ref o_codes, .ref o_tells, .ref o_numbers, .ref o_fields, .ref o_found, .long o_number, .long o_foundNumber, .ref o_bytes, .ref o_trial, .ref o_fed, .int o_length, .int o_tried, .int o_given, .int o_at, .int o_pfx, .int o_pfd, .int o_short0]))] [.ref o, .long p0] none [(o, .inr (6, [.int o_thrown_o, .int (115 : Int32), .ref o_ops, .ref o_sizes, .ref o_patterns, .ref o_leads, .ref o_codes, .ref o_tells, .ref o_numbers, .ref o_fields, .ref o_found, .long o_number_o, .long o_foundNumber, .ref o_bytes, .ref o_trial, .ref o_fed, .int o_length, .int o_tried, .int o_given, .int o_at, .int o_pfx, .int o_pfd, .int o_short0]))] := by
  refine qM_of (cc := cX7_number) (maxL := 3) (ret := none) (by decide) rfl (Nat.le_of_ble_eq_true rfl) ?_
  intro p e s m args below meth c A ls Z hx hb hml hr hts hown hlk hK hA hXs hP hD hS hl hZ
  have hown : s.vm.findClass RX7 = some m.cls := hown
  have hl : lv_has ls 3 [(0, .ref o), (1, .long p0)] := hl
  have hi_X7 : ∀ w ∈ wsX70, w ∈ wsX7_number := by decide +kernel
  have lk57 := hts (.fieldLink RX7 57 "InstructionCoderModel" "thrown" "I") (by decide +kernel)
  have lk60 := hts (.fieldLink RX7 60 "InstructionCoderModel" "number" "J") (by decide +kernel)
  have E := hq
  rw [f_X7_number] at E
  refine lv_aload_n hx hb dX7_number_0 rfl (lv_at hl 0 rfl) ?_
  refine lv_iconst (v := (0 : Int32)) hx hb dX7_number_1 (by decide) ?_
  refine va_put (D := D) (ci := 6) (v := .int (0 : Int32)) (ty := .int) (C := RX7) (T := TX7) (N := 23) hx hb hts hi_X7 tyX7 tyX7_ok nmX7 hown hK hP hD hS 0 rfl rfl 0 (by decide) lk57 (fun _ h9 => h9) rfl (by decide +kernel) rfl rfl (Nat.le_of_ble_eq_true rfl) dX7_number_2 (fun H locs hP hD hS => ?_)
  have hP : va_P D vwCl [(o, .inr (6, [.int (0 : Int32), .int (115 : Int32), .ref o_ops, .ref o_sizes, .ref o_patterns, .ref o_leads, .ref o_codes, .ref o_tells, .ref o_numbers, .ref o_fields, .ref o_found, .long o_number, .long o_foundNumber, .ref o_bytes, .ref o_trial, .ref o_fed, .int o_length, .int o_tried, .int o_given, .int o_at, .int o_pfx, .int o_pfd, .int o_short0]))] H := hP
  have hD : va_D A [(o, .inr (6, [.int (0 : Int32), .int (115 : Int32), .ref o_ops, .ref o_sizes, .ref o_patterns, .ref o_leads, .ref o_codes, .ref o_tells, .ref o_numbers, .ref o_fields, .ref o_found, .long o_number, .long o_foundNumber, .ref o_bytes, .ref o_trial, .ref o_fed, .int o_length, .int o_tried, .int o_given, .int o_at, .int o_pfx, .int o_pfd, .int o_short0]))] := hD
  refine lv_aload_n hx hb dX7_number_5 rfl (lv_at hl 0 rfl) ?_
  refine lv_lload_n hx hb dX7_number_6 rfl (lv_at hl 1 rfl) ?_
  refine va_put (D := D) (ci := 6) (v := .long p0) (ty := .long) (C := RX7) (T := TX7) (N := 23) hx hb hts hi_X7 tyX7 tyX7_ok nmX7 hown hK hP hD hS 0 rfl rfl 11 (by decide) lk60 (fun _ h9 => h9) rfl (by decide +kernel) rfl rfl (Nat.le_of_ble_eq_true rfl) dX7_number_7 (fun H locs hP hD hS => ?_)
  have hP : va_P D vwCl [(o, .inr (6, [.int (0 : Int32), .int (115 : Int32), .ref o_ops, .ref o_sizes, .ref o_patterns, .ref o_leads, .ref o_codes, .ref o_tells, .ref o_numbers, .ref o_fields, .ref o_found, .long p0, .long o_foundNumber, .ref o_bytes, .ref o_trial, .ref o_fed, .int o_length, .int o_tried, .int o_given, .int o_at, .int o_pfx, .int o_pfd, .int o_short0]))] H := hP
  have hD : va_D A [(o, .inr (6, [.int (0 : Int32), .int (115 : Int32), .ref o_ops, .ref o_sizes, .ref o_patterns, .ref o_leads, .ref o_codes, .ref o_tells, .ref o_numbers, .ref o_fields, .ref o_found, .long p0, .long o_foundNumber, .ref o_bytes, .ref o_trial, .ref o_fed, .int o_length, .int o_tried, .int o_given, .int o_at, .int o_pfx, .int o_pfd, .int o_short0]))] := hD
  cases E
  rw [hZ]
  exact qw_vret hx hb hr hlk hP hD hS dX7_number_10
def f_X7_field_J4 (x3 : Int32) : Int32 × Int32 := ((x3, (0 : Int32)))
def f_X7_field (o_fields_f : (Nat → Int32)) (p0 : Int32) : Int32 × Int32 := ((if p0 < 0 then (f_X7_field_J4 (0 : Int32)) else (if (13 : Int32) ≤ p0 then (f_X7_field_J4 (0 : Int32)) else (f_X7_field_J4 (o_fields_f (p0).toNatClampNeg)))))
set_option maxHeartbeats 4000000 in
set_option maxRecDepth 100000 in
theorem c_X7_field (l : Launch) (D : va_G) (cI : ClassId) (tT : Nat) (o : Nat) (o_ops : Nat) (o_sizes : Nat) (o_patterns : Nat) (o_leads : Nat) (o_codes : Nat) (o_tells : Nat) (o_numbers : Nat) (o_fields : Nat) (o_found : Nat) (o_bytes : Nat) (o_trial : Nat) (o_fed : Nat) (o_thrown : Int32) (o_number : Int64) (o_foundNumber : Int64) (o_length : Int32) (o_tried : Int32) (o_given : Int32) (o_at : Int32) (o_pfx : Int32) (o_pfd : Int32) (o_short0 : Int32) (o_fields_f : (Nat → Int32)) (p0 : Int32) (r_o : Int32) (o_thrown_o : Int32) (hq : f_X7_field o_fields_f p0 = (r_o, o_thrown_o)) : qM l yX7_field wsX7_field (qr 0 0) (qX tT) D vwCl [(cI, .int)] [(o, .inr (6, [.int o_thrown, .int (115 : Int32), .ref o_ops, .ref o_sizes, .ref o_patterns, .ref o_leads, .ref o_codes, .ref o_tells, .ref o_numbers, .ref o_fields, .ref o_found, .long o_number, .long o_foundNumber, .ref o_bytes, .ref o_trial, .ref o_fed, .int o_length, .int o_tried, .int o_given, .int o_at, .int o_pfx, .int o_pfd, .int o_short0])), (o_fields, .inl (cI, 13, .inl o_fields_f))] [.ref o, .int p0] (some (.int r_o)) [(o, .inr (6, [.int o_thrown_o, .int (115 : Int32), .ref o_ops, .ref o_sizes, .ref o_patterns, .ref o_leads, .ref o_codes, .ref o_tells, .ref o_numbers, .ref o_fields, .ref o_found, .long o_number, .long o_foundNumber, .ref o_bytes, .ref o_trial, .ref o_fed, .int o_length, .int o_tried, .int o_given, .int o_at, .int o_pfx, .int o_pfd, .int o_short0])), (o_fields, .inl (cI, 13, .inl o_fields_f))] := by
  refine qM_of (cc := cX7_field) (maxL := 2) (ret := (some .int)) (by decide) rfl (Nat.le_of_ble_eq_true rfl) ?_
  intro p e s m args below meth c A ls Z hx hb hml hr hts hown hlk hK hA hXs hP hD hS hl hZ
  have hown : s.vm.findClass RX7 = some m.cls := hown
  have hl : lv_has ls 2 [(0, .ref o), (1, .int p0)] := hl
  have hi_X7 : ∀ w ∈ wsX70, w ∈ wsX7_field := by decide +kernel
  have lk31 := hts (.fieldLink RX7 31 "InstructionCoderModel" "fields" "[I") (by decide +kernel)
  have lk57 := hts (.fieldLink RX7 57 "InstructionCoderModel" "thrown" "I") (by decide +kernel)
  have E := hq
  rw [f_X7_field] at E
  refine lv_aload_n hx hb dX7_field_0 rfl (lv_at hl 0 rfl) ?_
  refine lv_iconst (v := (0 : Int32)) hx hb dX7_field_1 (by decide) ?_
  refine va_put (D := D) (ci := 6) (v := .int (0 : Int32)) (ty := .int) (C := RX7) (T := TX7) (N := 23) hx hb hts hi_X7 tyX7 tyX7_ok nmX7 hown hK hP hD hS 0 rfl rfl 0 (by decide) lk57 (fun _ h9 => h9) rfl (by decide +kernel) rfl rfl (Nat.le_of_ble_eq_true rfl) dX7_field_2 (fun H locs hP hD hS => ?_)
  have hP : va_P D vwCl [(o, .inr (6, [.int (0 : Int32), .int (115 : Int32), .ref o_ops, .ref o_sizes, .ref o_patterns, .ref o_leads, .ref o_codes, .ref o_tells, .ref o_numbers, .ref o_fields, .ref o_found, .long o_number, .long o_foundNumber, .ref o_bytes, .ref o_trial, .ref o_fed, .int o_length, .int o_tried, .int o_given, .int o_at, .int o_pfx, .int o_pfd, .int o_short0])), (o_fields, .inl (cI, 13, .inl o_fields_f))] H := hP
  have hD : va_D A [(o, .inr (6, [.int (0 : Int32), .int (115 : Int32), .ref o_ops, .ref o_sizes, .ref o_patterns, .ref o_leads, .ref o_codes, .ref o_tells, .ref o_numbers, .ref o_fields, .ref o_found, .long o_number, .long o_foundNumber, .ref o_bytes, .ref o_trial, .ref o_fed, .int o_length, .int o_tried, .int o_given, .int o_at, .int o_pfx, .int o_pfd, .int o_short0])), (o_fields, .inl (cI, 13, .inl o_fields_f))] := hD
  refine lv_iload_n hx hb dX7_field_5 rfl (lv_at hl 1 rfl) ?_
  have J4 : ∀ (x3 : Int32) (ls : Array Slot) (H : Heap) (locs : List Loc), f_X7_field_J4 x3 = (r_o, o_thrown_o) → lv_has ls 2 [(0, .ref o), (1, .int p0)] → va_P D vwCl [(o, .inr (6, [.int (0 : Int32), .int (115 : Int32), .ref o_ops, .ref o_sizes, .ref o_patterns, .ref o_leads, .ref o_codes, .ref o_tells, .ref o_numbers, .ref o_fields, .ref o_found, .long o_number, .long o_foundNumber, .ref o_bytes, .ref o_trial, .ref o_fed, .int o_length, .int o_tried, .int o_given, .int o_at, .int o_pfx, .int o_pfd, .int o_short0])), (o_fields, .inl (cI, 13, .inl o_fields_f))] H → va_D A [(o, .inr (6, [.int (0 : Int32), .int (115 : Int32), .ref o_ops, .ref o_sizes, .ref o_patterns, .ref o_leads, .ref o_codes, .ref o_tells, .ref o_numbers, .ref o_fields, .ref o_found, .long o_number, .long o_foundNumber, .ref o_bytes, .ref o_trial, .ref o_fed, .int o_length, .int o_tried, .int o_given, .int o_at, .int o_pfx, .int o_pfd, .int o_short0])), (o_fields, .inl (cI, 13, .inl o_fields_f))] → va_S A s.heap H locs → W p l e (qr 0 0) s m args below meth c H locs 0 0 Z (F0 m 25 ls [.int x3]) := by
    intro x3 ls H locs E hl hP hD hS
    rw [f_X7_field_J4] at E
    cases E
    rw [hZ]
    exact qw_iret hx hb hr hlk hP hD hS dX7_field_25
  refine lv_if_lt (tgt := 24) hx hb dX7_field_6 (by decide) (fun c1 => ?_) (fun c1 => ?_)
  · rw [if_pos c1] at E
    refine lv_iconst (v := (0 : Int32)) hx hb dX7_field_24 (by decide) ?_
    exact J4 (0 : Int32) ls _ _ E (lv_sub hl [0, 1] rfl) hP hD hS
  · rw [if_neg c1] at E
    refine lv_iload_n hx hb dX7_field_9 rfl (lv_at hl 1 rfl) ?_
    refine lv_bipush (v := (13 : Int32)) hx hb dX7_field_10 (by decide) ?_
    refine lv_icmp_ge (tgt := 24) hx hb dX7_field_12 (by decide) (fun c2 => ?_) (fun c2 => ?_)
    · rw [if_pos c2] at E
      refine lv_iconst (v := (0 : Int32)) hx hb dX7_field_24 (by decide) ?_
      exact J4 (0 : Int32) ls _ _ E (lv_sub hl [0, 1] rfl) hP hD hS
    · rw [if_neg c2] at E
      refine lv_aload_n hx hb dX7_field_15 rfl (lv_at hl 0 rfl) ?_
      refine va_get (D := D) (ci := 6) (v := .ref o_fields) (C := RX7) (T := TX7) (N := 23) hx hb hts hi_X7 hown hK hP 0 rfl rfl 9 (by decide) lk31 (fun _ h9 => h9) rfl dX7_field_16 ?_
      refine lv_iload_n hx hb dX7_field_19 rfl (lv_at hl 1 rfl) ?_
      refine va_iald hx hb hK hP 1 0 rfl rfl (qw_inAA c1 c2 (by decide)) dX7_field_20 ?_
      refine lv_goto (tgt := 25) hx hb dX7_field_21 (by decide) ?_
      exact J4 (o_fields_f (p0).toNatClampNeg) ls _ _ E (lv_sub hl [0, 1] rfl) hP hD hS
def f_X7_value (o_number : Int64) : Int64 × Int32 := ((o_number, (0 : Int32)))
set_option maxHeartbeats 4000000 in
set_option maxRecDepth 100000 in
theorem c_X7_value (l : Launch) (D : va_G) (cI : ClassId) (tT : Nat) (o : Nat) (o_ops : Nat) (o_sizes : Nat) (o_patterns : Nat) (o_leads : Nat) (o_codes : Nat) (o_tells : Nat) (o_numbers : Nat) (o_fields : Nat) (o_found : Nat) (o_bytes : Nat) (o_trial : Nat) (o_fed : Nat) (o_thrown : Int32) (o_number : Int64) (o_foundNumber : Int64) (o_length : Int32) (o_tried : Int32) (o_given : Int32) (o_at : Int32) (o_pfx : Int32) (o_pfd : Int32) (o_short0 : Int32) (r_o : Int64) (o_thrown_o : Int32) (hq : f_X7_value o_number = (r_o, o_thrown_o)) : qM l yX7_value wsX7_value (qr 0 0) (qX tT) D vwCl [(cI, .int)] [(o, .inr (6, [.int o_thrown, .int (115 : Int32), .ref o_ops, .ref o_sizes, .ref o_patterns, .ref o_leads, .ref o_codes, .ref o_tells, .ref o_numbers, .ref o_fields, .ref o_found, .long o_number, .long o_foundNumber, .ref o_bytes, .ref o_trial, .ref o_fed, .int o_length, .int o_tried, .int o_given, .int o_at, .int o_pfx, .int o_pfd, .int o_short0]))] [.ref o] (some (.long r_o)) [(o, .inr (6, [.int o_thrown_o, .int (115 : Int32), .ref o_ops, .ref o_sizes, .ref o_patterns, .ref o_leads, .ref o_codes, .ref o_tells, .ref o_numbers, .ref o_fields, .ref o_found, .long o_number, .long o_foundNumber, .ref o_bytes, .ref o_trial, .ref o_fed, .int o_length, .int o_tried, .int o_given, .int o_at, .int o_pfx, .int o_pfd, .int o_short0]))] := by
  refine qM_of (cc := cX7_value) (maxL := 1) (ret := (some .long)) (by decide) rfl (Nat.le_of_ble_eq_true rfl) ?_
  intro p e s m args below meth c A ls Z hx hb hml hr hts hown hlk hK hA hXs hP hD hS hl hZ
  have hown : s.vm.findClass RX7 = some m.cls := hown
  have hl : lv_has ls 1 [(0, .ref o)] := hl
  have hi_X7 : ∀ w ∈ wsX70, w ∈ wsX7_value := by decide +kernel
  have lk57 := hts (.fieldLink RX7 57 "InstructionCoderModel" "thrown" "I") (by decide +kernel)
  have lk60 := hts (.fieldLink RX7 60 "InstructionCoderModel" "number" "J") (by decide +kernel)
  have E := hq
  rw [f_X7_value] at E
  refine lv_aload_n hx hb dX7_value_0 rfl (lv_at hl 0 rfl) ?_
  refine lv_iconst (v := (0 : Int32)) hx hb dX7_value_1 (by decide) ?_
  refine va_put (D := D) (ci := 6) (v := .int (0 : Int32)) (ty := .int) (C := RX7) (T := TX7) (N := 23) hx hb hts hi_X7 tyX7 tyX7_ok nmX7 hown hK hP hD hS 0 rfl rfl 0 (by decide) lk57 (fun _ h9 => h9) rfl (by decide +kernel) rfl rfl (Nat.le_of_ble_eq_true rfl) dX7_value_2 (fun H locs hP hD hS => ?_)
  have hP : va_P D vwCl [(o, .inr (6, [.int (0 : Int32), .int (115 : Int32), .ref o_ops, .ref o_sizes, .ref o_patterns, .ref o_leads, .ref o_codes, .ref o_tells, .ref o_numbers, .ref o_fields, .ref o_found, .long o_number, .long o_foundNumber, .ref o_bytes, .ref o_trial, .ref o_fed, .int o_length, .int o_tried, .int o_given, .int o_at, .int o_pfx, .int o_pfd, .int o_short0]))] H := hP
  have hD : va_D A [(o, .inr (6, [.int (0 : Int32), .int (115 : Int32), .ref o_ops, .ref o_sizes, .ref o_patterns, .ref o_leads, .ref o_codes, .ref o_tells, .ref o_numbers, .ref o_fields, .ref o_found, .long o_number, .long o_foundNumber, .ref o_bytes, .ref o_trial, .ref o_fed, .int o_length, .int o_tried, .int o_given, .int o_at, .int o_pfx, .int o_pfd, .int o_short0]))] := hD
  refine lv_aload_n hx hb dX7_value_5 rfl (lv_at hl 0 rfl) ?_
  refine va_get (D := D) (ci := 6) (v := .long o_number) (C := RX7) (T := TX7) (N := 23) hx hb hts hi_X7 hown hK hP 0 rfl rfl 11 (by decide) lk60 (fun _ h9 => h9) rfl dX7_value_6 ?_
  cases E
  rw [hZ]
  exact qw_lret hx hb hr hlk hP hD hS dX7_value_9
def f_X7_isMemory_J20 (x19 : Int32) : Int32 := (x19)
def f_X7_isMemory_J6 (o_fields_f : (Nat → Int32)) (x5 : Int32) : Int32 := ((if (o_fields_f ((9 : Int32)).toNatClampNeg) < (-1 : Int32) then (f_X7_isMemory_J20 (0 : Int32)) else (if (16 : Int32) < (o_fields_f ((9 : Int32)).toNatClampNeg) then (f_X7_isMemory_J20 (0 : Int32)) else (if (o_fields_f ((10 : Int32)).toNatClampNeg) < (-1 : Int32) then (f_X7_isMemory_J20 (0 : Int32)) else (if (15 : Int32) < (o_fields_f ((10 : Int32)).toNatClampNeg) then (f_X7_isMemory_J20 (0 : Int32)) else (if (o_fields_f ((10 : Int32)).toNatClampNeg) = (4 : Int32) then (f_X7_isMemory_J20 (0 : Int32)) else (if x5 = 0 then (f_X7_isMemory_J20 (0 : Int32)) else (if 0 ≤ (o_fields_f ((10 : Int32)).toNatClampNeg) then (if (o_fields_f ((9 : Int32)).toNatClampNeg) = (16 : Int32) then (if 0 ≤ (o_fields_f ((10 : Int32)).toNatClampNeg) then (f_X7_isMemory_J20 (0 : Int32)) else (f_X7_isMemory_J20 (1 : Int32))) else (f_X7_isMemory_J20 (1 : Int32))) else (if (o_fields_f ((11 : Int32)).toNatClampNeg) = (1 : Int32) then (if (o_fields_f ((9 : Int32)).toNatClampNeg) = (16 : Int32) then (if 0 ≤ (o_fields_f ((10 : Int32)).toNatClampNeg) then (f_X7_isMemory_J20 (0 : Int32)) else (f_X7_isMemory_J20 (1 : Int32))) else (f_X7_isMemory_J20 (1 : Int32))) else (f_X7_isMemory_J20 (0 : Int32)))))))))))
def f_X7_isMemory (o_fields_f : (Nat → Int32)) : Int32 := ((if (o_fields_f ((11 : Int32)).toNatClampNeg) = (1 : Int32) then (f_X7_isMemory_J6 o_fields_f (1 : Int32)) else (if (o_fields_f ((11 : Int32)).toNatClampNeg) = (2 : Int32) then (f_X7_isMemory_J6 o_fields_f (1 : Int32)) else (if (o_fields_f ((11 : Int32)).toNatClampNeg) = (4 : Int32) then (f_X7_isMemory_J6 o_fields_f (1 : Int32)) else (if (o_fields_f ((11 : Int32)).toNatClampNeg) = (8 : Int32) then (f_X7_isMemory_J6 o_fields_f (1 : Int32)) else (f_X7_isMemory_J6 o_fields_f (0 : Int32)))))))
set_option maxHeartbeats 4000000 in
set_option maxRecDepth 100000 in
theorem c_X7_isMemory (l : Launch) (D : va_G) (cI : ClassId) (tT : Nat) (o : Nat) (o_ops : Nat) (o_sizes : Nat) (o_patterns : Nat) (o_leads : Nat) (o_codes : Nat) (o_tells : Nat) (o_numbers : Nat) (o_fields : Nat) (o_found : Nat) (o_bytes : Nat) (o_trial : Nat) (o_fed : Nat) (o_thrown : Int32) (o_number : Int64) (o_foundNumber : Int64) (o_length : Int32) (o_tried : Int32) (o_given : Int32) (o_at : Int32) (o_pfx : Int32) (o_pfd : Int32) (o_short0 : Int32) (o_fields_f : (Nat → Int32)) (r_o : Int32) (hq : f_X7_isMemory o_fields_f = r_o) : qM l yX7_isMemory wsX7_isMemory (qr 0 0) (qX tT) D vwCl [(cI, .int)] [(o, .inr (6, [.int o_thrown, .int (115 : Int32), .ref o_ops, .ref o_sizes, .ref o_patterns, .ref o_leads, .ref o_codes, .ref o_tells, .ref o_numbers, .ref o_fields, .ref o_found, .long o_number, .long o_foundNumber, .ref o_bytes, .ref o_trial, .ref o_fed, .int o_length, .int o_tried, .int o_given, .int o_at, .int o_pfx, .int o_pfd, .int o_short0])), (o_fields, .inl (cI, 13, .inl o_fields_f))] [.ref o] (some (.int r_o)) [(o, .inr (6, [.int o_thrown, .int (115 : Int32), .ref o_ops, .ref o_sizes, .ref o_patterns, .ref o_leads, .ref o_codes, .ref o_tells, .ref o_numbers, .ref o_fields, .ref o_found, .long o_number, .long o_foundNumber, .ref o_bytes, .ref o_trial, .ref o_fed, .int o_length, .int o_tried, .int o_given, .int o_at, .int o_pfx, .int o_pfd, .int o_short0])), (o_fields, .inl (cI, 13, .inl o_fields_f))] := by
  refine qM_of (cc := cX7_isMemory) (maxL := 5) (ret := (some .boolean)) (by decide) rfl (Nat.le_of_ble_eq_true rfl) ?_
  intro p e s m args below meth c A ls Z hx hb hml hr hts hown hlk hK hA hXs hP hD hS hl hZ
  have hown : s.vm.findClass RX7 = some m.cls := hown
  have hl : lv_has ls 5 [(0, .ref o)] := hl
  have hi_X7 : ∀ w ∈ wsX70, w ∈ wsX7_isMemory := by decide +kernel
  have lk31 := hts (.fieldLink RX7 31 "InstructionCoderModel" "fields" "[I") (by decide +kernel)
  have E := hq
  rw [f_X7_isMemory] at E
  refine lv_aload_n hx hb dX7_isMemory_0 rfl (lv_at hl 0 rfl) ?_
  refine va_get (D := D) (ci := 6) (v := .ref o_fields) (C := RX7) (T := TX7) (N := 23) hx hb hts hi_X7 hown hK hP 0 rfl rfl 9 (by decide) lk31 (fun _ h9 => h9) rfl dX7_isMemory_1 ?_
  refine lv_bipush (v := (9 : Int32)) hx hb dX7_isMemory_4 (by decide) ?_
  refine va_iald hx hb hK hP 1 0 rfl rfl (qw_in0 (x := (9 : Int32)) (n := 13) (by decide) (by decide)) dX7_isMemory_6 ?_
  refine lv_istore_n (lv' := [(1, .int (o_fields_f ((9 : Int32)).toNatClampNeg)), (0, .ref o)]) hx hb dX7_isMemory_7 rfl hl (by decide) rfl (fun ls hl => ?_)
  refine lv_aload_n hx hb dX7_isMemory_8 rfl (lv_at hl 1 rfl) ?_
  refine va_get (D := D) (ci := 6) (v := .ref o_fields) (C := RX7) (T := TX7) (N := 23) hx hb hts hi_X7 hown hK hP 0 rfl rfl 9 (by decide) lk31 (fun _ h9 => h9) rfl dX7_isMemory_9 ?_
  refine lv_bipush (v := (10 : Int32)) hx hb dX7_isMemory_12 (by decide) ?_
  refine va_iald hx hb hK hP 1 0 rfl rfl (qw_in0 (x := (10 : Int32)) (n := 13) (by decide) (by decide)) dX7_isMemory_14 ?_
  refine lv_istore_n (lv' := [(2, .int (o_fields_f ((10 : Int32)).toNatClampNeg)), (1, .int (o_fields_f ((9 : Int32)).toNatClampNeg)), (0, .ref o)]) hx hb dX7_isMemory_15 rfl hl (by decide) rfl (fun ls hl => ?_)
  refine lv_aload_n hx hb dX7_isMemory_16 rfl (lv_at hl 2 rfl) ?_
  refine va_get (D := D) (ci := 6) (v := .ref o_fields) (C := RX7) (T := TX7) (N := 23) hx hb hts hi_X7 hown hK hP 0 rfl rfl 9 (by decide) lk31 (fun _ h9 => h9) rfl dX7_isMemory_17 ?_
  refine lv_bipush (v := (11 : Int32)) hx hb dX7_isMemory_20 (by decide) ?_
  refine va_iald hx hb hK hP 1 0 rfl rfl (qw_in0 (x := (11 : Int32)) (n := 13) (by decide) (by decide)) dX7_isMemory_22 ?_
  refine lv_istore_n (lv' := [(3, .int (o_fields_f ((11 : Int32)).toNatClampNeg)), (2, .int (o_fields_f ((10 : Int32)).toNatClampNeg)), (1, .int (o_fields_f ((9 : Int32)).toNatClampNeg)), (0, .ref o)]) hx hb dX7_isMemory_23 rfl hl (by decide) rfl (fun ls hl => ?_)
  refine lv_iload_n hx hb dX7_isMemory_24 rfl (lv_at hl 0 rfl) ?_
  refine lv_iconst (v := (1 : Int32)) hx hb dX7_isMemory_25 (by decide) ?_
  have J6 : ∀ (x5 : Int32) (hb_x5 : x5 = 0 ∨ x5 = 1) (hv_x5 : qv (0) (1) x5) (ls : Array Slot) (H : Heap) (locs : List Loc), f_X7_isMemory_J6 o_fields_f x5 = r_o → lv_has ls 5 [(3, .int (o_fields_f ((11 : Int32)).toNatClampNeg)), (2, .int (o_fields_f ((10 : Int32)).toNatClampNeg)), (1, .int (o_fields_f ((9 : Int32)).toNatClampNeg)), (0, .ref o)] → va_P D vwCl [(o, .inr (6, [.int o_thrown, .int (115 : Int32), .ref o_ops, .ref o_sizes, .ref o_patterns, .ref o_leads, .ref o_codes, .ref o_tells, .ref o_numbers, .ref o_fields, .ref o_found, .long o_number, .long o_foundNumber, .ref o_bytes, .ref o_trial, .ref o_fed, .int o_length, .int o_tried, .int o_given, .int o_at, .int o_pfx, .int o_pfd, .int o_short0])), (o_fields, .inl (cI, 13, .inl o_fields_f))] H → va_D A [(o, .inr (6, [.int o_thrown, .int (115 : Int32), .ref o_ops, .ref o_sizes, .ref o_patterns, .ref o_leads, .ref o_codes, .ref o_tells, .ref o_numbers, .ref o_fields, .ref o_found, .long o_number, .long o_foundNumber, .ref o_bytes, .ref o_trial, .ref o_fed, .int o_length, .int o_tried, .int o_given, .int o_at, .int o_pfx, .int o_pfd, .int o_short0])), (o_fields, .inl (cI, 13, .inl o_fields_f))] → va_S A s.heap H locs → W p l e (qr 0 0) s m args below meth c H locs 0 0 Z (F0 m 50 ls [.int x5]) := by
    intro x5 hb_x5 hv_x5 ls H locs E hl hP hD hS
    rw [f_X7_isMemory_J6] at E
    refine lv_istore (lv' := [(4, .int x5), (3, .int (o_fields_f ((11 : Int32)).toNatClampNeg)), (2, .int (o_fields_f ((10 : Int32)).toNatClampNeg)), (1, .int (o_fields_f ((9 : Int32)).toNatClampNeg)), (0, .ref o)]) hx hb dX7_isMemory_50 hl (by decide) rfl (fun ls hl => ?_)
    refine lv_iload_n hx hb dX7_isMemory_52 rfl (lv_at hl 3 rfl) ?_
    refine lv_iconst (v := (-1 : Int32)) hx hb dX7_isMemory_53 (by decide) ?_
    have J20 : ∀ (x19 : Int32) (hb_x19 : x19 = 0 ∨ x19 = 1) (hv_x19 : qv (0) (1) x19) (ls : Array Slot) (H : Heap) (locs : List Loc), f_X7_isMemory_J20 x19 = r_o → lv_has ls 5 [(4, .int x5), (3, .int (o_fields_f ((11 : Int32)).toNatClampNeg)), (2, .int (o_fields_f ((10 : Int32)).toNatClampNeg)), (1, .int (o_fields_f ((9 : Int32)).toNatClampNeg)), (0, .ref o)] → va_P D vwCl [(o, .inr (6, [.int o_thrown, .int (115 : Int32), .ref o_ops, .ref o_sizes, .ref o_patterns, .ref o_leads, .ref o_codes, .ref o_tells, .ref o_numbers, .ref o_fields, .ref o_found, .long o_number, .long o_foundNumber, .ref o_bytes, .ref o_trial, .ref o_fed, .int o_length, .int o_tried, .int o_given, .int o_at, .int o_pfx, .int o_pfd, .int o_short0])), (o_fields, .inl (cI, 13, .inl o_fields_f))] H → va_D A [(o, .inr (6, [.int o_thrown, .int (115 : Int32), .ref o_ops, .ref o_sizes, .ref o_patterns, .ref o_leads, .ref o_codes, .ref o_tells, .ref o_numbers, .ref o_fields, .ref o_found, .long o_number, .long o_foundNumber, .ref o_bytes, .ref o_trial, .ref o_fed, .int o_length, .int o_tried, .int o_given, .int o_at, .int o_pfx, .int o_pfd, .int o_short0])), (o_fields, .inl (cI, 13, .inl o_fields_f))] → va_S A s.heap H locs → W p l e (qr 0 0) s m args below meth c H locs 0 0 Z (F0 m 108 ls [.int x19]) := by
      intro x19 hb_x19 hv_x19 ls H locs E hl hP hD hS
      rw [f_X7_isMemory_J20] at E
      cases E
      rw [hZ]
      exact qw_zret hx hb hr hlk hb_x19 hP hD hS dX7_isMemory_108
    refine lv_icmp_lt (tgt := 107) hx hb dX7_isMemory_54 (by decide) (fun c7 => ?_) (fun c7 => ?_)
    · rw [if_pos c7] at E
      refine lv_iconst (v := (0 : Int32)) hx hb dX7_isMemory_107 (by decide) ?_
      exact J20 (0 : Int32) (Or.inl rfl) (qv_w (⟨by decide, by decide⟩ : qv (0) (0) (0 : Int32)) (by decide) (by decide)) ls _ _ E (lv_sub hl [0, 1, 2, 3, 4] rfl) hP hD hS
    · rw [if_neg c7] at E
      refine lv_iload_n hx hb dX7_isMemory_57 rfl (lv_at hl 3 rfl) ?_
      refine lv_bipush (v := (16 : Int32)) hx hb dX7_isMemory_58 (by decide) ?_
      refine lv_icmp_gt (tgt := 107) hx hb dX7_isMemory_60 (by decide) (fun c8 => ?_) (fun c8 => ?_)
      · rw [if_pos c8] at E
        refine lv_iconst (v := (0 : Int32)) hx hb dX7_isMemory_107 (by decide) ?_
        exact J20 (0 : Int32) (Or.inl rfl) (qv_w (⟨by decide, by decide⟩ : qv (0) (0) (0 : Int32)) (by decide) (by decide)) ls _ _ E (lv_sub hl [0, 1, 2, 3, 4] rfl) hP hD hS
      · rw [if_neg c8] at E
        refine lv_iload_n hx hb dX7_isMemory_63 rfl (lv_at hl 2 rfl) ?_
        refine lv_iconst (v := (-1 : Int32)) hx hb dX7_isMemory_64 (by decide) ?_
        refine lv_icmp_lt (tgt := 107) hx hb dX7_isMemory_65 (by decide) (fun c9 => ?_) (fun c9 => ?_)
        · rw [if_pos c9] at E
          refine lv_iconst (v := (0 : Int32)) hx hb dX7_isMemory_107 (by decide) ?_
          exact J20 (0 : Int32) (Or.inl rfl) (qv_w (⟨by decide, by decide⟩ : qv (0) (0) (0 : Int32)) (by decide) (by decide)) ls _ _ E (lv_sub hl [0, 1, 2, 3, 4] rfl) hP hD hS
        · rw [if_neg c9] at E
          refine lv_iload_n hx hb dX7_isMemory_68 rfl (lv_at hl 2 rfl) ?_
          refine lv_bipush (v := (15 : Int32)) hx hb dX7_isMemory_69 (by decide) ?_
          refine lv_icmp_gt (tgt := 107) hx hb dX7_isMemory_71 (by decide) (fun c10 => ?_) (fun c10 => ?_)
          · rw [if_pos c10] at E
            refine lv_iconst (v := (0 : Int32)) hx hb dX7_isMemory_107 (by decide) ?_
            exact J20 (0 : Int32) (Or.inl rfl) (qv_w (⟨by decide, by decide⟩ : qv (0) (0) (0 : Int32)) (by decide) (by decide)) ls _ _ E (lv_sub hl [0, 1, 2, 3, 4] rfl) hP hD hS
          · rw [if_neg c10] at E
            refine lv_iload_n hx hb dX7_isMemory_74 rfl (lv_at hl 2 rfl) ?_
            refine lv_iconst (v := (4 : Int32)) hx hb dX7_isMemory_75 (by decide) ?_
            refine lv_icmp_eq (tgt := 107) hx hb dX7_isMemory_76 (by decide) (fun c11 => ?_) (fun c11 => ?_)
            · rw [if_pos c11] at E
              refine lv_iconst (v := (0 : Int32)) hx hb dX7_isMemory_107 (by decide) ?_
              exact J20 (0 : Int32) (Or.inl rfl) (qv_w (⟨by decide, by decide⟩ : qv (0) (0) (0 : Int32)) (by decide) (by decide)) ls _ _ E (lv_sub hl [0, 1, 2, 3, 4] rfl) hP hD hS
            · rw [if_neg c11] at E
              refine lv_iload hx hb dX7_isMemory_79 (lv_at hl 0 rfl) ?_
              refine lv_if_eq (tgt := 107) hx hb dX7_isMemory_81 (by decide) (fun c12 => ?_) (fun c12 => ?_)
              · rw [if_pos c12] at E
                refine lv_iconst (v := (0 : Int32)) hx hb dX7_isMemory_107 (by decide) ?_
                exact J20 (0 : Int32) (Or.inl rfl) (qv_w (⟨by decide, by decide⟩ : qv (0) (0) (0 : Int32)) (by decide) (by decide)) ls _ _ E (lv_sub hl [0, 1, 2, 3, 4] rfl) hP hD hS
              · rw [if_neg c12] at E
                refine lv_iload_n hx hb dX7_isMemory_84 rfl (lv_at hl 2 rfl) ?_
                refine lv_if_ge (tgt := 93) hx hb dX7_isMemory_85 (by decide) (fun c13 => ?_) (fun c13 => ?_)
                · rw [if_pos c13] at E
                  refine lv_iload_n hx hb dX7_isMemory_93 rfl (lv_at hl 3 rfl) ?_
                  refine lv_bipush (v := (16 : Int32)) hx hb dX7_isMemory_94 (by decide) ?_
                  refine lv_icmp_ne (tgt := 103) hx hb dX7_isMemory_96 (by decide) (fun c14 => ?_) (fun c14 => ?_)
                  · rw [if_neg c14] at E
                    refine lv_iconst (v := (1 : Int32)) hx hb dX7_isMemory_103 (by decide) ?_
                    refine lv_goto (tgt := 108) hx hb dX7_isMemory_104 (by decide) ?_
                    exact J20 (1 : Int32) (Or.inr rfl) (qv_w (⟨by decide, by decide⟩ : qv (1) (1) (1 : Int32)) (by decide) (by decide)) ls _ _ E (lv_sub hl [0, 1, 2, 3, 4] rfl) hP hD hS
                  · rw [if_pos c14] at E
                    refine lv_iload_n hx hb dX7_isMemory_99 rfl (lv_at hl 2 rfl) ?_
                    refine lv_if_ge (tgt := 107) hx hb dX7_isMemory_100 (by decide) (fun c15 => ?_) (fun c15 => ?_)
                    · rw [if_pos c15] at E
                      refine lv_iconst (v := (0 : Int32)) hx hb dX7_isMemory_107 (by decide) ?_
                      exact J20 (0 : Int32) (Or.inl rfl) (qv_w (⟨by decide, by decide⟩ : qv (0) (0) (0 : Int32)) (by decide) (by decide)) ls _ _ E (lv_sub hl [0, 1, 2, 3, 4] rfl) hP hD hS
                    · rw [if_neg c15] at E
                      refine lv_iconst (v := (1 : Int32)) hx hb dX7_isMemory_103 (by decide) ?_
                      refine lv_goto (tgt := 108) hx hb dX7_isMemory_104 (by decide) ?_
                      exact J20 (1 : Int32) (Or.inr rfl) (qv_w (⟨by decide, by decide⟩ : qv (1) (1) (1 : Int32)) (by decide) (by decide)) ls _ _ E (lv_sub hl [0, 1, 2, 3, 4] rfl) hP hD hS
                · rw [if_neg c13] at E
                  refine lv_iload_n hx hb dX7_isMemory_88 rfl (lv_at hl 1 rfl) ?_
                  refine lv_iconst (v := (1 : Int32)) hx hb dX7_isMemory_89 (by decide) ?_
                  refine lv_icmp_ne (tgt := 107) hx hb dX7_isMemory_90 (by decide) (fun c16 => ?_) (fun c16 => ?_)
                  · rw [if_neg c16] at E
                    refine lv_iconst (v := (0 : Int32)) hx hb dX7_isMemory_107 (by decide) ?_
                    exact J20 (0 : Int32) (Or.inl rfl) (qv_w (⟨by decide, by decide⟩ : qv (0) (0) (0 : Int32)) (by decide) (by decide)) ls _ _ E (lv_sub hl [0, 1, 2, 3, 4] rfl) hP hD hS
                  · rw [if_pos c16] at E
                    refine lv_iload_n hx hb dX7_isMemory_93 rfl (lv_at hl 3 rfl) ?_
                    refine lv_bipush (v := (16 : Int32)) hx hb dX7_isMemory_94 (by decide) ?_
                    refine lv_icmp_ne (tgt := 103) hx hb dX7_isMemory_96 (by decide) (fun c17 => ?_) (fun c17 => ?_)
                    · rw [if_neg c17] at E
                      refine lv_iconst (v := (1 : Int32)) hx hb dX7_isMemory_103 (by decide) ?_
                      refine lv_goto (tgt := 108) hx hb dX7_isMemory_104 (by decide) ?_
                      exact J20 (1 : Int32) (Or.inr rfl) (qv_w (⟨by decide, by decide⟩ : qv (1) (1) (1 : Int32)) (by decide) (by decide)) ls _ _ E (lv_sub hl [0, 1, 2, 3, 4] rfl) hP hD hS
                    · rw [if_pos c17] at E
                      refine lv_iload_n hx hb dX7_isMemory_99 rfl (lv_at hl 2 rfl) ?_
                      refine lv_if_ge (tgt := 107) hx hb dX7_isMemory_100 (by decide) (fun c18 => ?_) (fun c18 => ?_)
                      · rw [if_pos c18] at E
                        refine lv_iconst (v := (0 : Int32)) hx hb dX7_isMemory_107 (by decide) ?_
                        exact J20 (0 : Int32) (Or.inl rfl) (qv_w (⟨by decide, by decide⟩ : qv (0) (0) (0 : Int32)) (by decide) (by decide)) ls _ _ E (lv_sub hl [0, 1, 2, 3, 4] rfl) hP hD hS
                      · rw [if_neg c18] at E
                        refine lv_iconst (v := (1 : Int32)) hx hb dX7_isMemory_103 (by decide) ?_
                        refine lv_goto (tgt := 108) hx hb dX7_isMemory_104 (by decide) ?_
                        exact J20 (1 : Int32) (Or.inr rfl) (qv_w (⟨by decide, by decide⟩ : qv (1) (1) (1 : Int32)) (by decide) (by decide)) ls _ _ E (lv_sub hl [0, 1, 2, 3, 4] rfl) hP hD hS
  refine lv_icmp_eq (tgt := 45) hx hb dX7_isMemory_26 (by decide) (fun c1 => ?_) (fun c1 => ?_)
  · rw [if_pos c1] at E
    refine lv_iconst (v := (1 : Int32)) hx hb dX7_isMemory_45 (by decide) ?_
    refine lv_goto (tgt := 50) hx hb dX7_isMemory_46 (by decide) ?_
    exact J6 (1 : Int32) (Or.inr rfl) (qv_w (⟨by decide, by decide⟩ : qv (1) (1) (1 : Int32)) (by decide) (by decide)) ls _ _ E (lv_sub hl [0, 1, 2, 3] rfl) hP hD hS
  · rw [if_neg c1] at E
    refine lv_iload_n hx hb dX7_isMemory_29 rfl (lv_at hl 0 rfl) ?_
    refine lv_iconst (v := (2 : Int32)) hx hb dX7_isMemory_30 (by decide) ?_
    refine lv_icmp_eq (tgt := 45) hx hb dX7_isMemory_31 (by decide) (fun c2 => ?_) (fun c2 => ?_)
    · rw [if_pos c2] at E
      refine lv_iconst (v := (1 : Int32)) hx hb dX7_isMemory_45 (by decide) ?_
      refine lv_goto (tgt := 50) hx hb dX7_isMemory_46 (by decide) ?_
      exact J6 (1 : Int32) (Or.inr rfl) (qv_w (⟨by decide, by decide⟩ : qv (1) (1) (1 : Int32)) (by decide) (by decide)) ls _ _ E (lv_sub hl [0, 1, 2, 3] rfl) hP hD hS
    · rw [if_neg c2] at E
      refine lv_iload_n hx hb dX7_isMemory_34 rfl (lv_at hl 0 rfl) ?_
      refine lv_iconst (v := (4 : Int32)) hx hb dX7_isMemory_35 (by decide) ?_
      refine lv_icmp_eq (tgt := 45) hx hb dX7_isMemory_36 (by decide) (fun c3 => ?_) (fun c3 => ?_)
      · rw [if_pos c3] at E
        refine lv_iconst (v := (1 : Int32)) hx hb dX7_isMemory_45 (by decide) ?_
        refine lv_goto (tgt := 50) hx hb dX7_isMemory_46 (by decide) ?_
        exact J6 (1 : Int32) (Or.inr rfl) (qv_w (⟨by decide, by decide⟩ : qv (1) (1) (1 : Int32)) (by decide) (by decide)) ls _ _ E (lv_sub hl [0, 1, 2, 3] rfl) hP hD hS
      · rw [if_neg c3] at E
        refine lv_iload_n hx hb dX7_isMemory_39 rfl (lv_at hl 0 rfl) ?_
        refine lv_bipush (v := (8 : Int32)) hx hb dX7_isMemory_40 (by decide) ?_
        refine lv_icmp_ne (tgt := 49) hx hb dX7_isMemory_42 (by decide) (fun c4 => ?_) (fun c4 => ?_)
        · rw [if_neg c4] at E
          refine lv_iconst (v := (0 : Int32)) hx hb dX7_isMemory_49 (by decide) ?_
          exact J6 (0 : Int32) (Or.inl rfl) (qv_w (⟨by decide, by decide⟩ : qv (0) (0) (0 : Int32)) (by decide) (by decide)) ls _ _ E (lv_sub hl [0, 1, 2, 3] rfl) hP hD hS
        · rw [if_pos c4] at E
          refine lv_iconst (v := (1 : Int32)) hx hb dX7_isMemory_45 (by decide) ?_
          refine lv_goto (tgt := 50) hx hb dX7_isMemory_46 (by decide) ?_
          exact J6 (1 : Int32) (Or.inr rfl) (qv_w (⟨by decide, by decide⟩ : qv (1) (1) (1 : Int32)) (by decide) (by decide)) ls _ _ E (lv_sub hl [0, 1, 2, 3] rfl) hP hD hS
def f_X7_op (o_fields_f : (Nat → Int32)) (p0 : Int32) (p1 : Int32) (p2 : Int32) : Int32 × (Nat → Int32) := (((0 : Int32), (upd (upd (upd (upd (upd (upd (upd (upd (upd o_fields_f ((0 : Int32)).toNatClampNeg p0) ((1 : Int32)).toNatClampNeg p1) ((2 : Int32)).toNatClampNeg p2) ((3 : Int32)).toNatClampNeg (0 : Int32)) ((4 : Int32)).toNatClampNeg (0 : Int32)) ((5 : Int32)).toNatClampNeg (0 : Int32)) ((6 : Int32)).toNatClampNeg (0 : Int32)) ((7 : Int32)).toNatClampNeg (0 : Int32)) ((8 : Int32)).toNatClampNeg (0 : Int32))))
set_option maxHeartbeats 4000000 in
set_option maxRecDepth 100000 in
theorem c_X7_op (l : Launch) (D : va_G) (cI : ClassId) (tT : Nat) (o : Nat) (o_ops : Nat) (o_sizes : Nat) (o_patterns : Nat) (o_leads : Nat) (o_codes : Nat) (o_tells : Nat) (o_numbers : Nat) (o_fields : Nat) (o_found : Nat) (o_bytes : Nat) (o_trial : Nat) (o_fed : Nat) (o_thrown : Int32) (o_number : Int64) (o_foundNumber : Int64) (o_length : Int32) (o_tried : Int32) (o_given : Int32) (o_at : Int32) (o_pfx : Int32) (o_pfd : Int32) (o_short0 : Int32) (o_fields_f : (Nat → Int32)) (p0 : Int32) (p1 : Int32) (p2 : Int32) (o_thrown_o : Int32) (o_fields_f_o : (Nat → Int32)) (hq : f_X7_op o_fields_f p0 p1 p2 = (o_thrown_o, o_fields_f_o)) : qM l yX7_op wsX7_op (qr 0 0) (qX tT) D vwCl [(cI, .int)] [(o, .inr (6, [.int o_thrown, .int (115 : Int32), .ref o_ops, .ref o_sizes, .ref o_patterns, .ref o_leads, .ref o_codes, .ref o_tells, .ref o_numbers, .ref o_fields, .ref o_found, .long o_number, .long o_foundNumber, .ref o_bytes, .ref o_trial, .ref o_fed, .int o_length, .int o_tried, .int o_given, .int o_at, .int o_pfx, .int o_pfd, .int o_short0])), (o_fields, .inl (cI, 13, .inl o_fields_f))] [.ref o, .int p0, .int p1, .int p2] none [(o, .inr (6, [.int o_thrown_o, .int (115 : Int32), .ref o_ops, .ref o_sizes, .ref o_patterns, .ref o_leads, .ref o_codes, .ref o_tells, .ref o_numbers, .ref o_fields, .ref o_found, .long o_number, .long o_foundNumber, .ref o_bytes, .ref o_trial, .ref o_fed, .int o_length, .int o_tried, .int o_given, .int o_at, .int o_pfx, .int o_pfd, .int o_short0])), (o_fields, .inl (cI, 13, .inl o_fields_f_o))] := by
  refine qM_of (cc := cX7_op) (maxL := 5) (ret := none) (by decide) rfl (Nat.le_of_ble_eq_true rfl) ?_
  intro p e s m args below meth c A ls Z hx hb hml hr hts hown hlk hK hA hXs hP hD hS hl hZ
  have hown : s.vm.findClass RX7 = some m.cls := hown
  have hl : lv_has ls 5 [(0, .ref o), (1, .int p0), (2, .int p1), (3, .int p2)] := hl
  have hi_X7 : ∀ w ∈ wsX70, w ∈ wsX7_op := by decide +kernel
  have lk31 := hts (.fieldLink RX7 31 "InstructionCoderModel" "fields" "[I") (by decide +kernel)
  have lk57 := hts (.fieldLink RX7 57 "InstructionCoderModel" "thrown" "I") (by decide +kernel)
  have E := hq
  rw [f_X7_op] at E
  refine lv_aload_n hx hb dX7_op_0 rfl (lv_at hl 0 rfl) ?_
  refine lv_iconst (v := (0 : Int32)) hx hb dX7_op_1 (by decide) ?_
  refine va_put (D := D) (ci := 6) (v := .int (0 : Int32)) (ty := .int) (C := RX7) (T := TX7) (N := 23) hx hb hts hi_X7 tyX7 tyX7_ok nmX7 hown hK hP hD hS 0 rfl rfl 0 (by decide) lk57 (fun _ h9 => h9) rfl (by decide +kernel) rfl rfl (Nat.le_of_ble_eq_true rfl) dX7_op_2 (fun H locs hP hD hS => ?_)
  have hP : va_P D vwCl [(o, .inr (6, [.int (0 : Int32), .int (115 : Int32), .ref o_ops, .ref o_sizes, .ref o_patterns, .ref o_leads, .ref o_codes, .ref o_tells, .ref o_numbers, .ref o_fields, .ref o_found, .long o_number, .long o_foundNumber, .ref o_bytes, .ref o_trial, .ref o_fed, .int o_length, .int o_tried, .int o_given, .int o_at, .int o_pfx, .int o_pfd, .int o_short0])), (o_fields, .inl (cI, 13, .inl o_fields_f))] H := hP
  have hD : va_D A [(o, .inr (6, [.int (0 : Int32), .int (115 : Int32), .ref o_ops, .ref o_sizes, .ref o_patterns, .ref o_leads, .ref o_codes, .ref o_tells, .ref o_numbers, .ref o_fields, .ref o_found, .long o_number, .long o_foundNumber, .ref o_bytes, .ref o_trial, .ref o_fed, .int o_length, .int o_tried, .int o_given, .int o_at, .int o_pfx, .int o_pfd, .int o_short0])), (o_fields, .inl (cI, 13, .inl o_fields_f))] := hD
  refine lv_aload_n hx hb dX7_op_5 rfl (lv_at hl 0 rfl) ?_
  refine va_get (D := D) (ci := 6) (v := .ref o_fields) (C := RX7) (T := TX7) (N := 23) hx hb hts hi_X7 hown hK hP 0 rfl rfl 9 (by decide) lk31 (fun _ h9 => h9) rfl dX7_op_6 ?_
  refine lv_iconst (v := (0 : Int32)) hx hb dX7_op_9 (by decide) ?_
  refine lv_iload_n hx hb dX7_op_10 rfl (lv_at hl 1 rfl) ?_
  refine va_iast hx hb hK hP hD hS 1 0 rfl rfl (qw_in0 (x := (0 : Int32)) (n := 13) (by decide) (by decide)) dX7_op_11 (fun H locs hP hD hS => ?_)
  have hP : va_P D vwCl [(o, .inr (6, [.int (0 : Int32), .int (115 : Int32), .ref o_ops, .ref o_sizes, .ref o_patterns, .ref o_leads, .ref o_codes, .ref o_tells, .ref o_numbers, .ref o_fields, .ref o_found, .long o_number, .long o_foundNumber, .ref o_bytes, .ref o_trial, .ref o_fed, .int o_length, .int o_tried, .int o_given, .int o_at, .int o_pfx, .int o_pfd, .int o_short0])), (o_fields, .inl (cI, 13, .inl (upd o_fields_f ((0 : Int32)).toNatClampNeg p0)))] H := hP
  have hD : va_D A [(o, .inr (6, [.int (0 : Int32), .int (115 : Int32), .ref o_ops, .ref o_sizes, .ref o_patterns, .ref o_leads, .ref o_codes, .ref o_tells, .ref o_numbers, .ref o_fields, .ref o_found, .long o_number, .long o_foundNumber, .ref o_bytes, .ref o_trial, .ref o_fed, .int o_length, .int o_tried, .int o_given, .int o_at, .int o_pfx, .int o_pfd, .int o_short0])), (o_fields, .inl (cI, 13, .inl (upd o_fields_f ((0 : Int32)).toNatClampNeg p0)))] := hD
  refine lv_aload_n hx hb dX7_op_12 rfl (lv_at hl 0 rfl) ?_
  refine va_get (D := D) (ci := 6) (v := .ref o_fields) (C := RX7) (T := TX7) (N := 23) hx hb hts hi_X7 hown hK hP 0 rfl rfl 9 (by decide) lk31 (fun _ h9 => h9) rfl dX7_op_13 ?_
  refine lv_iconst (v := (1 : Int32)) hx hb dX7_op_16 (by decide) ?_
  refine lv_iload_n hx hb dX7_op_17 rfl (lv_at hl 2 rfl) ?_
  refine va_iast hx hb hK hP hD hS 1 0 rfl rfl (qw_in0 (x := (1 : Int32)) (n := 13) (by decide) (by decide)) dX7_op_18 (fun H locs hP hD hS => ?_)
  have hP : va_P D vwCl [(o, .inr (6, [.int (0 : Int32), .int (115 : Int32), .ref o_ops, .ref o_sizes, .ref o_patterns, .ref o_leads, .ref o_codes, .ref o_tells, .ref o_numbers, .ref o_fields, .ref o_found, .long o_number, .long o_foundNumber, .ref o_bytes, .ref o_trial, .ref o_fed, .int o_length, .int o_tried, .int o_given, .int o_at, .int o_pfx, .int o_pfd, .int o_short0])), (o_fields, .inl (cI, 13, .inl (upd (upd o_fields_f ((0 : Int32)).toNatClampNeg p0) ((1 : Int32)).toNatClampNeg p1)))] H := hP
  have hD : va_D A [(o, .inr (6, [.int (0 : Int32), .int (115 : Int32), .ref o_ops, .ref o_sizes, .ref o_patterns, .ref o_leads, .ref o_codes, .ref o_tells, .ref o_numbers, .ref o_fields, .ref o_found, .long o_number, .long o_foundNumber, .ref o_bytes, .ref o_trial, .ref o_fed, .int o_length, .int o_tried, .int o_given, .int o_at, .int o_pfx, .int o_pfd, .int o_short0])), (o_fields, .inl (cI, 13, .inl (upd (upd o_fields_f ((0 : Int32)).toNatClampNeg p0) ((1 : Int32)).toNatClampNeg p1)))] := hD
  refine lv_aload_n hx hb dX7_op_19 rfl (lv_at hl 0 rfl) ?_
  refine va_get (D := D) (ci := 6) (v := .ref o_fields) (C := RX7) (T := TX7) (N := 23) hx hb hts hi_X7 hown hK hP 0 rfl rfl 9 (by decide) lk31 (fun _ h9 => h9) rfl dX7_op_20 ?_
  refine lv_iconst (v := (2 : Int32)) hx hb dX7_op_23 (by decide) ?_
  refine lv_iload_n hx hb dX7_op_24 rfl (lv_at hl 3 rfl) ?_
  refine va_iast hx hb hK hP hD hS 1 0 rfl rfl (qw_in0 (x := (2 : Int32)) (n := 13) (by decide) (by decide)) dX7_op_25 (fun H locs hP hD hS => ?_)
  have hP : va_P D vwCl [(o, .inr (6, [.int (0 : Int32), .int (115 : Int32), .ref o_ops, .ref o_sizes, .ref o_patterns, .ref o_leads, .ref o_codes, .ref o_tells, .ref o_numbers, .ref o_fields, .ref o_found, .long o_number, .long o_foundNumber, .ref o_bytes, .ref o_trial, .ref o_fed, .int o_length, .int o_tried, .int o_given, .int o_at, .int o_pfx, .int o_pfd, .int o_short0])), (o_fields, .inl (cI, 13, .inl (upd (upd (upd o_fields_f ((0 : Int32)).toNatClampNeg p0) ((1 : Int32)).toNatClampNeg p1) ((2 : Int32)).toNatClampNeg p2)))] H := hP
  have hD : va_D A [(o, .inr (6, [.int (0 : Int32), .int (115 : Int32), .ref o_ops, .ref o_sizes, .ref o_patterns, .ref o_leads, .ref o_codes, .ref o_tells, .ref o_numbers, .ref o_fields, .ref o_found, .long o_number, .long o_foundNumber, .ref o_bytes, .ref o_trial, .ref o_fed, .int o_length, .int o_tried, .int o_given, .int o_at, .int o_pfx, .int o_pfd, .int o_short0])), (o_fields, .inl (cI, 13, .inl (upd (upd (upd o_fields_f ((0 : Int32)).toNatClampNeg p0) ((1 : Int32)).toNatClampNeg p1) ((2 : Int32)).toNatClampNeg p2)))] := hD
  refine lv_iconst (v := (3 : Int32)) hx hb dX7_op_26 (by decide) ?_
  refine lv_istore (lv' := [(4, .int (3 : Int32)), (0, .ref o), (1, .int p0), (2, .int p1), (3, .int p2)]) hx hb dX7_op_27 hl (by decide) rfl (fun ls hl => ?_)
  refine lv_iload hx hb dX7_op_29 (lv_at hl 0 rfl) ?_
  refine lv_bipush (v := (9 : Int32)) hx hb dX7_op_31 (by decide) ?_
  refine lv_icmp_ge (tgt := 50) hx hb dX7_op_33 (by decide) (fun c9 => absurd c9 (by decide)) (fun _ => ?_)
  refine lv_aload_n hx hb dX7_op_36 rfl (lv_at hl 1 rfl) ?_
  refine va_get (D := D) (ci := 6) (v := .ref o_fields) (C := RX7) (T := TX7) (N := 23) hx hb hts hi_X7 hown hK hP 0 rfl rfl 9 (by decide) lk31 (fun _ h9 => h9) rfl dX7_op_37 ?_
  refine lv_iload hx hb dX7_op_40 (lv_at hl 0 rfl) ?_
  refine lv_iconst (v := (0 : Int32)) hx hb dX7_op_42 (by decide) ?_
  refine va_iast hx hb hK hP hD hS 1 0 rfl rfl (qw_in0 (x := (3 : Int32)) (n := 13) (by decide) (by decide)) dX7_op_43 (fun H locs hP hD hS => ?_)
  have hP : va_P D vwCl [(o, .inr (6, [.int (0 : Int32), .int (115 : Int32), .ref o_ops, .ref o_sizes, .ref o_patterns, .ref o_leads, .ref o_codes, .ref o_tells, .ref o_numbers, .ref o_fields, .ref o_found, .long o_number, .long o_foundNumber, .ref o_bytes, .ref o_trial, .ref o_fed, .int o_length, .int o_tried, .int o_given, .int o_at, .int o_pfx, .int o_pfd, .int o_short0])), (o_fields, .inl (cI, 13, .inl (upd (upd (upd (upd o_fields_f ((0 : Int32)).toNatClampNeg p0) ((1 : Int32)).toNatClampNeg p1) ((2 : Int32)).toNatClampNeg p2) ((3 : Int32)).toNatClampNeg (0 : Int32))))] H := hP
  have hD : va_D A [(o, .inr (6, [.int (0 : Int32), .int (115 : Int32), .ref o_ops, .ref o_sizes, .ref o_patterns, .ref o_leads, .ref o_codes, .ref o_tells, .ref o_numbers, .ref o_fields, .ref o_found, .long o_number, .long o_foundNumber, .ref o_bytes, .ref o_trial, .ref o_fed, .int o_length, .int o_tried, .int o_given, .int o_at, .int o_pfx, .int o_pfd, .int o_short0])), (o_fields, .inl (cI, 13, .inl (upd (upd (upd (upd o_fields_f ((0 : Int32)).toNatClampNeg p0) ((1 : Int32)).toNatClampNeg p1) ((2 : Int32)).toNatClampNeg p2) ((3 : Int32)).toNatClampNeg (0 : Int32))))] := hD
  refine lv_iinc (v := (4 : Int32)) (lv' := [(4, .int (4 : Int32)), (0, .ref o), (1, .int p0), (2, .int p1), (3, .int p2)]) hx hb dX7_op_44 hl (k := 0) rfl (by first | rfl | decide) (by decide) rfl (fun ls hl => ?_)
  refine lv_goto (tgt := 29) hx hb dX7_op_47 (by decide) ?_
  refine lv_iload hx hb dX7_op_29 (lv_at hl 0 rfl) ?_
  refine lv_bipush (v := (9 : Int32)) hx hb dX7_op_31 (by decide) ?_
  refine lv_icmp_ge (tgt := 50) hx hb dX7_op_33 (by decide) (fun c9 => absurd c9 (by decide)) (fun _ => ?_)
  refine lv_aload_n hx hb dX7_op_36 rfl (lv_at hl 1 rfl) ?_
  refine va_get (D := D) (ci := 6) (v := .ref o_fields) (C := RX7) (T := TX7) (N := 23) hx hb hts hi_X7 hown hK hP 0 rfl rfl 9 (by decide) lk31 (fun _ h9 => h9) rfl dX7_op_37 ?_
  refine lv_iload hx hb dX7_op_40 (lv_at hl 0 rfl) ?_
  refine lv_iconst (v := (0 : Int32)) hx hb dX7_op_42 (by decide) ?_
  refine va_iast hx hb hK hP hD hS 1 0 rfl rfl (qw_in0 (x := (4 : Int32)) (n := 13) (by decide) (by decide)) dX7_op_43 (fun H locs hP hD hS => ?_)
  have hP : va_P D vwCl [(o, .inr (6, [.int (0 : Int32), .int (115 : Int32), .ref o_ops, .ref o_sizes, .ref o_patterns, .ref o_leads, .ref o_codes, .ref o_tells, .ref o_numbers, .ref o_fields, .ref o_found, .long o_number, .long o_foundNumber, .ref o_bytes, .ref o_trial, .ref o_fed, .int o_length, .int o_tried, .int o_given, .int o_at, .int o_pfx, .int o_pfd, .int o_short0])), (o_fields, .inl (cI, 13, .inl (upd (upd (upd (upd (upd o_fields_f ((0 : Int32)).toNatClampNeg p0) ((1 : Int32)).toNatClampNeg p1) ((2 : Int32)).toNatClampNeg p2) ((3 : Int32)).toNatClampNeg (0 : Int32)) ((4 : Int32)).toNatClampNeg (0 : Int32))))] H := hP
  have hD : va_D A [(o, .inr (6, [.int (0 : Int32), .int (115 : Int32), .ref o_ops, .ref o_sizes, .ref o_patterns, .ref o_leads, .ref o_codes, .ref o_tells, .ref o_numbers, .ref o_fields, .ref o_found, .long o_number, .long o_foundNumber, .ref o_bytes, .ref o_trial, .ref o_fed, .int o_length, .int o_tried, .int o_given, .int o_at, .int o_pfx, .int o_pfd, .int o_short0])), (o_fields, .inl (cI, 13, .inl (upd (upd (upd (upd (upd o_fields_f ((0 : Int32)).toNatClampNeg p0) ((1 : Int32)).toNatClampNeg p1) ((2 : Int32)).toNatClampNeg p2) ((3 : Int32)).toNatClampNeg (0 : Int32)) ((4 : Int32)).toNatClampNeg (0 : Int32))))] := hD
  refine lv_iinc (v := (5 : Int32)) (lv' := [(4, .int (5 : Int32)), (0, .ref o), (1, .int p0), (2, .int p1), (3, .int p2)]) hx hb dX7_op_44 hl (k := 0) rfl (by first | rfl | decide) (by decide) rfl (fun ls hl => ?_)
  refine lv_goto (tgt := 29) hx hb dX7_op_47 (by decide) ?_
  refine lv_iload hx hb dX7_op_29 (lv_at hl 0 rfl) ?_
  refine lv_bipush (v := (9 : Int32)) hx hb dX7_op_31 (by decide) ?_
  refine lv_icmp_ge (tgt := 50) hx hb dX7_op_33 (by decide) (fun c9 => absurd c9 (by decide)) (fun _ => ?_)
  refine lv_aload_n hx hb dX7_op_36 rfl (lv_at hl 1 rfl) ?_
  refine va_get (D := D) (ci := 6) (v := .ref o_fields) (C := RX7) (T := TX7) (N := 23) hx hb hts hi_X7 hown hK hP 0 rfl rfl 9 (by decide) lk31 (fun _ h9 => h9) rfl dX7_op_37 ?_
  refine lv_iload hx hb dX7_op_40 (lv_at hl 0 rfl) ?_
  refine lv_iconst (v := (0 : Int32)) hx hb dX7_op_42 (by decide) ?_
  refine va_iast hx hb hK hP hD hS 1 0 rfl rfl (qw_in0 (x := (5 : Int32)) (n := 13) (by decide) (by decide)) dX7_op_43 (fun H locs hP hD hS => ?_)
  have hP : va_P D vwCl [(o, .inr (6, [.int (0 : Int32), .int (115 : Int32), .ref o_ops, .ref o_sizes, .ref o_patterns, .ref o_leads, .ref o_codes, .ref o_tells, .ref o_numbers, .ref o_fields, .ref o_found, .long o_number, .long o_foundNumber, .ref o_bytes, .ref o_trial, .ref o_fed, .int o_length, .int o_tried, .int o_given, .int o_at, .int o_pfx, .int o_pfd, .int o_short0])), (o_fields, .inl (cI, 13, .inl (upd (upd (upd (upd (upd (upd o_fields_f ((0 : Int32)).toNatClampNeg p0) ((1 : Int32)).toNatClampNeg p1) ((2 : Int32)).toNatClampNeg p2) ((3 : Int32)).toNatClampNeg (0 : Int32)) ((4 : Int32)).toNatClampNeg (0 : Int32)) ((5 : Int32)).toNatClampNeg (0 : Int32))))] H := hP
  have hD : va_D A [(o, .inr (6, [.int (0 : Int32), .int (115 : Int32), .ref o_ops, .ref o_sizes, .ref o_patterns, .ref o_leads, .ref o_codes, .ref o_tells, .ref o_numbers, .ref o_fields, .ref o_found, .long o_number, .long o_foundNumber, .ref o_bytes, .ref o_trial, .ref o_fed, .int o_length, .int o_tried, .int o_given, .int o_at, .int o_pfx, .int o_pfd, .int o_short0])), (o_fields, .inl (cI, 13, .inl (upd (upd (upd (upd (upd (upd o_fields_f ((0 : Int32)).toNatClampNeg p0) ((1 : Int32)).toNatClampNeg p1) ((2 : Int32)).toNatClampNeg p2) ((3 : Int32)).toNatClampNeg (0 : Int32)) ((4 : Int32)).toNatClampNeg (0 : Int32)) ((5 : Int32)).toNatClampNeg (0 : Int32))))] := hD
  refine lv_iinc (v := (6 : Int32)) (lv' := [(4, .int (6 : Int32)), (0, .ref o), (1, .int p0), (2, .int p1), (3, .int p2)]) hx hb dX7_op_44 hl (k := 0) rfl (by first | rfl | decide) (by decide) rfl (fun ls hl => ?_)
  refine lv_goto (tgt := 29) hx hb dX7_op_47 (by decide) ?_
  refine lv_iload hx hb dX7_op_29 (lv_at hl 0 rfl) ?_
  refine lv_bipush (v := (9 : Int32)) hx hb dX7_op_31 (by decide) ?_
  refine lv_icmp_ge (tgt := 50) hx hb dX7_op_33 (by decide) (fun c9 => absurd c9 (by decide)) (fun _ => ?_)
  refine lv_aload_n hx hb dX7_op_36 rfl (lv_at hl 1 rfl) ?_
  refine va_get (D := D) (ci := 6) (v := .ref o_fields) (C := RX7) (T := TX7) (N := 23) hx hb hts hi_X7 hown hK hP 0 rfl rfl 9 (by decide) lk31 (fun _ h9 => h9) rfl dX7_op_37 ?_
  refine lv_iload hx hb dX7_op_40 (lv_at hl 0 rfl) ?_
  refine lv_iconst (v := (0 : Int32)) hx hb dX7_op_42 (by decide) ?_
  refine va_iast hx hb hK hP hD hS 1 0 rfl rfl (qw_in0 (x := (6 : Int32)) (n := 13) (by decide) (by decide)) dX7_op_43 (fun H locs hP hD hS => ?_)
  have hP : va_P D vwCl [(o, .inr (6, [.int (0 : Int32), .int (115 : Int32), .ref o_ops, .ref o_sizes, .ref o_patterns, .ref o_leads, .ref o_codes, .ref o_tells, .ref o_numbers, .ref o_fields, .ref o_found, .long o_number, .long o_foundNumber, .ref o_bytes, .ref o_trial, .ref o_fed, .int o_length, .int o_tried, .int o_given, .int o_at, .int o_pfx, .int o_pfd, .int o_short0])), (o_fields, .inl (cI, 13, .inl (upd (upd (upd (upd (upd (upd (upd o_fields_f ((0 : Int32)).toNatClampNeg p0) ((1 : Int32)).toNatClampNeg p1) ((2 : Int32)).toNatClampNeg p2) ((3 : Int32)).toNatClampNeg (0 : Int32)) ((4 : Int32)).toNatClampNeg (0 : Int32)) ((5 : Int32)).toNatClampNeg (0 : Int32)) ((6 : Int32)).toNatClampNeg (0 : Int32))))] H := hP
  have hD : va_D A [(o, .inr (6, [.int (0 : Int32), .int (115 : Int32), .ref o_ops, .ref o_sizes, .ref o_patterns, .ref o_leads, .ref o_codes, .ref o_tells, .ref o_numbers, .ref o_fields, .ref o_found, .long o_number, .long o_foundNumber, .ref o_bytes, .ref o_trial, .ref o_fed, .int o_length, .int o_tried, .int o_given, .int o_at, .int o_pfx, .int o_pfd, .int o_short0])), (o_fields, .inl (cI, 13, .inl (upd (upd (upd (upd (upd (upd (upd o_fields_f ((0 : Int32)).toNatClampNeg p0) ((1 : Int32)).toNatClampNeg p1) ((2 : Int32)).toNatClampNeg p2) ((3 : Int32)).toNatClampNeg (0 : Int32)) ((4 : Int32)).toNatClampNeg (0 : Int32)) ((5 : Int32)).toNatClampNeg (0 : Int32)) ((6 : Int32)).toNatClampNeg (0 : Int32))))] := hD
  refine lv_iinc (v := (7 : Int32)) (lv' := [(4, .int (7 : Int32)), (0, .ref o), (1, .int p0), (2, .int p1), (3, .int p2)]) hx hb dX7_op_44 hl (k := 0) rfl (by first | rfl | decide) (by decide) rfl (fun ls hl => ?_)
  refine lv_goto (tgt := 29) hx hb dX7_op_47 (by decide) ?_
  refine lv_iload hx hb dX7_op_29 (lv_at hl 0 rfl) ?_
  refine lv_bipush (v := (9 : Int32)) hx hb dX7_op_31 (by decide) ?_
  refine lv_icmp_ge (tgt := 50) hx hb dX7_op_33 (by decide) (fun c9 => absurd c9 (by decide)) (fun _ => ?_)
  refine lv_aload_n hx hb dX7_op_36 rfl (lv_at hl 1 rfl) ?_
  refine va_get (D := D) (ci := 6) (v := .ref o_fields) (C := RX7) (T := TX7) (N := 23) hx hb hts hi_X7 hown hK hP 0 rfl rfl 9 (by decide) lk31 (fun _ h9 => h9) rfl dX7_op_37 ?_
  refine lv_iload hx hb dX7_op_40 (lv_at hl 0 rfl) ?_
  refine lv_iconst (v := (0 : Int32)) hx hb dX7_op_42 (by decide) ?_
  refine va_iast hx hb hK hP hD hS 1 0 rfl rfl (qw_in0 (x := (7 : Int32)) (n := 13) (by decide) (by decide)) dX7_op_43 (fun H locs hP hD hS => ?_)
  have hP : va_P D vwCl [(o, .inr (6, [.int (0 : Int32), .int (115 : Int32), .ref o_ops, .ref o_sizes, .ref o_patterns, .ref o_leads, .ref o_codes, .ref o_tells, .ref o_numbers, .ref o_fields, .ref o_found, .long o_number, .long o_foundNumber, .ref o_bytes, .ref o_trial, .ref o_fed, .int o_length, .int o_tried, .int o_given, .int o_at, .int o_pfx, .int o_pfd, .int o_short0])), (o_fields, .inl (cI, 13, .inl (upd (upd (upd (upd (upd (upd (upd (upd o_fields_f ((0 : Int32)).toNatClampNeg p0) ((1 : Int32)).toNatClampNeg p1) ((2 : Int32)).toNatClampNeg p2) ((3 : Int32)).toNatClampNeg (0 : Int32)) ((4 : Int32)).toNatClampNeg (0 : Int32)) ((5 : Int32)).toNatClampNeg (0 : Int32)) ((6 : Int32)).toNatClampNeg (0 : Int32)) ((7 : Int32)).toNatClampNeg (0 : Int32))))] H := hP
  have hD : va_D A [(o, .inr (6, [.int (0 : Int32), .int (115 : Int32), .ref o_ops, .ref o_sizes, .ref o_patterns, .ref o_leads, .ref o_codes, .ref o_tells, .ref o_numbers, .ref o_fields, .ref o_found, .long o_number, .long o_foundNumber, .ref o_bytes, .ref o_trial, .ref o_fed, .int o_length, .int o_tried, .int o_given, .int o_at, .int o_pfx, .int o_pfd, .int o_short0])), (o_fields, .inl (cI, 13, .inl (upd (upd (upd (upd (upd (upd (upd (upd o_fields_f ((0 : Int32)).toNatClampNeg p0) ((1 : Int32)).toNatClampNeg p1) ((2 : Int32)).toNatClampNeg p2) ((3 : Int32)).toNatClampNeg (0 : Int32)) ((4 : Int32)).toNatClampNeg (0 : Int32)) ((5 : Int32)).toNatClampNeg (0 : Int32)) ((6 : Int32)).toNatClampNeg (0 : Int32)) ((7 : Int32)).toNatClampNeg (0 : Int32))))] := hD
  refine lv_iinc (v := (8 : Int32)) (lv' := [(4, .int (8 : Int32)), (0, .ref o), (1, .int p0), (2, .int p1), (3, .int p2)]) hx hb dX7_op_44 hl (k := 0) rfl (by first | rfl | decide) (by decide) rfl (fun ls hl => ?_)
  refine lv_goto (tgt := 29) hx hb dX7_op_47 (by decide) ?_
  refine lv_iload hx hb dX7_op_29 (lv_at hl 0 rfl) ?_
  refine lv_bipush (v := (9 : Int32)) hx hb dX7_op_31 (by decide) ?_
  refine lv_icmp_ge (tgt := 50) hx hb dX7_op_33 (by decide) (fun c9 => absurd c9 (by decide)) (fun _ => ?_)
  refine lv_aload_n hx hb dX7_op_36 rfl (lv_at hl 1 rfl) ?_
  refine va_get (D := D) (ci := 6) (v := .ref o_fields) (C := RX7) (T := TX7) (N := 23) hx hb hts hi_X7 hown hK hP 0 rfl rfl 9 (by decide) lk31 (fun _ h9 => h9) rfl dX7_op_37 ?_
  refine lv_iload hx hb dX7_op_40 (lv_at hl 0 rfl) ?_
  refine lv_iconst (v := (0 : Int32)) hx hb dX7_op_42 (by decide) ?_
  refine va_iast hx hb hK hP hD hS 1 0 rfl rfl (qw_in0 (x := (8 : Int32)) (n := 13) (by decide) (by decide)) dX7_op_43 (fun H locs hP hD hS => ?_)
  have hP : va_P D vwCl [(o, .inr (6, [.int (0 : Int32), .int (115 : Int32), .ref o_ops, .ref o_sizes, .ref o_patterns, .ref o_leads, .ref o_codes, .ref o_tells, .ref o_numbers, .ref o_fields, .ref o_found, .long o_number, .long o_foundNumber, .ref o_bytes, .ref o_trial, .ref o_fed, .int o_length, .int o_tried, .int o_given, .int o_at, .int o_pfx, .int o_pfd, .int o_short0])), (o_fields, .inl (cI, 13, .inl (upd (upd (upd (upd (upd (upd (upd (upd (upd o_fields_f ((0 : Int32)).toNatClampNeg p0) ((1 : Int32)).toNatClampNeg p1) ((2 : Int32)).toNatClampNeg p2) ((3 : Int32)).toNatClampNeg (0 : Int32)) ((4 : Int32)).toNatClampNeg (0 : Int32)) ((5 : Int32)).toNatClampNeg (0 : Int32)) ((6 : Int32)).toNatClampNeg (0 : Int32)) ((7 : Int32)).toNatClampNeg (0 : Int32)) ((8 : Int32)).toNatClampNeg (0 : Int32))))] H := hP
  have hD : va_D A [(o, .inr (6, [.int (0 : Int32), .int (115 : Int32), .ref o_ops, .ref o_sizes, .ref o_patterns, .ref o_leads, .ref o_codes, .ref o_tells, .ref o_numbers, .ref o_fields, .ref o_found, .long o_number, .long o_foundNumber, .ref o_bytes, .ref o_trial, .ref o_fed, .int o_length, .int o_tried, .int o_given, .int o_at, .int o_pfx, .int o_pfd, .int o_short0])), (o_fields, .inl (cI, 13, .inl (upd (upd (upd (upd (upd (upd (upd (upd (upd o_fields_f ((0 : Int32)).toNatClampNeg p0) ((1 : Int32)).toNatClampNeg p1) ((2 : Int32)).toNatClampNeg p2) ((3 : Int32)).toNatClampNeg (0 : Int32)) ((4 : Int32)).toNatClampNeg (0 : Int32)) ((5 : Int32)).toNatClampNeg (0 : Int32)) ((6 : Int32)).toNatClampNeg (0 : Int32)) ((7 : Int32)).toNatClampNeg (0 : Int32)) ((8 : Int32)).toNatClampNeg (0 : Int32))))] := hD
  refine lv_iinc (v := (9 : Int32)) (lv' := [(4, .int (9 : Int32)), (0, .ref o), (1, .int p0), (2, .int p1), (3, .int p2)]) hx hb dX7_op_44 hl (k := 0) rfl (by first | rfl | decide) (by decide) rfl (fun ls hl => ?_)
  refine lv_goto (tgt := 29) hx hb dX7_op_47 (by decide) ?_
  refine lv_iload hx hb dX7_op_29 (lv_at hl 0 rfl) ?_
  refine lv_bipush (v := (9 : Int32)) hx hb dX7_op_31 (by decide) ?_
  refine lv_icmp_ge (tgt := 50) hx hb dX7_op_33 (by decide) (fun _ => ?_) (fun c9 => absurd c9 (by decide))
  cases E
  rw [hZ]
  exact qw_vret hx hb hr hlk hP hD hS dX7_op_50
def f_X7_operand_J8 (o_fields_f : (Nat → Int32)) (p0 : Int32) (p1 : Int32) (p2 : Int32) (x7 : Int32) : Int32 × Int32 × (Nat → Int32) := (if p2 ≤ x7 then (((1 : Int32), (0 : Int32), (upd (upd o_fields_f (((3 : Int32) + ((2 : Int32) * p0))).toNatClampNeg p1) (((4 : Int32) + ((2 : Int32) * p0))).toNatClampNeg p2))) else (((0 : Int32), (0 : Int32), o_fields_f)))
def f_X7_operand (o_fields_f : (Nat → Int32)) (p0 : Int32) (p1 : Int32) (p2 : Int32) : Int32 × Int32 × (Nat → Int32) := (if p0 < 0 then (((0 : Int32), (0 : Int32), o_fields_f)) else (if (2 : Int32) < p0 then (((0 : Int32), (0 : Int32), o_fields_f)) else (if p1 < 0 then (((0 : Int32), (0 : Int32), o_fields_f)) else (if (3 : Int32) < p1 then (((0 : Int32), (0 : Int32), o_fields_f)) else (if p2 < 0 then (((0 : Int32), (0 : Int32), o_fields_f)) else ((if p1 = (1 : Int32) then (f_X7_operand_J8 o_fields_f p0 p1 p2 (15 : Int32)) else (f_X7_operand_J8 o_fields_f p0 p1 p2 (0 : Int32)))))))))
set_option maxHeartbeats 4000000 in
set_option maxRecDepth 100000 in
theorem c_X7_operand (l : Launch) (D : va_G) (cI : ClassId) (tT : Nat) (o : Nat) (o_ops : Nat) (o_sizes : Nat) (o_patterns : Nat) (o_leads : Nat) (o_codes : Nat) (o_tells : Nat) (o_numbers : Nat) (o_fields : Nat) (o_found : Nat) (o_bytes : Nat) (o_trial : Nat) (o_fed : Nat) (o_thrown : Int32) (o_number : Int64) (o_foundNumber : Int64) (o_length : Int32) (o_tried : Int32) (o_given : Int32) (o_at : Int32) (o_pfx : Int32) (o_pfd : Int32) (o_short0 : Int32) (o_fields_f : (Nat → Int32)) (p0 : Int32) (p1 : Int32) (p2 : Int32) (r_o : Int32) (o_thrown_o : Int32) (o_fields_f_o : (Nat → Int32)) (hq : f_X7_operand o_fields_f p0 p1 p2 = (r_o, o_thrown_o, o_fields_f_o)) : qM l yX7_operand wsX7_operand (qr 0 0) (qX tT) D vwCl [(cI, .int)] [(o, .inr (6, [.int o_thrown, .int (115 : Int32), .ref o_ops, .ref o_sizes, .ref o_patterns, .ref o_leads, .ref o_codes, .ref o_tells, .ref o_numbers, .ref o_fields, .ref o_found, .long o_number, .long o_foundNumber, .ref o_bytes, .ref o_trial, .ref o_fed, .int o_length, .int o_tried, .int o_given, .int o_at, .int o_pfx, .int o_pfd, .int o_short0])), (o_fields, .inl (cI, 13, .inl o_fields_f))] [.ref o, .int p0, .int p1, .int p2] (some (.int r_o)) [(o, .inr (6, [.int o_thrown_o, .int (115 : Int32), .ref o_ops, .ref o_sizes, .ref o_patterns, .ref o_leads, .ref o_codes, .ref o_tells, .ref o_numbers, .ref o_fields, .ref o_found, .long o_number, .long o_foundNumber, .ref o_bytes, .ref o_trial, .ref o_fed, .int o_length, .int o_tried, .int o_given, .int o_at, .int o_pfx, .int o_pfd, .int o_short0])), (o_fields, .inl (cI, 13, .inl o_fields_f_o))] := by
  refine qM_of (cc := cX7_operand) (maxL := 4) (ret := (some .boolean)) (by decide) rfl (Nat.le_of_ble_eq_true rfl) ?_
  intro p e s m args below meth c A ls Z hx hb hml hr hts hown hlk hK hA hXs hP hD hS hl hZ
  have hown : s.vm.findClass RX7 = some m.cls := hown
  have hl : lv_has ls 4 [(0, .ref o), (1, .int p0), (2, .int p1), (3, .int p2)] := hl
  have hi_X7 : ∀ w ∈ wsX70, w ∈ wsX7_operand := by decide +kernel
  have lk31 := hts (.fieldLink RX7 31 "InstructionCoderModel" "fields" "[I") (by decide +kernel)
  have lk57 := hts (.fieldLink RX7 57 "InstructionCoderModel" "thrown" "I") (by decide +kernel)
  have E := hq
  rw [f_X7_operand] at E
  refine lv_aload_n hx hb dX7_operand_0 rfl (lv_at hl 0 rfl) ?_
  refine lv_iconst (v := (0 : Int32)) hx hb dX7_operand_1 (by decide) ?_
  refine va_put (D := D) (ci := 6) (v := .int (0 : Int32)) (ty := .int) (C := RX7) (T := TX7) (N := 23) hx hb hts hi_X7 tyX7 tyX7_ok nmX7 hown hK hP hD hS 0 rfl rfl 0 (by decide) lk57 (fun _ h9 => h9) rfl (by decide +kernel) rfl rfl (Nat.le_of_ble_eq_true rfl) dX7_operand_2 (fun H locs hP hD hS => ?_)
  have hP : va_P D vwCl [(o, .inr (6, [.int (0 : Int32), .int (115 : Int32), .ref o_ops, .ref o_sizes, .ref o_patterns, .ref o_leads, .ref o_codes, .ref o_tells, .ref o_numbers, .ref o_fields, .ref o_found, .long o_number, .long o_foundNumber, .ref o_bytes, .ref o_trial, .ref o_fed, .int o_length, .int o_tried, .int o_given, .int o_at, .int o_pfx, .int o_pfd, .int o_short0])), (o_fields, .inl (cI, 13, .inl o_fields_f))] H := hP
  have hD : va_D A [(o, .inr (6, [.int (0 : Int32), .int (115 : Int32), .ref o_ops, .ref o_sizes, .ref o_patterns, .ref o_leads, .ref o_codes, .ref o_tells, .ref o_numbers, .ref o_fields, .ref o_found, .long o_number, .long o_foundNumber, .ref o_bytes, .ref o_trial, .ref o_fed, .int o_length, .int o_tried, .int o_given, .int o_at, .int o_pfx, .int o_pfd, .int o_short0])), (o_fields, .inl (cI, 13, .inl o_fields_f))] := hD
  refine lv_iload_n hx hb dX7_operand_5 rfl (lv_at hl 1 rfl) ?_
  refine lv_if_lt (tgt := 42) hx hb dX7_operand_6 (by decide) (fun c1 => ?_) (fun c1 => ?_)
  · rw [if_pos c1] at E
    refine lv_iconst (v := (0 : Int32)) hx hb dX7_operand_42 (by decide) ?_
    cases E
    rw [hZ]
    exact qw_zret hx hb hr hlk (Or.inl rfl) hP hD hS dX7_operand_43
  · rw [if_neg c1] at E
    refine lv_iload_n hx hb dX7_operand_9 rfl (lv_at hl 1 rfl) ?_
    refine lv_iconst (v := (2 : Int32)) hx hb dX7_operand_10 (by decide) ?_
    refine lv_icmp_gt (tgt := 42) hx hb dX7_operand_11 (by decide) (fun c2 => ?_) (fun c2 => ?_)
    · rw [if_pos c2] at E
      refine lv_iconst (v := (0 : Int32)) hx hb dX7_operand_42 (by decide) ?_
      cases E
      rw [hZ]
      exact qw_zret hx hb hr hlk (Or.inl rfl) hP hD hS dX7_operand_43
    · rw [if_neg c2] at E
      refine lv_iload_n hx hb dX7_operand_14 rfl (lv_at hl 2 rfl) ?_
      refine lv_if_lt (tgt := 42) hx hb dX7_operand_15 (by decide) (fun c3 => ?_) (fun c3 => ?_)
      · rw [if_pos c3] at E
        refine lv_iconst (v := (0 : Int32)) hx hb dX7_operand_42 (by decide) ?_
        cases E
        rw [hZ]
        exact qw_zret hx hb hr hlk (Or.inl rfl) hP hD hS dX7_operand_43
      · rw [if_neg c3] at E
        refine lv_iload_n hx hb dX7_operand_18 rfl (lv_at hl 2 rfl) ?_
        refine lv_iconst (v := (3 : Int32)) hx hb dX7_operand_19 (by decide) ?_
        refine lv_icmp_gt (tgt := 42) hx hb dX7_operand_20 (by decide) (fun c4 => ?_) (fun c4 => ?_)
        · rw [if_pos c4] at E
          refine lv_iconst (v := (0 : Int32)) hx hb dX7_operand_42 (by decide) ?_
          cases E
          rw [hZ]
          exact qw_zret hx hb hr hlk (Or.inl rfl) hP hD hS dX7_operand_43
        · rw [if_neg c4] at E
          refine lv_iload_n hx hb dX7_operand_23 rfl (lv_at hl 3 rfl) ?_
          refine lv_if_lt (tgt := 42) hx hb dX7_operand_24 (by decide) (fun c5 => ?_) (fun c5 => ?_)
          · rw [if_pos c5] at E
            refine lv_iconst (v := (0 : Int32)) hx hb dX7_operand_42 (by decide) ?_
            cases E
            rw [hZ]
            exact qw_zret hx hb hr hlk (Or.inl rfl) hP hD hS dX7_operand_43
          · rw [if_neg c5] at E
            refine lv_iload_n hx hb dX7_operand_27 rfl (lv_at hl 3 rfl) ?_
            refine lv_iload_n hx hb dX7_operand_28 rfl (lv_at hl 2 rfl) ?_
            refine lv_iconst (v := (1 : Int32)) hx hb dX7_operand_29 (by decide) ?_
            have J8 : ∀ (x7 : Int32) (hv_x7 : qv (0) (15) x7) (ls : Array Slot) (H : Heap) (locs : List Loc), f_X7_operand_J8 o_fields_f p0 p1 p2 x7 = (r_o, o_thrown_o, o_fields_f_o) → lv_has ls 4 [(0, .ref o), (1, .int p0), (2, .int p1), (3, .int p2)] → va_P D vwCl [(o, .inr (6, [.int (0 : Int32), .int (115 : Int32), .ref o_ops, .ref o_sizes, .ref o_patterns, .ref o_leads, .ref o_codes, .ref o_tells, .ref o_numbers, .ref o_fields, .ref o_found, .long o_number, .long o_foundNumber, .ref o_bytes, .ref o_trial, .ref o_fed, .int o_length, .int o_tried, .int o_given, .int o_at, .int o_pfx, .int o_pfd, .int o_short0])), (o_fields, .inl (cI, 13, .inl o_fields_f))] H → va_D A [(o, .inr (6, [.int (0 : Int32), .int (115 : Int32), .ref o_ops, .ref o_sizes, .ref o_patterns, .ref o_leads, .ref o_codes, .ref o_tells, .ref o_numbers, .ref o_fields, .ref o_found, .long o_number, .long o_foundNumber, .ref o_bytes, .ref o_trial, .ref o_fed, .int o_length, .int o_tried, .int o_given, .int o_at, .int o_pfx, .int o_pfd, .int o_short0])), (o_fields, .inl (cI, 13, .inl o_fields_f))] → va_S A s.heap H locs → W p l e (qr 0 0) s m args below meth c H locs 0 0 Z (F0 m 39 ls [.int x7, .int p2]) := by
              intro x7 hv_x7 ls H locs E hl hP hD hS
              rw [f_X7_operand_J8] at E
              refine lv_icmp_le (tgt := 44) hx hb dX7_operand_39 (by decide) (fun c9 => ?_) (fun c9 => ?_)
              · rw [if_pos c9] at E
                refine lv_aload_n hx hb dX7_operand_44 rfl (lv_at hl 0 rfl) ?_
                refine va_get (D := D) (ci := 6) (v := .ref o_fields) (C := RX7) (T := TX7) (N := 23) hx hb hts hi_X7 hown hK hP 0 rfl rfl 9 (by decide) lk31 (fun _ h9 => h9) rfl dX7_operand_45 ?_
                refine lv_iconst (v := (3 : Int32)) hx hb dX7_operand_48 (by decide) ?_
                refine lv_iconst (v := (2 : Int32)) hx hb dX7_operand_49 (by decide) ?_
                refine lv_iload_n hx hb dX7_operand_50 rfl (lv_at hl 1 rfl) ?_
                refine lv_imul hx hb dX7_operand_51 ?_
                refine lv_iadd hx hb dX7_operand_52 ?_
                refine lv_iload_n hx hb dX7_operand_53 rfl (lv_at hl 2 rfl) ?_
                refine va_iast hx hb hK hP hD hS 1 0 rfl rfl (qv_in (qv_add (⟨by decide, by decide⟩ : qv (3) (3) (3 : Int32)) (qv_mul (k := 2) (⟨(qv_l1 c1 (qv_lb (⟨by decide, by decide⟩ : qv (0) (0) (0 : Int32)) (by decide))), (qv_h3 c2 (qv_ub (⟨by decide, by decide⟩ : qv (2) (2) (2 : Int32)) (by decide)))⟩ : qv (0) (2) p0) (by decide) (by decide) (by decide) (by decide) (by decide) : qv (0) (4) ((2 : Int32) * p0)) (by decide) (by decide) (by decide) (by decide) : qv (3) (7) ((3 : Int32) + ((2 : Int32) * p0))) (by decide) (by decide)) dX7_operand_54 (fun H locs hP hD hS => ?_)
                have hP : va_P D vwCl [(o, .inr (6, [.int (0 : Int32), .int (115 : Int32), .ref o_ops, .ref o_sizes, .ref o_patterns, .ref o_leads, .ref o_codes, .ref o_tells, .ref o_numbers, .ref o_fields, .ref o_found, .long o_number, .long o_foundNumber, .ref o_bytes, .ref o_trial, .ref o_fed, .int o_length, .int o_tried, .int o_given, .int o_at, .int o_pfx, .int o_pfd, .int o_short0])), (o_fields, .inl (cI, 13, .inl (upd o_fields_f (((3 : Int32) + ((2 : Int32) * p0))).toNatClampNeg p1)))] H := hP
                have hD : va_D A [(o, .inr (6, [.int (0 : Int32), .int (115 : Int32), .ref o_ops, .ref o_sizes, .ref o_patterns, .ref o_leads, .ref o_codes, .ref o_tells, .ref o_numbers, .ref o_fields, .ref o_found, .long o_number, .long o_foundNumber, .ref o_bytes, .ref o_trial, .ref o_fed, .int o_length, .int o_tried, .int o_given, .int o_at, .int o_pfx, .int o_pfd, .int o_short0])), (o_fields, .inl (cI, 13, .inl (upd o_fields_f (((3 : Int32) + ((2 : Int32) * p0))).toNatClampNeg p1)))] := hD
                refine lv_aload_n hx hb dX7_operand_55 rfl (lv_at hl 0 rfl) ?_
                refine va_get (D := D) (ci := 6) (v := .ref o_fields) (C := RX7) (T := TX7) (N := 23) hx hb hts hi_X7 hown hK hP 0 rfl rfl 9 (by decide) lk31 (fun _ h9 => h9) rfl dX7_operand_56 ?_
                refine lv_iconst (v := (4 : Int32)) hx hb dX7_operand_59 (by decide) ?_
                refine lv_iconst (v := (2 : Int32)) hx hb dX7_operand_60 (by decide) ?_
                refine lv_iload_n hx hb dX7_operand_61 rfl (lv_at hl 1 rfl) ?_
                refine lv_imul hx hb dX7_operand_62 ?_
                refine lv_iadd hx hb dX7_operand_63 ?_
                refine lv_iload_n hx hb dX7_operand_64 rfl (lv_at hl 3 rfl) ?_
                refine va_iast hx hb hK hP hD hS 1 0 rfl rfl (qv_in (qv_add (⟨by decide, by decide⟩ : qv (4) (4) (4 : Int32)) (qv_mul (k := 2) (⟨(qv_l1 c1 (qv_lb (⟨by decide, by decide⟩ : qv (0) (0) (0 : Int32)) (by decide))), (qv_h3 c2 (qv_ub (⟨by decide, by decide⟩ : qv (2) (2) (2 : Int32)) (by decide)))⟩ : qv (0) (2) p0) (by decide) (by decide) (by decide) (by decide) (by decide) : qv (0) (4) ((2 : Int32) * p0)) (by decide) (by decide) (by decide) (by decide) : qv (4) (8) ((4 : Int32) + ((2 : Int32) * p0))) (by decide) (by decide)) dX7_operand_65 (fun H locs hP hD hS => ?_)
                have hP : va_P D vwCl [(o, .inr (6, [.int (0 : Int32), .int (115 : Int32), .ref o_ops, .ref o_sizes, .ref o_patterns, .ref o_leads, .ref o_codes, .ref o_tells, .ref o_numbers, .ref o_fields, .ref o_found, .long o_number, .long o_foundNumber, .ref o_bytes, .ref o_trial, .ref o_fed, .int o_length, .int o_tried, .int o_given, .int o_at, .int o_pfx, .int o_pfd, .int o_short0])), (o_fields, .inl (cI, 13, .inl (upd (upd o_fields_f (((3 : Int32) + ((2 : Int32) * p0))).toNatClampNeg p1) (((4 : Int32) + ((2 : Int32) * p0))).toNatClampNeg p2)))] H := hP
                have hD : va_D A [(o, .inr (6, [.int (0 : Int32), .int (115 : Int32), .ref o_ops, .ref o_sizes, .ref o_patterns, .ref o_leads, .ref o_codes, .ref o_tells, .ref o_numbers, .ref o_fields, .ref o_found, .long o_number, .long o_foundNumber, .ref o_bytes, .ref o_trial, .ref o_fed, .int o_length, .int o_tried, .int o_given, .int o_at, .int o_pfx, .int o_pfd, .int o_short0])), (o_fields, .inl (cI, 13, .inl (upd (upd o_fields_f (((3 : Int32) + ((2 : Int32) * p0))).toNatClampNeg p1) (((4 : Int32) + ((2 : Int32) * p0))).toNatClampNeg p2)))] := hD
                refine lv_iconst (v := (1 : Int32)) hx hb dX7_operand_66 (by decide) ?_
                cases E
                rw [hZ]
                exact qw_zret hx hb hr hlk (Or.inr rfl) hP hD hS dX7_operand_67
              · rw [if_neg c9] at E
                refine lv_iconst (v := (0 : Int32)) hx hb dX7_operand_42 (by decide) ?_
                cases E
                rw [hZ]
                exact qw_zret hx hb hr hlk (Or.inl rfl) hP hD hS dX7_operand_43
            refine lv_icmp_ne (tgt := 38) hx hb dX7_operand_30 (by decide) (fun c6 => ?_) (fun c6 => ?_)
            · rw [if_neg c6] at E
              refine lv_iconst (v := (0 : Int32)) hx hb dX7_operand_38 (by decide) ?_
              exact J8 (0 : Int32) (qv_w (⟨by decide, by decide⟩ : qv (0) (0) (0 : Int32)) (by decide) (by decide)) ls _ _ E (lv_sub hl [0, 1, 2, 3] rfl) hP hD hS
            · rw [if_pos c6] at E
              refine lv_bipush (v := (15 : Int32)) hx hb dX7_operand_33 (by decide) ?_
              refine lv_goto (tgt := 39) hx hb dX7_operand_35 (by decide) ?_
              exact J8 (15 : Int32) (qv_w (⟨by decide, by decide⟩ : qv (15) (15) (15 : Int32)) (by decide) (by decide)) ls _ _ E (lv_sub hl [0, 1, 2, 3] rfl) hP hD hS
def f_X7_suits_J11 (x10 : Int32) : Int32 := (x10)
def f_X7_suits_J15 (x14 : Int32) : Int32 := (x14)
def f_X7_suits_J19 (x18 : Int32) : Int32 := (x18)
def f_X7_suits_J23 (x22 : Int32) : Int32 := (x22)
def f_X7_suits_J26 (x25 : Int32) : Int32 := (x25)
def f_X7_suits_J29 (x28 : Int32) : Int32 := (x28)
def f_X7_suits_J33 (x32 : Int32) : Int32 := (x32)
def f_X7_suits_J37 (x36 : Int32) : Int32 := (x36)
def f_X7_suits_J40 (x39 : Int32) : Int32 := (x39)
def f_X7_suits (o_number : Int64) (o_fields_f : (Nat → Int32)) (p0 : Int32) (p1 : Int32) (p2 : Int32) (p3 : Int32) : Int32 := (if (f_X7_place (rPats (p0).toNatClampNeg) p1) = (1 : Int32) then ((if p2 = (1 : Int32) then (f_X7_suits_J11 (1 : Int32)) else (f_X7_suits_J11 (0 : Int32)))) else (if (f_X7_place (rPats (p0).toNatClampNeg) p1) = (2 : Int32) then ((if p2 = (1 : Int32) then (f_X7_suits_J15 (1 : Int32)) else (if p2 = (2 : Int32) then (f_X7_suits_J15 (1 : Int32)) else (f_X7_suits_J15 (0 : Int32))))) else (if (f_X7_place (rPats (p0).toNatClampNeg) p1) = (3 : Int32) then ((if p2 = (3 : Int32) then (if (f_X7_holds (rNums (p0).toNatClampNeg) (o_fields_f ((1 : Int32)).toNatClampNeg) o_number) = 0 then (f_X7_suits_J19 (0 : Int32)) else (f_X7_suits_J19 (1 : Int32))) else (f_X7_suits_J19 (0 : Int32)))) else (if (f_X7_place (rPats (p0).toNatClampNeg) p1) = (4 : Int32) then ((if p2 = (1 : Int32) then (if p3 = 0 then (f_X7_suits_J23 (1 : Int32)) else (f_X7_suits_J23 (0 : Int32))) else (f_X7_suits_J23 (0 : Int32)))) else (if (f_X7_place (rPats (p0).toNatClampNeg) p1) = (5 : Int32) then ((if p2 = (1 : Int32) then (f_X7_suits_J26 (1 : Int32)) else (f_X7_suits_J26 (0 : Int32)))) else (if (f_X7_place (rPats (p0).toNatClampNeg) p1) = (6 : Int32) then ((if p2 = (2 : Int32) then (f_X7_suits_J29 (1 : Int32)) else (f_X7_suits_J29 (0 : Int32)))) else (if (f_X7_place (rPats (p0).toNatClampNeg) p1) = (7 : Int32) then ((if p2 = (3 : Int32) then (if (lg_cmp o_number (1 : Int64)) = 0 then (f_X7_suits_J33 (1 : Int32)) else (f_X7_suits_J33 (0 : Int32))) else (f_X7_suits_J33 (0 : Int32)))) else (if (f_X7_place (rPats (p0).toNatClampNeg) p1) = (8 : Int32) then ((if p2 = (1 : Int32) then (if p3 = (1 : Int32) then (f_X7_suits_J37 (1 : Int32)) else (f_X7_suits_J37 (0 : Int32))) else (f_X7_suits_J37 (0 : Int32)))) else ((if p2 = 0 then (f_X7_suits_J40 (1 : Int32)) else (f_X7_suits_J40 (0 : Int32))))))))))))
set_option maxHeartbeats 4000000 in
set_option maxRecDepth 100000 in
theorem c_X7_suits (l : Launch) (D : va_G) (cI : ClassId) (tT : Nat) (o : Nat) (o_ops : Nat) (o_sizes : Nat) (o_patterns : Nat) (o_leads : Nat) (o_codes : Nat) (o_tells : Nat) (o_numbers : Nat) (o_fields : Nat) (o_found : Nat) (o_bytes : Nat) (o_trial : Nat) (o_fed : Nat) (o_thrown : Int32) (o_number : Int64) (o_foundNumber : Int64) (o_length : Int32) (o_tried : Int32) (o_given : Int32) (o_at : Int32) (o_pfx : Int32) (o_pfd : Int32) (o_short0 : Int32) (o_fields_f : (Nat → Int32)) (p0 : Int32) (p1 : Int32) (p2 : Int32) (p3 : Int32) (hv_p0 : qv (0) (114) p0) (r_o : Int32) (hq : f_X7_suits o_number o_fields_f p0 p1 p2 p3 = r_o) : qM l yX7_suits wsX7_suits (qr 2 45) (qX tT) D vwCl [(cI, .int)] [(o, .inr (6, [.int o_thrown, .int (115 : Int32), .ref o_ops, .ref o_sizes, .ref o_patterns, .ref o_leads, .ref o_codes, .ref o_tells, .ref o_numbers, .ref o_fields, .ref o_found, .long o_number, .long o_foundNumber, .ref o_bytes, .ref o_trial, .ref o_fed, .int o_length, .int o_tried, .int o_given, .int o_at, .int o_pfx, .int o_pfd, .int o_short0])), (o_patterns, .inl (cI, 160, .inl rPats)), (o_numbers, .inl (cI, 160, .inl rNums)), (o_fields, .inl (cI, 13, .inl o_fields_f))] [.ref o, .int p0, .int p1, .int p2, .int p3] (some (.int r_o)) [(o, .inr (6, [.int o_thrown, .int (115 : Int32), .ref o_ops, .ref o_sizes, .ref o_patterns, .ref o_leads, .ref o_codes, .ref o_tells, .ref o_numbers, .ref o_fields, .ref o_found, .long o_number, .long o_foundNumber, .ref o_bytes, .ref o_trial, .ref o_fed, .int o_length, .int o_tried, .int o_given, .int o_at, .int o_pfx, .int o_pfd, .int o_short0])), (o_patterns, .inl (cI, 160, .inl rPats)), (o_numbers, .inl (cI, 160, .inl rNums)), (o_fields, .inl (cI, 13, .inl o_fields_f))] := by
  refine qM_of (cc := cX7_suits) (maxL := 6) (ret := (some .boolean)) (by decide) rfl (Nat.le_of_ble_eq_true rfl) ?_
  intro p e s m args below meth c A ls Z hx hb hml hr hts hown hlk hK hA hXs hP hD hS hl hZ
  have hown : s.vm.findClass RX7 = some m.cls := hown
  have hl : lv_has ls 6 [(0, .ref o), (1, .int p0), (2, .int p1), (3, .int p2), (4, .int p3)] := hl
  have hi_X7 : ∀ w ∈ wsX70, w ∈ wsX7_suits := by decide +kernel
  have lk16 := hts (.fieldLink RX7 16 "InstructionCoderModel" "patterns" "[I") (by decide +kernel)
  have lk28 := hts (.fieldLink RX7 28 "InstructionCoderModel" "numbers" "[I") (by decide +kernel)
  have lk31 := hts (.fieldLink RX7 31 "InstructionCoderModel" "fields" "[I") (by decide +kernel)
  have lk60 := hts (.fieldLink RX7 60 "InstructionCoderModel" "number" "J") (by decide +kernel)
  have hXg := qX_ok tT
  have E := hq
  rw [f_X7_suits] at E
  refine lv_aload_n hx hb dX7_suits_0 rfl (lv_at hl 0 rfl) ?_
  refine va_get (D := D) (ci := 6) (v := .ref o_patterns) (C := RX7) (T := TX7) (N := 23) hx hb hts hi_X7 hown hK hP 0 rfl rfl 4 (by decide) lk16 (fun _ h9 => h9) rfl dX7_suits_1 ?_
  refine lv_iload_n hx hb dX7_suits_4 rfl (lv_at hl 1 rfl) ?_
  refine va_iald hx hb hK hP 1 0 rfl rfl (qv_in (⟨hv_p0.1, hv_p0.2⟩ : qv (0) (114) p0) (by decide) (by decide)) dX7_suits_5 ?_
  refine lv_iload_n hx hb dX7_suits_6 rfl (lv_at hl 2 rfl) ?_
  refine qw_callS (As := [.int (rPats (p0).toNatClampNeg), .int p1]) (rest := []) (ws' := [(o, .inr (6, [.int o_thrown, .int (115 : Int32), .ref o_ops, .ref o_sizes, .ref o_patterns, .ref o_leads, .ref o_codes, .ref o_tells, .ref o_numbers, .ref o_fields, .ref o_found, .long o_number, .long o_foundNumber, .ref o_bytes, .ref o_trial, .ref o_fed, .int o_length, .int o_tried, .int o_given, .int o_at, .int o_pfx, .int o_pfd, .int o_short0])), (o_patterns, .inl (cI, 160, .inl rPats)), (o_numbers, .inl (cI, 160, .inl rNums)), (o_fields, .inl (cI, 13, .inl o_fields_f))]) (st1 := [.int (f_X7_place (rPats (p0).toNatClampNeg) p1)]) ⟨hx, hb, hml, hown, hts⟩ (c_X7_place l D cI tT (rPats (p0).toNatClampNeg) p1 (f_X7_place (rPats (p0).toNatClampNeg) p1) rfl) (va_cwS 2 hts gX7_suits_X7_place rfl rfl rfl (by decide +kernel) ⟨Nat.le_of_ble_eq_true rfl, Nat.le_of_ble_eq_true rfl⟩) hXg hK hP hD hS hA hXs [] rfl rfl  rfl rfl rfl hl.1 rfl (Nat.le_of_ble_eq_true rfl) rfl ⟨Nat.zero_le _, Nat.zero_le _⟩ dX7_suits_7 (fun H locs hP hD hS => ?_)
  refine lv_istore (lv' := [(5, .int (f_X7_place (rPats (p0).toNatClampNeg) p1)), (0, .ref o), (1, .int p0), (2, .int p1), (3, .int p2), (4, .int p3)]) hx hb dX7_suits_10 hl (by decide) rfl (fun ls hl => ?_)
  refine lv_iload hx hb dX7_suits_12 (lv_at hl 0 rfl) ?_
  by_cases c1 : (f_X7_place (rPats (p0).toNatClampNeg) p1) = (1 : Int32)
  · rw [if_pos c1] at E
    refine lv_tableIn (off := (46 : Int)) (tgt := 60) hx hb dX7_suits_14 (by rw [c1]; decide) (by rw [c1]; decide) (by rw [c1]; rfl) (by decide) ?_
    refine lv_iload_n hx hb dX7_suits_60 rfl (lv_at hl 4 rfl) ?_
    refine lv_iconst (v := (1 : Int32)) hx hb dX7_suits_61 (by decide) ?_
    have J11 : ∀ (x10 : Int32) (hb_x10 : x10 = 0 ∨ x10 = 1) (hv_x10 : qv (0) (1) x10) (ls : Array Slot) (H : Heap) (locs : List Loc), f_X7_suits_J11 x10 = r_o → lv_has ls 6 [(5, .int (f_X7_place (rPats (p0).toNatClampNeg) p1)), (0, .ref o), (1, .int p0), (2, .int p1), (3, .int p2), (4, .int p3)] → va_P D vwCl [(o, .inr (6, [.int o_thrown, .int (115 : Int32), .ref o_ops, .ref o_sizes, .ref o_patterns, .ref o_leads, .ref o_codes, .ref o_tells, .ref o_numbers, .ref o_fields, .ref o_found, .long o_number, .long o_foundNumber, .ref o_bytes, .ref o_trial, .ref o_fed, .int o_length, .int o_tried, .int o_given, .int o_at, .int o_pfx, .int o_pfd, .int o_short0])), (o_patterns, .inl (cI, 160, .inl rPats)), (o_numbers, .inl (cI, 160, .inl rNums)), (o_fields, .inl (cI, 13, .inl o_fields_f))] H → va_D A [(o, .inr (6, [.int o_thrown, .int (115 : Int32), .ref o_ops, .ref o_sizes, .ref o_patterns, .ref o_leads, .ref o_codes, .ref o_tells, .ref o_numbers, .ref o_fields, .ref o_found, .long o_number, .long o_foundNumber, .ref o_bytes, .ref o_trial, .ref o_fed, .int o_length, .int o_tried, .int o_given, .int o_at, .int o_pfx, .int o_pfd, .int o_short0])), (o_patterns, .inl (cI, 160, .inl rPats)), (o_numbers, .inl (cI, 160, .inl rNums)), (o_fields, .inl (cI, 13, .inl o_fields_f))] → va_S A s.heap H locs → W p l e (qr 2 45) s m args below meth c H locs 0 0 Z (F0 m 70 ls [.int x10]) := by
      intro x10 hb_x10 hv_x10 ls H locs E hl hP hD hS
      rw [f_X7_suits_J11] at E
      cases E
      rw [hZ]
      exact qw_zret hx hb hr hlk hb_x10 hP hD hS dX7_suits_70
    refine lv_icmp_ne (tgt := 69) hx hb dX7_suits_62 (by decide) (fun c9 => ?_) (fun c9 => ?_)
    · rw [if_neg c9] at E
      refine lv_iconst (v := (0 : Int32)) hx hb dX7_suits_69 (by decide) ?_
      exact J11 (0 : Int32) (Or.inl rfl) (qv_w (⟨by decide, by decide⟩ : qv (0) (0) (0 : Int32)) (by decide) (by decide)) ls _ _ E (lv_sub hl [0, 1, 2, 3, 4, 5] rfl) hP hD hS
    · rw [if_pos c9] at E
      refine lv_iconst (v := (1 : Int32)) hx hb dX7_suits_65 (by decide) ?_
      refine lv_goto (tgt := 70) hx hb dX7_suits_66 (by decide) ?_
      exact J11 (1 : Int32) (Or.inr rfl) (qv_w (⟨by decide, by decide⟩ : qv (1) (1) (1 : Int32)) (by decide) (by decide)) ls _ _ E (lv_sub hl [0, 1, 2, 3, 4, 5] rfl) hP hD hS
  · rw [if_neg c1] at E
    by_cases c2 : (f_X7_place (rPats (p0).toNatClampNeg) p1) = (2 : Int32)
    · rw [if_pos c2] at E
      refine lv_tableIn (off := (57 : Int)) (tgt := 71) hx hb dX7_suits_14 (by rw [c2]; decide) (by rw [c2]; decide) (by rw [c2]; rfl) (by decide) ?_
      refine lv_iload_n hx hb dX7_suits_71 rfl (lv_at hl 4 rfl) ?_
      refine lv_iconst (v := (1 : Int32)) hx hb dX7_suits_72 (by decide) ?_
      have J15 : ∀ (x14 : Int32) (hb_x14 : x14 = 0 ∨ x14 = 1) (hv_x14 : qv (0) (1) x14) (ls : Array Slot) (H : Heap) (locs : List Loc), f_X7_suits_J15 x14 = r_o → lv_has ls 6 [(5, .int (f_X7_place (rPats (p0).toNatClampNeg) p1)), (0, .ref o), (1, .int p0), (2, .int p1), (3, .int p2), (4, .int p3)] → va_P D vwCl [(o, .inr (6, [.int o_thrown, .int (115 : Int32), .ref o_ops, .ref o_sizes, .ref o_patterns, .ref o_leads, .ref o_codes, .ref o_tells, .ref o_numbers, .ref o_fields, .ref o_found, .long o_number, .long o_foundNumber, .ref o_bytes, .ref o_trial, .ref o_fed, .int o_length, .int o_tried, .int o_given, .int o_at, .int o_pfx, .int o_pfd, .int o_short0])), (o_patterns, .inl (cI, 160, .inl rPats)), (o_numbers, .inl (cI, 160, .inl rNums)), (o_fields, .inl (cI, 13, .inl o_fields_f))] H → va_D A [(o, .inr (6, [.int o_thrown, .int (115 : Int32), .ref o_ops, .ref o_sizes, .ref o_patterns, .ref o_leads, .ref o_codes, .ref o_tells, .ref o_numbers, .ref o_fields, .ref o_found, .long o_number, .long o_foundNumber, .ref o_bytes, .ref o_trial, .ref o_fed, .int o_length, .int o_tried, .int o_given, .int o_at, .int o_pfx, .int o_pfd, .int o_short0])), (o_patterns, .inl (cI, 160, .inl rPats)), (o_numbers, .inl (cI, 160, .inl rNums)), (o_fields, .inl (cI, 13, .inl o_fields_f))] → va_S A s.heap H locs → W p l e (qr 2 45) s m args below meth c H locs 0 0 Z (F0 m 86 ls [.int x14]) := by
        intro x14 hb_x14 hv_x14 ls H locs E hl hP hD hS
        rw [f_X7_suits_J15] at E
        cases E
        rw [hZ]
        exact qw_zret hx hb hr hlk hb_x14 hP hD hS dX7_suits_86
      refine lv_icmp_eq (tgt := 81) hx hb dX7_suits_73 (by decide) (fun c12 => ?_) (fun c12 => ?_)
      · rw [if_pos c12] at E
        refine lv_iconst (v := (1 : Int32)) hx hb dX7_suits_81 (by decide) ?_
        refine lv_goto (tgt := 86) hx hb dX7_suits_82 (by decide) ?_
        exact J15 (1 : Int32) (Or.inr rfl) (qv_w (⟨by decide, by decide⟩ : qv (1) (1) (1 : Int32)) (by decide) (by decide)) ls _ _ E (lv_sub hl [0, 1, 2, 3, 4, 5] rfl) hP hD hS
      · rw [if_neg c12] at E
        refine lv_iload_n hx hb dX7_suits_76 rfl (lv_at hl 4 rfl) ?_
        refine lv_iconst (v := (2 : Int32)) hx hb dX7_suits_77 (by decide) ?_
        refine lv_icmp_ne (tgt := 85) hx hb dX7_suits_78 (by decide) (fun c13 => ?_) (fun c13 => ?_)
        · rw [if_neg c13] at E
          refine lv_iconst (v := (0 : Int32)) hx hb dX7_suits_85 (by decide) ?_
          exact J15 (0 : Int32) (Or.inl rfl) (qv_w (⟨by decide, by decide⟩ : qv (0) (0) (0 : Int32)) (by decide) (by decide)) ls _ _ E (lv_sub hl [0, 1, 2, 3, 4, 5] rfl) hP hD hS
        · rw [if_pos c13] at E
          refine lv_iconst (v := (1 : Int32)) hx hb dX7_suits_81 (by decide) ?_
          refine lv_goto (tgt := 86) hx hb dX7_suits_82 (by decide) ?_
          exact J15 (1 : Int32) (Or.inr rfl) (qv_w (⟨by decide, by decide⟩ : qv (1) (1) (1 : Int32)) (by decide) (by decide)) ls _ _ E (lv_sub hl [0, 1, 2, 3, 4, 5] rfl) hP hD hS
    · rw [if_neg c2] at E
      by_cases c3 : (f_X7_place (rPats (p0).toNatClampNeg) p1) = (3 : Int32)
      · rw [if_pos c3] at E
        refine lv_tableIn (off := (73 : Int)) (tgt := 87) hx hb dX7_suits_14 (by rw [c3]; decide) (by rw [c3]; decide) (by rw [c3]; rfl) (by decide) ?_
        refine lv_iload_n hx hb dX7_suits_87 rfl (lv_at hl 4 rfl) ?_
        refine lv_iconst (v := (3 : Int32)) hx hb dX7_suits_88 (by decide) ?_
        have J19 : ∀ (x18 : Int32) (hb_x18 : x18 = 0 ∨ x18 = 1) (hv_x18 : qv (0) (1) x18) (ls : Array Slot) (H : Heap) (locs : List Loc), f_X7_suits_J19 x18 = r_o → lv_has ls 6 [(5, .int (f_X7_place (rPats (p0).toNatClampNeg) p1)), (0, .ref o), (1, .int p0), (2, .int p1), (3, .int p2), (4, .int p3)] → va_P D vwCl [(o, .inr (6, [.int o_thrown, .int (115 : Int32), .ref o_ops, .ref o_sizes, .ref o_patterns, .ref o_leads, .ref o_codes, .ref o_tells, .ref o_numbers, .ref o_fields, .ref o_found, .long o_number, .long o_foundNumber, .ref o_bytes, .ref o_trial, .ref o_fed, .int o_length, .int o_tried, .int o_given, .int o_at, .int o_pfx, .int o_pfd, .int o_short0])), (o_patterns, .inl (cI, 160, .inl rPats)), (o_numbers, .inl (cI, 160, .inl rNums)), (o_fields, .inl (cI, 13, .inl o_fields_f))] H → va_D A [(o, .inr (6, [.int o_thrown, .int (115 : Int32), .ref o_ops, .ref o_sizes, .ref o_patterns, .ref o_leads, .ref o_codes, .ref o_tells, .ref o_numbers, .ref o_fields, .ref o_found, .long o_number, .long o_foundNumber, .ref o_bytes, .ref o_trial, .ref o_fed, .int o_length, .int o_tried, .int o_given, .int o_at, .int o_pfx, .int o_pfd, .int o_short0])), (o_patterns, .inl (cI, 160, .inl rPats)), (o_numbers, .inl (cI, 160, .inl rNums)), (o_fields, .inl (cI, 13, .inl o_fields_f))] → va_S A s.heap H locs → W p l e (qr 2 45) s m args below meth c H locs 0 0 Z (F0 m 119 ls [.int x18]) := by
          intro x18 hb_x18 hv_x18 ls H locs E hl hP hD hS
          rw [f_X7_suits_J19] at E
          cases E
          rw [hZ]
          exact qw_zret hx hb hr hlk hb_x18 hP hD hS dX7_suits_119
        refine lv_icmp_ne (tgt := 118) hx hb dX7_suits_89 (by decide) (fun c16 => ?_) (fun c16 => ?_)
        · rw [if_neg c16] at E
          refine lv_iconst (v := (0 : Int32)) hx hb dX7_suits_118 (by decide) ?_
          exact J19 (0 : Int32) (Or.inl rfl) (qv_w (⟨by decide, by decide⟩ : qv (0) (0) (0 : Int32)) (by decide) (by decide)) ls _ _ E (lv_sub hl [0, 1, 2, 3, 4, 5] rfl) hP hD hS
        · rw [if_pos c16] at E
          refine lv_aload_n hx hb dX7_suits_92 rfl (lv_at hl 1 rfl) ?_
          refine va_get (D := D) (ci := 6) (v := .ref o_numbers) (C := RX7) (T := TX7) (N := 23) hx hb hts hi_X7 hown hK hP 0 rfl rfl 8 (by decide) lk28 (fun _ h9 => h9) rfl dX7_suits_93 ?_
          refine lv_iload_n hx hb dX7_suits_96 rfl (lv_at hl 2 rfl) ?_
          refine va_iald hx hb hK hP 2 0 rfl rfl (qv_in (⟨hv_p0.1, hv_p0.2⟩ : qv (0) (114) p0) (by decide) (by decide)) dX7_suits_97 ?_
          refine lv_aload_n hx hb dX7_suits_98 rfl (lv_at hl 1 rfl) ?_
          refine va_get (D := D) (ci := 6) (v := .ref o_fields) (C := RX7) (T := TX7) (N := 23) hx hb hts hi_X7 hown hK hP 0 rfl rfl 9 (by decide) lk31 (fun _ h9 => h9) rfl dX7_suits_99 ?_
          refine lv_iconst (v := (1 : Int32)) hx hb dX7_suits_102 (by decide) ?_
          refine va_iald hx hb hK hP 3 0 rfl rfl (qw_in0 (x := (1 : Int32)) (n := 13) (by decide) (by decide)) dX7_suits_103 ?_
          refine lv_aload_n hx hb dX7_suits_104 rfl (lv_at hl 1 rfl) ?_
          refine va_get (D := D) (ci := 6) (v := .long o_number) (C := RX7) (T := TX7) (N := 23) hx hb hts hi_X7 hown hK hP 0 rfl rfl 11 (by decide) lk60 (fun _ h9 => h9) rfl dX7_suits_105 ?_
          refine qw_callS (As := [.int (rNums (p0).toNatClampNeg), .int (o_fields_f ((1 : Int32)).toNatClampNeg), .long o_number]) (rest := []) (ws' := [(o, .inr (6, [.int o_thrown, .int (115 : Int32), .ref o_ops, .ref o_sizes, .ref o_patterns, .ref o_leads, .ref o_codes, .ref o_tells, .ref o_numbers, .ref o_fields, .ref o_found, .long o_number, .long o_foundNumber, .ref o_bytes, .ref o_trial, .ref o_fed, .int o_length, .int o_tried, .int o_given, .int o_at, .int o_pfx, .int o_pfd, .int o_short0])), (o_patterns, .inl (cI, 160, .inl rPats)), (o_numbers, .inl (cI, 160, .inl rNums)), (o_fields, .inl (cI, 13, .inl o_fields_f))]) (st1 := [.int (f_X7_holds (rNums (p0).toNatClampNeg) (o_fields_f ((1 : Int32)).toNatClampNeg) o_number)]) ⟨hx, hb, hml, hown, hts⟩ (c_X7_holds l D cI tT (rNums (p0).toNatClampNeg) (o_fields_f ((1 : Int32)).toNatClampNeg) o_number (f_X7_holds (rNums (p0).toNatClampNeg) (o_fields_f ((1 : Int32)).toNatClampNeg) o_number) rfl) (va_cwS 3 hts gX7_suits_X7_holds rfl rfl rfl (by decide +kernel) ⟨Nat.le_of_ble_eq_true rfl, Nat.le_of_ble_eq_true rfl⟩) hXg hK hP hD hS hA hXs [] rfl rfl  rfl rfl rfl hl.1 rfl (Nat.le_of_ble_eq_true rfl) rfl ⟨Nat.zero_le _, Nat.zero_le _⟩ dX7_suits_108 (fun H locs hP hD hS => ?_)
          refine lv_if_eq (tgt := 118) hx hb dX7_suits_111 (by decide) (fun c17 => ?_) (fun c17 => ?_)
          · rw [if_pos c17] at E
            refine lv_iconst (v := (0 : Int32)) hx hb dX7_suits_118 (by decide) ?_
            exact J19 (0 : Int32) (Or.inl rfl) (qv_w (⟨by decide, by decide⟩ : qv (0) (0) (0 : Int32)) (by decide) (by decide)) ls _ _ E (lv_sub hl [0, 1, 2, 3, 4, 5] rfl) hP hD hS
          · rw [if_neg c17] at E
            refine lv_iconst (v := (1 : Int32)) hx hb dX7_suits_114 (by decide) ?_
            refine lv_goto (tgt := 119) hx hb dX7_suits_115 (by decide) ?_
            exact J19 (1 : Int32) (Or.inr rfl) (qv_w (⟨by decide, by decide⟩ : qv (1) (1) (1 : Int32)) (by decide) (by decide)) ls _ _ E (lv_sub hl [0, 1, 2, 3, 4, 5] rfl) hP hD hS
      · rw [if_neg c3] at E
        by_cases c4 : (f_X7_place (rPats (p0).toNatClampNeg) p1) = (4 : Int32)
        · rw [if_pos c4] at E
          refine lv_tableIn (off := (106 : Int)) (tgt := 120) hx hb dX7_suits_14 (by rw [c4]; decide) (by rw [c4]; decide) (by rw [c4]; rfl) (by decide) ?_
          refine lv_iload_n hx hb dX7_suits_120 rfl (lv_at hl 4 rfl) ?_
          refine lv_iconst (v := (1 : Int32)) hx hb dX7_suits_121 (by decide) ?_
          have J23 : ∀ (x22 : Int32) (hb_x22 : x22 = 0 ∨ x22 = 1) (hv_x22 : qv (0) (1) x22) (ls : Array Slot) (H : Heap) (locs : List Loc), f_X7_suits_J23 x22 = r_o → lv_has ls 6 [(5, .int (f_X7_place (rPats (p0).toNatClampNeg) p1)), (0, .ref o), (1, .int p0), (2, .int p1), (3, .int p2), (4, .int p3)] → va_P D vwCl [(o, .inr (6, [.int o_thrown, .int (115 : Int32), .ref o_ops, .ref o_sizes, .ref o_patterns, .ref o_leads, .ref o_codes, .ref o_tells, .ref o_numbers, .ref o_fields, .ref o_found, .long o_number, .long o_foundNumber, .ref o_bytes, .ref o_trial, .ref o_fed, .int o_length, .int o_tried, .int o_given, .int o_at, .int o_pfx, .int o_pfd, .int o_short0])), (o_patterns, .inl (cI, 160, .inl rPats)), (o_numbers, .inl (cI, 160, .inl rNums)), (o_fields, .inl (cI, 13, .inl o_fields_f))] H → va_D A [(o, .inr (6, [.int o_thrown, .int (115 : Int32), .ref o_ops, .ref o_sizes, .ref o_patterns, .ref o_leads, .ref o_codes, .ref o_tells, .ref o_numbers, .ref o_fields, .ref o_found, .long o_number, .long o_foundNumber, .ref o_bytes, .ref o_trial, .ref o_fed, .int o_length, .int o_tried, .int o_given, .int o_at, .int o_pfx, .int o_pfd, .int o_short0])), (o_patterns, .inl (cI, 160, .inl rPats)), (o_numbers, .inl (cI, 160, .inl rNums)), (o_fields, .inl (cI, 13, .inl o_fields_f))] → va_S A s.heap H locs → W p l e (qr 2 45) s m args below meth c H locs 0 0 Z (F0 m 135 ls [.int x22]) := by
            intro x22 hb_x22 hv_x22 ls H locs E hl hP hD hS
            rw [f_X7_suits_J23] at E
            cases E
            rw [hZ]
            exact qw_zret hx hb hr hlk hb_x22 hP hD hS dX7_suits_135
          refine lv_icmp_ne (tgt := 134) hx hb dX7_suits_122 (by decide) (fun c20 => ?_) (fun c20 => ?_)
          · rw [if_neg c20] at E
            refine lv_iconst (v := (0 : Int32)) hx hb dX7_suits_134 (by decide) ?_
            exact J23 (0 : Int32) (Or.inl rfl) (qv_w (⟨by decide, by decide⟩ : qv (0) (0) (0 : Int32)) (by decide) (by decide)) ls _ _ E (lv_sub hl [0, 1, 2, 3, 4, 5] rfl) hP hD hS
          · rw [if_pos c20] at E
            refine lv_iload hx hb dX7_suits_125 (lv_at hl 5 rfl) ?_
            refine lv_if_ne (tgt := 134) hx hb dX7_suits_127 (by decide) (fun c21 => ?_) (fun c21 => ?_)
            · rw [if_neg c21] at E
              refine lv_iconst (v := (0 : Int32)) hx hb dX7_suits_134 (by decide) ?_
              exact J23 (0 : Int32) (Or.inl rfl) (qv_w (⟨by decide, by decide⟩ : qv (0) (0) (0 : Int32)) (by decide) (by decide)) ls _ _ E (lv_sub hl [0, 1, 2, 3, 4, 5] rfl) hP hD hS
            · rw [if_pos c21] at E
              refine lv_iconst (v := (1 : Int32)) hx hb dX7_suits_130 (by decide) ?_
              refine lv_goto (tgt := 135) hx hb dX7_suits_131 (by decide) ?_
              exact J23 (1 : Int32) (Or.inr rfl) (qv_w (⟨by decide, by decide⟩ : qv (1) (1) (1 : Int32)) (by decide) (by decide)) ls _ _ E (lv_sub hl [0, 1, 2, 3, 4, 5] rfl) hP hD hS
        · rw [if_neg c4] at E
          by_cases c5 : (f_X7_place (rPats (p0).toNatClampNeg) p1) = (5 : Int32)
          · rw [if_pos c5] at E
            refine lv_tableIn (off := (46 : Int)) (tgt := 60) hx hb dX7_suits_14 (by rw [c5]; decide) (by rw [c5]; decide) (by rw [c5]; rfl) (by decide) ?_
            refine lv_iload_n hx hb dX7_suits_60 rfl (lv_at hl 4 rfl) ?_
            refine lv_iconst (v := (1 : Int32)) hx hb dX7_suits_61 (by decide) ?_
            have J26 : ∀ (x25 : Int32) (hb_x25 : x25 = 0 ∨ x25 = 1) (hv_x25 : qv (0) (1) x25) (ls : Array Slot) (H : Heap) (locs : List Loc), f_X7_suits_J26 x25 = r_o → lv_has ls 6 [(5, .int (f_X7_place (rPats (p0).toNatClampNeg) p1)), (0, .ref o), (1, .int p0), (2, .int p1), (3, .int p2), (4, .int p3)] → va_P D vwCl [(o, .inr (6, [.int o_thrown, .int (115 : Int32), .ref o_ops, .ref o_sizes, .ref o_patterns, .ref o_leads, .ref o_codes, .ref o_tells, .ref o_numbers, .ref o_fields, .ref o_found, .long o_number, .long o_foundNumber, .ref o_bytes, .ref o_trial, .ref o_fed, .int o_length, .int o_tried, .int o_given, .int o_at, .int o_pfx, .int o_pfd, .int o_short0])), (o_patterns, .inl (cI, 160, .inl rPats)), (o_numbers, .inl (cI, 160, .inl rNums)), (o_fields, .inl (cI, 13, .inl o_fields_f))] H → va_D A [(o, .inr (6, [.int o_thrown, .int (115 : Int32), .ref o_ops, .ref o_sizes, .ref o_patterns, .ref o_leads, .ref o_codes, .ref o_tells, .ref o_numbers, .ref o_fields, .ref o_found, .long o_number, .long o_foundNumber, .ref o_bytes, .ref o_trial, .ref o_fed, .int o_length, .int o_tried, .int o_given, .int o_at, .int o_pfx, .int o_pfd, .int o_short0])), (o_patterns, .inl (cI, 160, .inl rPats)), (o_numbers, .inl (cI, 160, .inl rNums)), (o_fields, .inl (cI, 13, .inl o_fields_f))] → va_S A s.heap H locs → W p l e (qr 2 45) s m args below meth c H locs 0 0 Z (F0 m 70 ls [.int x25]) := by
              intro x25 hb_x25 hv_x25 ls H locs E hl hP hD hS
              rw [f_X7_suits_J26] at E
              cases E
              rw [hZ]
              exact qw_zret hx hb hr hlk hb_x25 hP hD hS dX7_suits_70
            refine lv_icmp_ne (tgt := 69) hx hb dX7_suits_62 (by decide) (fun c24 => ?_) (fun c24 => ?_)
            · rw [if_neg c24] at E
              refine lv_iconst (v := (0 : Int32)) hx hb dX7_suits_69 (by decide) ?_
              exact J26 (0 : Int32) (Or.inl rfl) (qv_w (⟨by decide, by decide⟩ : qv (0) (0) (0 : Int32)) (by decide) (by decide)) ls _ _ E (lv_sub hl [0, 1, 2, 3, 4, 5] rfl) hP hD hS
            · rw [if_pos c24] at E
              refine lv_iconst (v := (1 : Int32)) hx hb dX7_suits_65 (by decide) ?_
              refine lv_goto (tgt := 70) hx hb dX7_suits_66 (by decide) ?_
              exact J26 (1 : Int32) (Or.inr rfl) (qv_w (⟨by decide, by decide⟩ : qv (1) (1) (1 : Int32)) (by decide) (by decide)) ls _ _ E (lv_sub hl [0, 1, 2, 3, 4, 5] rfl) hP hD hS
          · rw [if_neg c5] at E
            by_cases c6 : (f_X7_place (rPats (p0).toNatClampNeg) p1) = (6 : Int32)
            · rw [if_pos c6] at E
              refine lv_tableIn (off := (122 : Int)) (tgt := 136) hx hb dX7_suits_14 (by rw [c6]; decide) (by rw [c6]; decide) (by rw [c6]; rfl) (by decide) ?_
              refine lv_iload_n hx hb dX7_suits_136 rfl (lv_at hl 4 rfl) ?_
              refine lv_iconst (v := (2 : Int32)) hx hb dX7_suits_137 (by decide) ?_
              have J29 : ∀ (x28 : Int32) (hb_x28 : x28 = 0 ∨ x28 = 1) (hv_x28 : qv (0) (1) x28) (ls : Array Slot) (H : Heap) (locs : List Loc), f_X7_suits_J29 x28 = r_o → lv_has ls 6 [(5, .int (f_X7_place (rPats (p0).toNatClampNeg) p1)), (0, .ref o), (1, .int p0), (2, .int p1), (3, .int p2), (4, .int p3)] → va_P D vwCl [(o, .inr (6, [.int o_thrown, .int (115 : Int32), .ref o_ops, .ref o_sizes, .ref o_patterns, .ref o_leads, .ref o_codes, .ref o_tells, .ref o_numbers, .ref o_fields, .ref o_found, .long o_number, .long o_foundNumber, .ref o_bytes, .ref o_trial, .ref o_fed, .int o_length, .int o_tried, .int o_given, .int o_at, .int o_pfx, .int o_pfd, .int o_short0])), (o_patterns, .inl (cI, 160, .inl rPats)), (o_numbers, .inl (cI, 160, .inl rNums)), (o_fields, .inl (cI, 13, .inl o_fields_f))] H → va_D A [(o, .inr (6, [.int o_thrown, .int (115 : Int32), .ref o_ops, .ref o_sizes, .ref o_patterns, .ref o_leads, .ref o_codes, .ref o_tells, .ref o_numbers, .ref o_fields, .ref o_found, .long o_number, .long o_foundNumber, .ref o_bytes, .ref o_trial, .ref o_fed, .int o_length, .int o_tried, .int o_given, .int o_at, .int o_pfx, .int o_pfd, .int o_short0])), (o_patterns, .inl (cI, 160, .inl rPats)), (o_numbers, .inl (cI, 160, .inl rNums)), (o_fields, .inl (cI, 13, .inl o_fields_f))] → va_S A s.heap H locs → W p l e (qr 2 45) s m args below meth c H locs 0 0 Z (F0 m 146 ls [.int x28]) := by
                intro x28 hb_x28 hv_x28 ls H locs E hl hP hD hS
                rw [f_X7_suits_J29] at E
                cases E
                rw [hZ]
                exact qw_zret hx hb hr hlk hb_x28 hP hD hS dX7_suits_146
              refine lv_icmp_ne (tgt := 145) hx hb dX7_suits_138 (by decide) (fun c27 => ?_) (fun c27 => ?_)
              · rw [if_neg c27] at E
                refine lv_iconst (v := (0 : Int32)) hx hb dX7_suits_145 (by decide) ?_
                exact J29 (0 : Int32) (Or.inl rfl) (qv_w (⟨by decide, by decide⟩ : qv (0) (0) (0 : Int32)) (by decide) (by decide)) ls _ _ E (lv_sub hl [0, 1, 2, 3, 4, 5] rfl) hP hD hS
              · rw [if_pos c27] at E
                refine lv_iconst (v := (1 : Int32)) hx hb dX7_suits_141 (by decide) ?_
                refine lv_goto (tgt := 146) hx hb dX7_suits_142 (by decide) ?_
                exact J29 (1 : Int32) (Or.inr rfl) (qv_w (⟨by decide, by decide⟩ : qv (1) (1) (1 : Int32)) (by decide) (by decide)) ls _ _ E (lv_sub hl [0, 1, 2, 3, 4, 5] rfl) hP hD hS
            · rw [if_neg c6] at E
              by_cases c7 : (f_X7_place (rPats (p0).toNatClampNeg) p1) = (7 : Int32)
              · rw [if_pos c7] at E
                refine lv_tableIn (off := (133 : Int)) (tgt := 147) hx hb dX7_suits_14 (by rw [c7]; decide) (by rw [c7]; decide) (by rw [c7]; rfl) (by decide) ?_
                refine lv_iload_n hx hb dX7_suits_147 rfl (lv_at hl 4 rfl) ?_
                refine lv_iconst (v := (3 : Int32)) hx hb dX7_suits_148 (by decide) ?_
                have J33 : ∀ (x32 : Int32) (hb_x32 : x32 = 0 ∨ x32 = 1) (hv_x32 : qv (0) (1) x32) (ls : Array Slot) (H : Heap) (locs : List Loc), f_X7_suits_J33 x32 = r_o → lv_has ls 6 [(5, .int (f_X7_place (rPats (p0).toNatClampNeg) p1)), (0, .ref o), (1, .int p0), (2, .int p1), (3, .int p2), (4, .int p3)] → va_P D vwCl [(o, .inr (6, [.int o_thrown, .int (115 : Int32), .ref o_ops, .ref o_sizes, .ref o_patterns, .ref o_leads, .ref o_codes, .ref o_tells, .ref o_numbers, .ref o_fields, .ref o_found, .long o_number, .long o_foundNumber, .ref o_bytes, .ref o_trial, .ref o_fed, .int o_length, .int o_tried, .int o_given, .int o_at, .int o_pfx, .int o_pfd, .int o_short0])), (o_patterns, .inl (cI, 160, .inl rPats)), (o_numbers, .inl (cI, 160, .inl rNums)), (o_fields, .inl (cI, 13, .inl o_fields_f))] H → va_D A [(o, .inr (6, [.int o_thrown, .int (115 : Int32), .ref o_ops, .ref o_sizes, .ref o_patterns, .ref o_leads, .ref o_codes, .ref o_tells, .ref o_numbers, .ref o_fields, .ref o_found, .long o_number, .long o_foundNumber, .ref o_bytes, .ref o_trial, .ref o_fed, .int o_length, .int o_tried, .int o_given, .int o_at, .int o_pfx, .int o_pfd, .int o_short0])), (o_patterns, .inl (cI, 160, .inl rPats)), (o_numbers, .inl (cI, 160, .inl rNums)), (o_fields, .inl (cI, 13, .inl o_fields_f))] → va_S A s.heap H locs → W p l e (qr 2 45) s m args below meth c H locs 0 0 Z (F0 m 166 ls [.int x32]) := by
                  intro x32 hb_x32 hv_x32 ls H locs E hl hP hD hS
                  rw [f_X7_suits_J33] at E
                  cases E
                  rw [hZ]
                  exact qw_zret hx hb hr hlk hb_x32 hP hD hS dX7_suits_166
                refine lv_icmp_ne (tgt := 165) hx hb dX7_suits_149 (by decide) (fun c30 => ?_) (fun c30 => ?_)
                · rw [if_neg c30] at E
                  refine lv_iconst (v := (0 : Int32)) hx hb dX7_suits_165 (by decide) ?_
                  exact J33 (0 : Int32) (Or.inl rfl) (qv_w (⟨by decide, by decide⟩ : qv (0) (0) (0 : Int32)) (by decide) (by decide)) ls _ _ E (lv_sub hl [0, 1, 2, 3, 4, 5] rfl) hP hD hS
                · rw [if_pos c30] at E
                  refine lv_aload_n hx hb dX7_suits_152 rfl (lv_at hl 1 rfl) ?_
                  refine va_get (D := D) (ci := 6) (v := .long o_number) (C := RX7) (T := TX7) (N := 23) hx hb hts hi_X7 hown hK hP 0 rfl rfl 11 (by decide) lk60 (fun _ h9 => h9) rfl dX7_suits_153 ?_
                  refine lv_lconst (v := (1 : Int64)) hx hb dX7_suits_156 (by decide) ?_
                  refine W.lcmp hx hb dX7_suits_157 ?_
                  refine lv_if_ne (tgt := 165) hx hb dX7_suits_158 (by decide) (fun c31 => ?_) (fun c31 => ?_)
                  · rw [if_neg c31] at E
                    refine lv_iconst (v := (0 : Int32)) hx hb dX7_suits_165 (by decide) ?_
                    exact J33 (0 : Int32) (Or.inl rfl) (qv_w (⟨by decide, by decide⟩ : qv (0) (0) (0 : Int32)) (by decide) (by decide)) ls _ _ E (lv_sub hl [0, 1, 2, 3, 4, 5] rfl) hP hD hS
                  · rw [if_pos c31] at E
                    refine lv_iconst (v := (1 : Int32)) hx hb dX7_suits_161 (by decide) ?_
                    refine lv_goto (tgt := 166) hx hb dX7_suits_162 (by decide) ?_
                    exact J33 (1 : Int32) (Or.inr rfl) (qv_w (⟨by decide, by decide⟩ : qv (1) (1) (1 : Int32)) (by decide) (by decide)) ls _ _ E (lv_sub hl [0, 1, 2, 3, 4, 5] rfl) hP hD hS
              · rw [if_neg c7] at E
                by_cases c8 : (f_X7_place (rPats (p0).toNatClampNeg) p1) = (8 : Int32)
                · rw [if_pos c8] at E
                  refine lv_tableIn (off := (153 : Int)) (tgt := 167) hx hb dX7_suits_14 (by rw [c8]; decide) (by rw [c8]; decide) (by rw [c8]; rfl) (by decide) ?_
                  refine lv_iload_n hx hb dX7_suits_167 rfl (lv_at hl 4 rfl) ?_
                  refine lv_iconst (v := (1 : Int32)) hx hb dX7_suits_168 (by decide) ?_
                  have J37 : ∀ (x36 : Int32) (hb_x36 : x36 = 0 ∨ x36 = 1) (hv_x36 : qv (0) (1) x36) (ls : Array Slot) (H : Heap) (locs : List Loc), f_X7_suits_J37 x36 = r_o → lv_has ls 6 [(5, .int (f_X7_place (rPats (p0).toNatClampNeg) p1)), (0, .ref o), (1, .int p0), (2, .int p1), (3, .int p2), (4, .int p3)] → va_P D vwCl [(o, .inr (6, [.int o_thrown, .int (115 : Int32), .ref o_ops, .ref o_sizes, .ref o_patterns, .ref o_leads, .ref o_codes, .ref o_tells, .ref o_numbers, .ref o_fields, .ref o_found, .long o_number, .long o_foundNumber, .ref o_bytes, .ref o_trial, .ref o_fed, .int o_length, .int o_tried, .int o_given, .int o_at, .int o_pfx, .int o_pfd, .int o_short0])), (o_patterns, .inl (cI, 160, .inl rPats)), (o_numbers, .inl (cI, 160, .inl rNums)), (o_fields, .inl (cI, 13, .inl o_fields_f))] H → va_D A [(o, .inr (6, [.int o_thrown, .int (115 : Int32), .ref o_ops, .ref o_sizes, .ref o_patterns, .ref o_leads, .ref o_codes, .ref o_tells, .ref o_numbers, .ref o_fields, .ref o_found, .long o_number, .long o_foundNumber, .ref o_bytes, .ref o_trial, .ref o_fed, .int o_length, .int o_tried, .int o_given, .int o_at, .int o_pfx, .int o_pfd, .int o_short0])), (o_patterns, .inl (cI, 160, .inl rPats)), (o_numbers, .inl (cI, 160, .inl rNums)), (o_fields, .inl (cI, 13, .inl o_fields_f))] → va_S A s.heap H locs → W p l e (qr 2 45) s m args below meth c H locs 0 0 Z (F0 m 183 ls [.int x36]) := by
                    intro x36 hb_x36 hv_x36 ls H locs E hl hP hD hS
                    rw [f_X7_suits_J37] at E
                    cases E
                    rw [hZ]
                    exact qw_zret hx hb hr hlk hb_x36 hP hD hS dX7_suits_183
                  refine lv_icmp_ne (tgt := 182) hx hb dX7_suits_169 (by decide) (fun c34 => ?_) (fun c34 => ?_)
                  · rw [if_neg c34] at E
                    refine lv_iconst (v := (0 : Int32)) hx hb dX7_suits_182 (by decide) ?_
                    exact J37 (0 : Int32) (Or.inl rfl) (qv_w (⟨by decide, by decide⟩ : qv (0) (0) (0 : Int32)) (by decide) (by decide)) ls _ _ E (lv_sub hl [0, 1, 2, 3, 4, 5] rfl) hP hD hS
                  · rw [if_pos c34] at E
                    refine lv_iload hx hb dX7_suits_172 (lv_at hl 5 rfl) ?_
                    refine lv_iconst (v := (1 : Int32)) hx hb dX7_suits_174 (by decide) ?_
                    refine lv_icmp_ne (tgt := 182) hx hb dX7_suits_175 (by decide) (fun c35 => ?_) (fun c35 => ?_)
                    · rw [if_neg c35] at E
                      refine lv_iconst (v := (0 : Int32)) hx hb dX7_suits_182 (by decide) ?_
                      exact J37 (0 : Int32) (Or.inl rfl) (qv_w (⟨by decide, by decide⟩ : qv (0) (0) (0 : Int32)) (by decide) (by decide)) ls _ _ E (lv_sub hl [0, 1, 2, 3, 4, 5] rfl) hP hD hS
                    · rw [if_pos c35] at E
                      refine lv_iconst (v := (1 : Int32)) hx hb dX7_suits_178 (by decide) ?_
                      refine lv_goto (tgt := 183) hx hb dX7_suits_179 (by decide) ?_
                      exact J37 (1 : Int32) (Or.inr rfl) (qv_w (⟨by decide, by decide⟩ : qv (1) (1) (1 : Int32)) (by decide) (by decide)) ls _ _ E (lv_sub hl [0, 1, 2, 3, 4, 5] rfl) hP hD hS
                · rw [if_neg c8] at E
                  refine lv_tableOut (tgt := 184) hx hb dX7_suits_14 (by have nc1 := lv_neT c1 (a := 1) rfl; have nc2 := lv_neT c2 (a := 2) rfl; have nc3 := lv_neT c3 (a := 3) rfl; have nc4 := lv_neT c4 (a := 4) rfl; have nc5 := lv_neT c5 (a := 5) rfl; have nc6 := lv_neT c6 (a := 6) rfl; have nc7 := lv_neT c7 (a := 7) rfl; have nc8 := lv_neT c8 (a := 8) rfl; omega) (by decide) ?_
                  refine lv_iload_n hx hb dX7_suits_184 rfl (lv_at hl 4 rfl) ?_
                  have J40 : ∀ (x39 : Int32) (hb_x39 : x39 = 0 ∨ x39 = 1) (hv_x39 : qv (0) (1) x39) (ls : Array Slot) (H : Heap) (locs : List Loc), f_X7_suits_J40 x39 = r_o → lv_has ls 6 [(5, .int (f_X7_place (rPats (p0).toNatClampNeg) p1)), (0, .ref o), (1, .int p0), (2, .int p1), (3, .int p2), (4, .int p3)] → va_P D vwCl [(o, .inr (6, [.int o_thrown, .int (115 : Int32), .ref o_ops, .ref o_sizes, .ref o_patterns, .ref o_leads, .ref o_codes, .ref o_tells, .ref o_numbers, .ref o_fields, .ref o_found, .long o_number, .long o_foundNumber, .ref o_bytes, .ref o_trial, .ref o_fed, .int o_length, .int o_tried, .int o_given, .int o_at, .int o_pfx, .int o_pfd, .int o_short0])), (o_patterns, .inl (cI, 160, .inl rPats)), (o_numbers, .inl (cI, 160, .inl rNums)), (o_fields, .inl (cI, 13, .inl o_fields_f))] H → va_D A [(o, .inr (6, [.int o_thrown, .int (115 : Int32), .ref o_ops, .ref o_sizes, .ref o_patterns, .ref o_leads, .ref o_codes, .ref o_tells, .ref o_numbers, .ref o_fields, .ref o_found, .long o_number, .long o_foundNumber, .ref o_bytes, .ref o_trial, .ref o_fed, .int o_length, .int o_tried, .int o_given, .int o_at, .int o_pfx, .int o_pfd, .int o_short0])), (o_patterns, .inl (cI, 160, .inl rPats)), (o_numbers, .inl (cI, 160, .inl rNums)), (o_fields, .inl (cI, 13, .inl o_fields_f))] → va_S A s.heap H locs → W p l e (qr 2 45) s m args below meth c H locs 0 0 Z (F0 m 193 ls [.int x39]) := by
                    intro x39 hb_x39 hv_x39 ls H locs E hl hP hD hS
                    rw [f_X7_suits_J40] at E
                    cases E
                    rw [hZ]
                    exact qw_zret hx hb hr hlk hb_x39 hP hD hS dX7_suits_193
                  refine lv_if_ne (tgt := 192) hx hb dX7_suits_185 (by decide) (fun c38 => ?_) (fun c38 => ?_)
                  · rw [if_neg c38] at E
                    refine lv_iconst (v := (0 : Int32)) hx hb dX7_suits_192 (by decide) ?_
                    exact J40 (0 : Int32) (Or.inl rfl) (qv_w (⟨by decide, by decide⟩ : qv (0) (0) (0 : Int32)) (by decide) (by decide)) ls _ _ E (lv_sub hl [0, 1, 2, 3, 4, 5] rfl) hP hD hS
                  · rw [if_pos c38] at E
                    refine lv_iconst (v := (1 : Int32)) hx hb dX7_suits_188 (by decide) ?_
                    refine lv_goto (tgt := 193) hx hb dX7_suits_189 (by decide) ?_
                    exact J40 (1 : Int32) (Or.inr rfl) (qv_w (⟨by decide, by decide⟩ : qv (1) (1) (1 : Int32)) (by decide) (by decide)) ls _ _ E (lv_sub hl [0, 1, 2, 3, 4, 5] rfl) hP hD hS
def f_X7_width_J11 (x10 : Int32) : Int32 := (x10)
def f_X7_width_J5 (p0 : Int32) (p1 : Int32) (p2 : Int32) (x4 : Int32) : Int32 := ((if x4 = 0 then (if p1 = (8 : Int32) then (f_X7_width_J11 (1 : Int32)) else (if p1 = (2 : Int32) then (if (rOps (p0).toNatClampNeg) = (14 : Int32) then (f_X7_width_J11 (4 : Int32)) else (f_X7_width_J11 p2)) else (f_X7_width_J11 p2))) else (f_X7_width_J11 (1 : Int32))))
def f_X7_width (p0 : Int32) (p1 : Int32) (p2 : Int32) : Int32 := ((if p1 = (2 : Int32) then (if (rOps (p0).toNatClampNeg) = (12 : Int32) then (f_X7_width_J5 p0 p1 p2 (1 : Int32)) else (if (rOps (p0).toNatClampNeg) = (13 : Int32) then (f_X7_width_J5 p0 p1 p2 (1 : Int32)) else (f_X7_width_J5 p0 p1 p2 (0 : Int32)))) else (f_X7_width_J5 p0 p1 p2 (0 : Int32))))
set_option maxHeartbeats 4000000 in
set_option maxRecDepth 100000 in
theorem c_X7_width (l : Launch) (D : va_G) (cI : ClassId) (tT : Nat) (o : Nat) (o_ops : Nat) (o_sizes : Nat) (o_patterns : Nat) (o_leads : Nat) (o_codes : Nat) (o_tells : Nat) (o_numbers : Nat) (o_fields : Nat) (o_found : Nat) (o_bytes : Nat) (o_trial : Nat) (o_fed : Nat) (o_thrown : Int32) (o_number : Int64) (o_foundNumber : Int64) (o_length : Int32) (o_tried : Int32) (o_given : Int32) (o_at : Int32) (o_pfx : Int32) (o_pfd : Int32) (o_short0 : Int32) (p0 : Int32) (p1 : Int32) (p2 : Int32) (hv_p0 : qv (0) (114) p0) (r_o : Int32) (hq : f_X7_width p0 p1 p2 = r_o) : qM l yX7_width wsX7_width (qr 0 0) (qX tT) D vwCl [(cI, .int)] [(o, .inr (6, [.int o_thrown, .int (115 : Int32), .ref o_ops, .ref o_sizes, .ref o_patterns, .ref o_leads, .ref o_codes, .ref o_tells, .ref o_numbers, .ref o_fields, .ref o_found, .long o_number, .long o_foundNumber, .ref o_bytes, .ref o_trial, .ref o_fed, .int o_length, .int o_tried, .int o_given, .int o_at, .int o_pfx, .int o_pfd, .int o_short0])), (o_ops, .inl (cI, 160, .inl rOps))] [.ref o, .int p0, .int p1, .int p2] (some (.int r_o)) [(o, .inr (6, [.int o_thrown, .int (115 : Int32), .ref o_ops, .ref o_sizes, .ref o_patterns, .ref o_leads, .ref o_codes, .ref o_tells, .ref o_numbers, .ref o_fields, .ref o_found, .long o_number, .long o_foundNumber, .ref o_bytes, .ref o_trial, .ref o_fed, .int o_length, .int o_tried, .int o_given, .int o_at, .int o_pfx, .int o_pfd, .int o_short0])), (o_ops, .inl (cI, 160, .inl rOps))] := by
  refine qM_of (cc := cX7_width) (maxL := 5) (ret := (some .int)) (by decide) rfl (Nat.le_of_ble_eq_true rfl) ?_
  intro p e s m args below meth c A ls Z hx hb hml hr hts hown hlk hK hA hXs hP hD hS hl hZ
  have hown : s.vm.findClass RX7 = some m.cls := hown
  have hl : lv_has ls 5 [(0, .ref o), (1, .int p0), (2, .int p1), (3, .int p2)] := hl
  have hi_X7 : ∀ w ∈ wsX70, w ∈ wsX7_width := by decide +kernel
  have lk7 := hts (.fieldLink RX7 7 "InstructionCoderModel" "ops" "[I") (by decide +kernel)
  have E := hq
  rw [f_X7_width] at E
  refine lv_iload_n hx hb dX7_width_0 rfl (lv_at hl 2 rfl) ?_
  refine lv_iconst (v := (2 : Int32)) hx hb dX7_width_1 (by decide) ?_
  have J5 : ∀ (x4 : Int32) (hb_x4 : x4 = 0 ∨ x4 = 1) (hv_x4 : qv (0) (1) x4) (ls : Array Slot) (H : Heap) (locs : List Loc), f_X7_width_J5 p0 p1 p2 x4 = r_o → lv_has ls 5 [(0, .ref o), (1, .int p0), (2, .int p1), (3, .int p2)] → va_P D vwCl [(o, .inr (6, [.int o_thrown, .int (115 : Int32), .ref o_ops, .ref o_sizes, .ref o_patterns, .ref o_leads, .ref o_codes, .ref o_tells, .ref o_numbers, .ref o_fields, .ref o_found, .long o_number, .long o_foundNumber, .ref o_bytes, .ref o_trial, .ref o_fed, .int o_length, .int o_tried, .int o_given, .int o_at, .int o_pfx, .int o_pfd, .int o_short0])), (o_ops, .inl (cI, 160, .inl rOps))] H → va_D A [(o, .inr (6, [.int o_thrown, .int (115 : Int32), .ref o_ops, .ref o_sizes, .ref o_patterns, .ref o_leads, .ref o_codes, .ref o_tells, .ref o_numbers, .ref o_fields, .ref o_found, .long o_number, .long o_foundNumber, .ref o_bytes, .ref o_trial, .ref o_fed, .int o_length, .int o_tried, .int o_given, .int o_at, .int o_pfx, .int o_pfd, .int o_short0])), (o_ops, .inl (cI, 160, .inl rOps))] → va_S A s.heap H locs → W p l e (qr 0 0) s m args below meth c H locs 0 0 Z (F0 m 32 ls [.int x4]) := by
    intro x4 hb_x4 hv_x4 ls H locs E hl hP hD hS
    rw [f_X7_width_J5] at E
    refine lv_istore (lv' := [(4, .int x4), (0, .ref o), (1, .int p0), (2, .int p1), (3, .int p2)]) hx hb dX7_width_32 hl (by decide) rfl (fun ls hl => ?_)
    refine lv_iload hx hb dX7_width_34 (lv_at hl 0 rfl) ?_
    have J11 : ∀ (x10 : Int32) (ls : Array Slot) (H : Heap) (locs : List Loc), f_X7_width_J11 x10 = r_o → lv_has ls 5 [(4, .int x4), (0, .ref o), (1, .int p0), (2, .int p1), (3, .int p2)] → va_P D vwCl [(o, .inr (6, [.int o_thrown, .int (115 : Int32), .ref o_ops, .ref o_sizes, .ref o_patterns, .ref o_leads, .ref o_codes, .ref o_tells, .ref o_numbers, .ref o_fields, .ref o_found, .long o_number, .long o_foundNumber, .ref o_bytes, .ref o_trial, .ref o_fed, .int o_length, .int o_tried, .int o_given, .int o_at, .int o_pfx, .int o_pfd, .int o_short0])), (o_ops, .inl (cI, 160, .inl rOps))] H → va_D A [(o, .inr (6, [.int o_thrown, .int (115 : Int32), .ref o_ops, .ref o_sizes, .ref o_patterns, .ref o_leads, .ref o_codes, .ref o_tells, .ref o_numbers, .ref o_fields, .ref o_found, .long o_number, .long o_foundNumber, .ref o_bytes, .ref o_trial, .ref o_fed, .int o_length, .int o_tried, .int o_given, .int o_at, .int o_pfx, .int o_pfd, .int o_short0])), (o_ops, .inl (cI, 160, .inl rOps))] → va_S A s.heap H locs → W p l e (qr 0 0) s m args below meth c H locs 0 0 Z (F0 m 70 ls [.int x10]) := by
      intro x10 ls H locs E hl hP hD hS
      rw [f_X7_width_J11] at E
      cases E
      rw [hZ]
      exact qw_iret hx hb hr hlk hP hD hS dX7_width_70
    refine lv_if_ne (tgt := 45) hx hb dX7_width_36 (by decide) (fun c6 => ?_) (fun c6 => ?_)
    · rw [if_neg c6] at E
      refine lv_iconst (v := (1 : Int32)) hx hb dX7_width_45 (by decide) ?_
      refine lv_goto (tgt := 70) hx hb dX7_width_46 (by decide) ?_
      exact J11 (1 : Int32) ls _ _ E (lv_sub hl [0, 1, 2, 3, 4] rfl) hP hD hS
    · rw [if_pos c6] at E
      refine lv_iload_n hx hb dX7_width_39 rfl (lv_at hl 3 rfl) ?_
      refine lv_bipush (v := (8 : Int32)) hx hb dX7_width_40 (by decide) ?_
      refine lv_icmp_ne (tgt := 49) hx hb dX7_width_42 (by decide) (fun c7 => ?_) (fun c7 => ?_)
      · rw [if_neg c7] at E
        refine lv_iload_n hx hb dX7_width_49 rfl (lv_at hl 3 rfl) ?_
        refine lv_iconst (v := (2 : Int32)) hx hb dX7_width_50 (by decide) ?_
        refine lv_icmp_ne (tgt := 69) hx hb dX7_width_51 (by decide) (fun c8 => ?_) (fun c8 => ?_)
        · rw [if_neg c8] at E
          refine lv_iload_n hx hb dX7_width_69 rfl (lv_at hl 4 rfl) ?_
          exact J11 p2 ls _ _ E (lv_sub hl [0, 1, 2, 3, 4] rfl) hP hD hS
        · rw [if_pos c8] at E
          refine lv_aload_n hx hb dX7_width_54 rfl (lv_at hl 1 rfl) ?_
          refine va_get (D := D) (ci := 6) (v := .ref o_ops) (C := RX7) (T := TX7) (N := 23) hx hb hts hi_X7 hown hK hP 0 rfl rfl 2 (by decide) lk7 (fun _ h9 => h9) rfl dX7_width_55 ?_
          refine lv_iload_n hx hb dX7_width_58 rfl (lv_at hl 2 rfl) ?_
          refine va_iald hx hb hK hP 1 0 rfl rfl (qv_in (⟨hv_p0.1, hv_p0.2⟩ : qv (0) (114) p0) (by decide) (by decide)) dX7_width_59 ?_
          refine lv_bipush (v := (14 : Int32)) hx hb dX7_width_60 (by decide) ?_
          refine lv_icmp_ne (tgt := 69) hx hb dX7_width_62 (by decide) (fun c9 => ?_) (fun c9 => ?_)
          · rw [if_neg c9] at E
            refine lv_iload_n hx hb dX7_width_69 rfl (lv_at hl 4 rfl) ?_
            exact J11 p2 ls _ _ E (lv_sub hl [0, 1, 2, 3, 4] rfl) hP hD hS
          · rw [if_pos c9] at E
            refine lv_iconst (v := (4 : Int32)) hx hb dX7_width_65 (by decide) ?_
            refine lv_goto (tgt := 70) hx hb dX7_width_66 (by decide) ?_
            exact J11 (4 : Int32) ls _ _ E (lv_sub hl [0, 1, 2, 3, 4] rfl) hP hD hS
      · rw [if_pos c7] at E
        refine lv_iconst (v := (1 : Int32)) hx hb dX7_width_45 (by decide) ?_
        refine lv_goto (tgt := 70) hx hb dX7_width_46 (by decide) ?_
        exact J11 (1 : Int32) ls _ _ E (lv_sub hl [0, 1, 2, 3, 4] rfl) hP hD hS
  refine lv_icmp_ne (tgt := 31) hx hb dX7_width_2 (by decide) (fun c1 => ?_) (fun c1 => ?_)
  · rw [if_neg c1] at E
    refine lv_iconst (v := (0 : Int32)) hx hb dX7_width_31 (by decide) ?_
    exact J5 (0 : Int32) (Or.inl rfl) (qv_w (⟨by decide, by decide⟩ : qv (0) (0) (0 : Int32)) (by decide) (by decide)) ls _ _ E (lv_sub hl [0, 1, 2, 3] rfl) hP hD hS
  · rw [if_pos c1] at E
    refine lv_aload_n hx hb dX7_width_5 rfl (lv_at hl 0 rfl) ?_
    refine va_get (D := D) (ci := 6) (v := .ref o_ops) (C := RX7) (T := TX7) (N := 23) hx hb hts hi_X7 hown hK hP 0 rfl rfl 2 (by decide) lk7 (fun _ h9 => h9) rfl dX7_width_6 ?_
    refine lv_iload_n hx hb dX7_width_9 rfl (lv_at hl 1 rfl) ?_
    refine va_iald hx hb hK hP 1 0 rfl rfl (qv_in (⟨hv_p0.1, hv_p0.2⟩ : qv (0) (114) p0) (by decide) (by decide)) dX7_width_10 ?_
    refine lv_bipush (v := (12 : Int32)) hx hb dX7_width_11 (by decide) ?_
    refine lv_icmp_eq (tgt := 27) hx hb dX7_width_13 (by decide) (fun c2 => ?_) (fun c2 => ?_)
    · rw [if_pos c2] at E
      refine lv_iconst (v := (1 : Int32)) hx hb dX7_width_27 (by decide) ?_
      refine lv_goto (tgt := 32) hx hb dX7_width_28 (by decide) ?_
      exact J5 (1 : Int32) (Or.inr rfl) (qv_w (⟨by decide, by decide⟩ : qv (1) (1) (1 : Int32)) (by decide) (by decide)) ls _ _ E (lv_sub hl [0, 1, 2, 3] rfl) hP hD hS
    · rw [if_neg c2] at E
      refine lv_aload_n hx hb dX7_width_16 rfl (lv_at hl 0 rfl) ?_
      refine va_get (D := D) (ci := 6) (v := .ref o_ops) (C := RX7) (T := TX7) (N := 23) hx hb hts hi_X7 hown hK hP 0 rfl rfl 2 (by decide) lk7 (fun _ h9 => h9) rfl dX7_width_17 ?_
      refine lv_iload_n hx hb dX7_width_20 rfl (lv_at hl 1 rfl) ?_
      refine va_iald hx hb hK hP 1 0 rfl rfl (qv_in (⟨hv_p0.1, hv_p0.2⟩ : qv (0) (114) p0) (by decide) (by decide)) dX7_width_21 ?_
      refine lv_bipush (v := (13 : Int32)) hx hb dX7_width_22 (by decide) ?_
      refine lv_icmp_ne (tgt := 31) hx hb dX7_width_24 (by decide) (fun c3 => ?_) (fun c3 => ?_)
      · rw [if_neg c3] at E
        refine lv_iconst (v := (0 : Int32)) hx hb dX7_width_31 (by decide) ?_
        exact J5 (0 : Int32) (Or.inl rfl) (qv_w (⟨by decide, by decide⟩ : qv (0) (0) (0 : Int32)) (by decide) (by decide)) ls _ _ E (lv_sub hl [0, 1, 2, 3] rfl) hP hD hS
      · rw [if_pos c3] at E
        refine lv_iconst (v := (1 : Int32)) hx hb dX7_width_27 (by decide) ?_
        refine lv_goto (tgt := 32) hx hb dX7_width_28 (by decide) ?_
        exact J5 (1 : Int32) (Or.inr rfl) (qv_w (⟨by decide, by decide⟩ : qv (1) (1) (1 : Int32)) (by decide) (by decide)) ls _ _ E (lv_sub hl [0, 1, 2, 3] rfl) hP hD hS
def f_X7_put (o_tried : Int32) (o_trial_f : (Nat → Int32)) (p0 : Int32) : Int32 × (Nat → Int32) := (((o_tried + (1 : Int32)), (upd o_trial_f (o_tried).toNatClampNeg (p0 &&& (255 : Int32)))))
set_option maxHeartbeats 4000000 in
set_option maxRecDepth 100000 in
theorem c_X7_put (l : Launch) (D : va_G) (cI : ClassId) (tT : Nat) (o : Nat) (o_ops : Nat) (o_sizes : Nat) (o_patterns : Nat) (o_leads : Nat) (o_codes : Nat) (o_tells : Nat) (o_numbers : Nat) (o_fields : Nat) (o_found : Nat) (o_bytes : Nat) (o_trial : Nat) (o_fed : Nat) (o_thrown : Int32) (o_number : Int64) (o_foundNumber : Int64) (o_length : Int32) (o_tried : Int32) (o_given : Int32) (o_at : Int32) (o_pfx : Int32) (o_pfd : Int32) (o_short0 : Int32) (o_trial_f : (Nat → Int32)) (p0 : Int32) (hv_o_tried : qv (0) (19) o_tried) (o_tried_o : Int32) (o_trial_f_o : (Nat → Int32)) (hq : f_X7_put o_tried o_trial_f p0 = (o_tried_o, o_trial_f_o)) : qM l yX7_put wsX7_put (qr 0 0) (qX tT) D vwCl [(cI, .int)] [(o, .inr (6, [.int o_thrown, .int (115 : Int32), .ref o_ops, .ref o_sizes, .ref o_patterns, .ref o_leads, .ref o_codes, .ref o_tells, .ref o_numbers, .ref o_fields, .ref o_found, .long o_number, .long o_foundNumber, .ref o_bytes, .ref o_trial, .ref o_fed, .int o_length, .int o_tried, .int o_given, .int o_at, .int o_pfx, .int o_pfd, .int o_short0])), (o_trial, .inl (cI, 20, .inl o_trial_f))] [.ref o, .int p0] none [(o, .inr (6, [.int o_thrown, .int (115 : Int32), .ref o_ops, .ref o_sizes, .ref o_patterns, .ref o_leads, .ref o_codes, .ref o_tells, .ref o_numbers, .ref o_fields, .ref o_found, .long o_number, .long o_foundNumber, .ref o_bytes, .ref o_trial, .ref o_fed, .int o_length, .int o_tried_o, .int o_given, .int o_at, .int o_pfx, .int o_pfd, .int o_short0])), (o_trial, .inl (cI, 20, .inl o_trial_f_o))] := by
  refine qM_of (cc := cX7_put) (maxL := 2) (ret := none) (by decide) rfl (Nat.le_of_ble_eq_true rfl) ?_
  intro p e s m args below meth c A ls Z hx hb hml hr hts hown hlk hK hA hXs hP hD hS hl hZ
  have hown : s.vm.findClass RX7 = some m.cls := hown
  have hl : lv_has ls 2 [(0, .ref o), (1, .int p0)] := hl
  have hi_X7 : ∀ w ∈ wsX70, w ∈ wsX7_put := by decide +kernel
  have lk40 := hts (.fieldLink RX7 40 "InstructionCoderModel" "trial" "[I") (by decide +kernel)
  have lk77 := hts (.fieldLink RX7 77 "InstructionCoderModel" "tried" "I") (by decide +kernel)
  have E := hq
  rw [f_X7_put] at E
  refine lv_aload_n hx hb dX7_put_0 rfl (lv_at hl 0 rfl) ?_
  refine va_get (D := D) (ci := 6) (v := .ref o_trial) (C := RX7) (T := TX7) (N := 23) hx hb hts hi_X7 hown hK hP 0 rfl rfl 14 (by decide) lk40 (fun _ h9 => h9) rfl dX7_put_1 ?_
  refine lv_aload_n hx hb dX7_put_4 rfl (lv_at hl 0 rfl) ?_
  refine va_get (D := D) (ci := 6) (v := .int o_tried) (C := RX7) (T := TX7) (N := 23) hx hb hts hi_X7 hown hK hP 0 rfl rfl 17 (by decide) lk77 (fun _ h9 => h9) rfl dX7_put_5 ?_
  refine lv_iload_n hx hb dX7_put_8 rfl (lv_at hl 1 rfl) ?_
  refine lv_sipush (v := (255 : Int32)) hx hb dX7_put_9 (by decide) ?_
  refine lv_iand hx hb dX7_put_12 ?_
  refine va_iast hx hb hK hP hD hS 1 0 rfl rfl (qv_in (⟨hv_o_tried.1, hv_o_tried.2⟩ : qv (0) (19) o_tried) (by decide) (by decide)) dX7_put_13 (fun H locs hP hD hS => ?_)
  have hP : va_P D vwCl [(o, .inr (6, [.int o_thrown, .int (115 : Int32), .ref o_ops, .ref o_sizes, .ref o_patterns, .ref o_leads, .ref o_codes, .ref o_tells, .ref o_numbers, .ref o_fields, .ref o_found, .long o_number, .long o_foundNumber, .ref o_bytes, .ref o_trial, .ref o_fed, .int o_length, .int o_tried, .int o_given, .int o_at, .int o_pfx, .int o_pfd, .int o_short0])), (o_trial, .inl (cI, 20, .inl (upd o_trial_f (o_tried).toNatClampNeg (p0 &&& (255 : Int32)))))] H := hP
  have hD : va_D A [(o, .inr (6, [.int o_thrown, .int (115 : Int32), .ref o_ops, .ref o_sizes, .ref o_patterns, .ref o_leads, .ref o_codes, .ref o_tells, .ref o_numbers, .ref o_fields, .ref o_found, .long o_number, .long o_foundNumber, .ref o_bytes, .ref o_trial, .ref o_fed, .int o_length, .int o_tried, .int o_given, .int o_at, .int o_pfx, .int o_pfd, .int o_short0])), (o_trial, .inl (cI, 20, .inl (upd o_trial_f (o_tried).toNatClampNeg (p0 &&& (255 : Int32)))))] := hD
  refine lv_aload_n hx hb dX7_put_14 rfl (lv_at hl 0 rfl) ?_
  refine lv_dup hx hb dX7_put_15 rfl ?_
  refine va_get (D := D) (ci := 6) (v := .int o_tried) (C := RX7) (T := TX7) (N := 23) hx hb hts hi_X7 hown hK hP 0 rfl rfl 17 (by decide) lk77 (fun _ h9 => h9) rfl dX7_put_16 ?_
  refine lv_iconst (v := (1 : Int32)) hx hb dX7_put_19 (by decide) ?_
  refine lv_iadd hx hb dX7_put_20 ?_
  refine va_put (D := D) (ci := 6) (v := .int (o_tried + (1 : Int32))) (ty := .int) (C := RX7) (T := TX7) (N := 23) hx hb hts hi_X7 tyX7 tyX7_ok nmX7 hown hK hP hD hS 0 rfl rfl 17 (by decide) lk77 (fun _ h9 => h9) rfl (by decide +kernel) rfl rfl (Nat.le_of_ble_eq_true rfl) dX7_put_21 (fun H locs hP hD hS => ?_)
  have hP : va_P D vwCl [(o, .inr (6, [.int o_thrown, .int (115 : Int32), .ref o_ops, .ref o_sizes, .ref o_patterns, .ref o_leads, .ref o_codes, .ref o_tells, .ref o_numbers, .ref o_fields, .ref o_found, .long o_number, .long o_foundNumber, .ref o_bytes, .ref o_trial, .ref o_fed, .int o_length, .int (o_tried + (1 : Int32)), .int o_given, .int o_at, .int o_pfx, .int o_pfd, .int o_short0])), (o_trial, .inl (cI, 20, .inl (upd o_trial_f (o_tried).toNatClampNeg (p0 &&& (255 : Int32)))))] H := hP
  have hD : va_D A [(o, .inr (6, [.int o_thrown, .int (115 : Int32), .ref o_ops, .ref o_sizes, .ref o_patterns, .ref o_leads, .ref o_codes, .ref o_tells, .ref o_numbers, .ref o_fields, .ref o_found, .long o_number, .long o_foundNumber, .ref o_bytes, .ref o_trial, .ref o_fed, .int o_length, .int (o_tried + (1 : Int32)), .int o_given, .int o_at, .int o_pfx, .int o_pfd, .int o_short0])), (o_trial, .inl (cI, 20, .inl (upd o_trial_f (o_tried).toNatClampNeg (p0 &&& (255 : Int32)))))] := hD
  cases E
  rw [hZ]
  exact qw_vret hx hb hr hlk hP hD hS dX7_put_24
