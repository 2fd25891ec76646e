/-! lines apart -/
abbrev DT := Nat × Nat × Nat × Nat × Nat × Nat × Nat
def dz : List DT := [
  (0, 0, 2, 0, 1, 1, 8),
  (1, 2, 2, 0, 1, 1, 8),
  (2, 4, 2, 0, 1, 1, 8),
  (3, 128, 2, 0, 1, 1, 0),
  (4, 131, 1, 0, 1, 1, 0),
  (5, 8, 2, 0, 1, 1, 8),
  (6, 10, 2, 0, 1, 1, 8),
  (7, 12, 2, 0, 1, 1, 8),
  (8, 128, 2, 0, 1, 1, 1),
  (9, 131, 1, 0, 1, 1, 1),
  (10, 16, 2, 0, 1, 1, 8),
  (11, 18, 2, 0, 1, 1, 8),
  (12, 20, 2, 0, 1, 1, 8),
  (13, 128, 2, 0, 1, 1, 2),
  (14, 131, 1, 0, 1, 1, 2),
  (15, 24, 2, 0, 1, 1, 8),
  (16, 26, 2, 0, 1, 1, 8),
  (17, 28, 2, 0, 1, 1, 8),
  (18, 128, 2, 0, 1, 1, 3),
  (19, 131, 1, 0, 1, 1, 3),
  (20, 32, 2, 0, 1, 1, 8),
  (21, 34, 2, 0, 1, 1, 8),
  (22, 36, 2, 0, 1, 1, 8),
  (23, 128, 2, 0, 1, 1, 4),
  (24, 131, 1, 0, 1, 1, 4),
  (25, 40, 2, 0, 1, 1, 8),
  (26, 42, 2, 0, 1, 1, 8),
  (27, 44, 2, 0, 1, 1, 8),
  (28, 128, 2, 0, 1, 1, 5),
  (29, 131, 1, 0, 1, 1, 5),
  (30, 48, 2, 0, 1, 1, 8),
  (31, 50, 2, 0, 1, 1, 8),
  (32, 52, 2, 0, 1, 1, 8),
  (33, 128, 2, 0, 1, 1, 6),
  (34, 131, 1, 0, 1, 1, 6),
  (35, 56, 2, 0, 1, 1, 8),
  (36, 58, 2, 0, 1, 1, 8),
  (37, 60, 2, 0, 1, 1, 8),
  (38, 128, 2, 0, 1, 1, 7),
  (39, 131, 1, 0, 1, 1, 7),
  (40, 136, 2, 0, 1, 1, 8),
  (41, 138, 2, 0, 1, 1, 8),
  (42, 198, 2, 0, 1, 1, 0),
  (43, 176, 8, 0, 1, 1, 8),
  (44, 184, 8, 0, 1, 0, 8),
  (45, 184, 8, 0, 0, 1, 8),
  (46, 132, 2, 0, 1, 1, 8),
  (47, 168, 2, 0, 1, 1, 8),
  (48, 246, 2, 0, 1, 1, 0),
  (49, 134, 2, 0, 1, 1, 8),
  (50, 141, 1, 0, 1, 1, 8),
  (51, 4022, 1, 0, 1, 1, 8),
  (52, 4030, 1, 0, 1, 1, 8),
  (53, 99, 1, 0, 0, 1, 8),
  (54, 246, 2, 0, 1, 1, 2),
  (55, 246, 2, 0, 1, 1, 3),
  (56, 246, 2, 0, 1, 1, 4),
  (57, 246, 2, 0, 1, 1, 5),
  (58, 246, 2, 0, 1, 1, 6),
  (59, 246, 2, 0, 1, 1, 7),
  (60, 254, 2, 0, 1, 1, 0),
  (61, 254, 2, 0, 1, 1, 1),
  (62, 4015, 1, 0, 1, 1, 8),
  (63, 105, 1, 0, 1, 1, 8),
  (64, 107, 1, 0, 1, 1, 8),
  (65, 192, 2, 0, 1, 1, 0),
  (66, 208, 2, 0, 1, 1, 0),
  (67, 210, 2, 0, 1, 1, 0),
  (68, 192, 2, 0, 1, 1, 1),
  (69, 208, 2, 0, 1, 1, 1),
  (70, 210, 2, 0, 1, 1, 1),
  (71, 192, 2, 0, 1, 1, 4),
  (72, 208, 2, 0, 1, 1, 4),
  (73, 210, 2, 0, 1, 1, 4),
  (74, 192, 2, 0, 1, 1, 5),
  (75, 208, 2, 0, 1, 1, 5),
  (76, 210, 2, 0, 1, 1, 5),
  (77, 192, 2, 0, 1, 1, 7),
  (78, 208, 2, 0, 1, 1, 7),
  (79, 210, 2, 0, 1, 1, 7),
  (80, 80, 8, 0, 1, 1, 8),
  (81, 104, 1, 0, 1, 1, 8),
  (82, 106, 1, 0, 1, 1, 8),
  (83, 255, 1, 0, 1, 1, 6),
  (84, 88, 8, 0, 1, 1, 8),
  (85, 143, 1, 0, 1, 1, 0),
  (86, 233, 1, 0, 1, 1, 8),
  (87, 235, 1, 0, 1, 1, 8),
  (88, 255, 1, 0, 1, 1, 4),
  (89, 232, 1, 0, 1, 1, 8),
  (90, 255, 1, 0, 1, 1, 2),
  (91, 195, 1, 0, 1, 1, 8),
  (92, 194, 1, 0, 1, 1, 8),
  (93, 3968, 16, 0, 1, 1, 8),
  (94, 112, 16, 0, 1, 1, 8),
  (95, 3984, 16, 0, 1, 1, 8),
  (96, 3904, 16, 0, 1, 1, 8),
  (97, 153, 1, 0, 1, 1, 8),
  (98, 152, 1, 0, 1, 1, 8),
  (99, 144, 1, 0, 1, 1, 8),
  (100, 204, 1, 0, 1, 1, 8),
  (101, 3851, 1, 0, 1, 1, 8),
  (102, 3845, 1, 0, 1, 1, 8),
  (103, 201, 1, 0, 1, 1, 8),
  (104, 4028, 1, 0, 1, 1, 8),
  (105, 4029, 1, 0, 1, 1, 8),
  (106, 4040, 8, 0, 1, 1, 8),
  (107, 4003, 1, 0, 1, 1, 8),
  (108, 4026, 1, 0, 1, 1, 4),
  (109, 4032, 2, 0, 1, 1, 8),
  (110, 4016, 2, 0, 1, 1, 8),
  (111, 164, 2, 0, 1, 1, 8),
  (112, 170, 2, 0, 1, 1, 8),
  (113, 164, 2, 1, 1, 1, 8),
  (114, 170, 2, 1, 1, 1, 8)]
def dzG (j : Nat) : DT := dz.getD j (0, 0, 0, 0, 0, 0, 0)
def dzL (j : Nat) : Bool := decide ((dzG j).1 = j) && decide (f_X4_opcodeOf (nI j) = nI (dzG j).2.1) && decide (f_X4_opcodes (nI j) = nI (dzG j).2.2.1) && decide (f_X4_isRepeated (nI j) = nI (dzG j).2.2.2.1) && decide (f_X4_allowsW (nI j) 0 = nI (dzG j).2.2.2.2.1) && decide (f_X4_allowsW (nI j) 1 = nI (dzG j).2.2.2.2.2.1) && decide ((dzG j).2.2.2.2.2.2 < 8 → f_X4_digitOf (nI j) = nI (dzG j).2.2.2.2.2.2) && decide ((dzG j).2.1 < 5000 ∧ (dzG j).2.2.1 < 20 ∧ (dzG j).2.2.2.1 < 2 ∧ (dzG j).2.2.2.2.1 < 2 ∧ (dzG j).2.2.2.2.2.1 < 2)
def apart (a b : DT) : Bool := a.1 == b.1 || decide (a.2.1 + a.2.2.1 ≤ b.2.1) || decide (b.2.1 + b.2.2.1 ≤ a.2.1) || decide (¬ a.2.2.2.1 = b.2.2.2.1) || (decide (a.2.2.2.2.1 = 0 ∨ b.2.2.2.2.1 = 0) && decide (a.2.2.2.2.2.1 = 0 ∨ b.2.2.2.2.2.1 = 0)) || decide (a.2.2.2.2.2.2 < 8 ∧ b.2.2.2.2.2.2 < 8 ∧ ¬ a.2.2.2.2.2.2 = b.2.2.2.2.2.2)
theorem dz_apart : dz.all (fun a => dz.all (fun b => apart a b)) = true := by decide +kernel
theorem dz_len : dz.length = 115 := by decide +kernel
theorem dz_mem {j : Nat} (hj : j < 115) : dzG j ∈ dz := by
  unfold dzG
  rw [List.getD_eq_getElem?_getD, List.getElem?_eq_getElem (by rw [dz_len]; exact hj)]
  exact List.getElem_mem _
theorem dz_line {j : Nat} (hj : j < 115) : (dzG j).1 = j ∧ f_X4_opcodeOf (nI j) = nI (dzG j).2.1 ∧ f_X4_opcodes (nI j) = nI (dzG j).2.2.1 ∧ f_X4_isRepeated (nI j) = nI (dzG j).2.2.2.1 ∧ f_X4_allowsW (nI j) 0 = nI (dzG j).2.2.2.2.1 ∧ f_X4_allowsW (nI j) 1 = nI (dzG j).2.2.2.2.2.1 ∧ ((dzG j).2.2.2.2.2.2 < 8 → f_X4_digitOf (nI j) = nI (dzG j).2.2.2.2.2.2) ∧ (dzG j).2.1 < 5000 ∧ (dzG j).2.2.1 < 20 ∧ (dzG j).2.2.2.1 < 2 ∧ (dzG j).2.2.2.2.1 < 2 ∧ (dzG j).2.2.2.2.2.1 < 2 := by
  have := tb_all (p := dzL) (by decide +kernel) hj
  simp only [dzL, Bool.and_eq_true, decide_eq_true_eq] at this
  obtain ⟨⟨⟨⟨⟨⟨⟨a, b⟩, c⟩, d⟩, e⟩, f⟩, g⟩, h⟩ := this
  exact ⟨a, b, c, d, e, f, g, h⟩
def MC (c n : Nat) (row : Nat → Int32) (mk x opcode : Int32) (j : Nat) : Prop := ¬ f_X4_hasOpcode (nI j) opcode = 0 ∧ ¬ f_X3_isTold (nI n) mk x (nI c) row (nI j) = 0
theorem mc_parts {c n : Nat} {row : Nat → Int32} {mk x opcode : Int32} {j : Nat} (h : MC c n row mk x opcode j) : (¬ opcode - f_X4_opcodeOf (nI j) < 0 ∧ ¬ f_X4_opcodes (nI j) ≤ opcode - f_X4_opcodeOf (nI j)) ∧ f_X4_isRepeated (nI j) = mk ∧ ¬ f_X4_allowsW (nI j) (f_X3_hasBit x 8) = 0 ∧ ¬ f_X4_allowsForm (nI j) (f_X2_at (nI c) row (nI n)) = 0 := by
  obtain ⟨h1, h2⟩ := h
  unfold f_X4_hasOpcode f_X4_hasOpcode_J4 at h1
  unfold f_X3_isTold f_X3_isTold_J5 at h2
  refine ⟨?_, ?_⟩
  · by_cases a : opcode - f_X4_opcodeOf (nI j) < 0
    · rw [if_pos a] at h1
      exact absurd rfl h1
    · rw [if_neg a] at h1
      by_cases b : f_X4_opcodes (nI j) ≤ opcode - f_X4_opcodeOf (nI j)
      · rw [if_pos b] at h1
        exact absurd rfl h1
      · exact ⟨a, b⟩
  · by_cases a : f_X4_isRepeated (nI j) = mk
    · rw [if_pos a] at h2
      by_cases b : f_X4_allowsW (nI j) (f_X3_hasBit x 8) = 0
      · rw [if_pos b] at h2
        exact absurd rfl h2
      · rw [if_neg b] at h2
        by_cases d : f_X4_allowsForm (nI j) (f_X2_at (nI c) row (nI n)) = 0
        · rw [if_pos d] at h2
          exact absurd rfl h2
        · exact ⟨a, b, d⟩
    · rw [if_neg a] at h2
      exact absurd rfl h2
theorem mc_of {c n : Nat} {row : Nat → Int32} {mk x opcode : Int32} {j : Nat} (h1 : ¬ opcode - f_X4_opcodeOf (nI j) < 0) (h2 : ¬ f_X4_opcodes (nI j) ≤ opcode - f_X4_opcodeOf (nI j)) (h3 : f_X4_isRepeated (nI j) = mk) (h4 : ¬ f_X4_allowsW (nI j) (f_X3_hasBit x 8) = 0) (h5 : ¬ f_X4_allowsForm (nI j) (f_X2_at (nI c) row (nI n)) = 0) : MC c n row mk x opcode j := by
  unfold MC f_X4_hasOpcode f_X4_hasOpcode_J4 f_X3_isTold f_X3_isTold_J5
  rw [if_neg h1, if_neg h2, if_pos h3, if_neg h4, if_neg h5]
  exact ⟨by decide, by decide⟩
theorem aF_digit {L d v : Int32} (hd : f_X4_digitOf L = d) (h0 : ¬ d < 0) (h7 : d ≤ 7) (h : ¬ f_X4_allowsForm L v = 0) : ¬ v < 0 ∧ (v >>> ((3 : Int32) &&& 31)) &&& 7 = d := by
  unfold f_X4_allowsForm f_X4_allowsForm_J6 at h
  rw [hd, if_neg h0, if_pos h7] at h
  by_cases a : v < 0
  · rw [if_pos a] at h
    exact absurd rfl h
  · rw [if_neg a] at h
    by_cases b : (v >>> ((3 : Int32) &&& 31)) &&& 7 = d
    · exact ⟨a, b⟩
    · rw [if_neg b] at h
      exact absurd rfl h
theorem mc_data {c n o : Nat} {row : Nat → Int32} {mk x : Int32} {j : Nat} (hj : j < 115) (ho : o < 5000) (h : MC c n row mk x (nI o) j) : (dzG j).2.1 ≤ o ∧ o < (dzG j).2.1 + (dzG j).2.2.1 ∧ nI (dzG j).2.2.2.1 = mk ∧ (x &&& 8 = 0 → ¬ (dzG j).2.2.2.2.1 = 0) ∧ (¬ x &&& 8 = 0 → ¬ (dzG j).2.2.2.2.2.1 = 0) ∧ ((dzG j).2.2.2.2.2.2 < 8 → (f_X2_at (nI c) row (nI n) >>> ((3 : Int32) &&& 31)) &&& 7 = nI (dzG j).2.2.2.2.2.2) := by
  obtain ⟨⟨a, b⟩, r, w, f⟩ := mc_parts h
  obtain ⟨-, e1, e2, e3, e4, e5, e6, b1, b2, b3, b4, b5⟩ := dz_line hj
  rw [e1] at a b
  rw [e2] at b
  have hs : (nI o - nI (dzG j).2.1).toInt = (o : Int) - ((dzG j).2.1 : Int) := by
    rw [Int32.toInt_sub, nI_toInt (by omega), nI_toInt (by omega)]
    exact qv_bm (by omega) (by omega)
  have hz : (0 : Int32).toInt = 0 := rfl
  rw [Int32.lt_iff_toInt_lt, hs, hz] at a
  rw [Int32.le_iff_toInt_le, hs, nI_toInt (by omega)] at b
  rw [bit8] at w
  refine ⟨by omega, by omega, by rw [← e3]; exact r, fun h0 h1 => ?_, fun h0 h1 => ?_, fun h8 => ?_⟩
  · rw [if_pos h0, e4, h1] at w
    exact w rfl
  · rw [if_neg h0, e5, h1] at w
    exact w rfl
  · have h7 : nI (dzG j).2.2.2.2.2.2 ≤ 7 := nI_le (b := 7) (by omega) (by decide)
    exact (aF_digit (e6 h8) (nI_pos (by omega)) h7 f).2
theorem mc_one {c n o : Nat} {row : Nat → Int32} {mk x : Int32} {i j : Nat} (hi : i < 115) (hj : j < 115) (ho : o < 5000) (h : MC c n row mk x (nI o) i) (h' : MC c n row mk x (nI o) j) : i = j := by
  obtain ⟨a1, a2, a3, a4, a5, a6⟩ := mc_data hi ho h
  obtain ⟨b1, b2, b3, b4, b5, b6⟩ := mc_data hj ho h'
  obtain ⟨ai, -, -, -, -, -, -, -, -, ar, aw, av⟩ := dz_line hi
  obtain ⟨bi, -, -, -, -, -, -, -, -, br, bw, bv⟩ := dz_line hj
  have hap : apart (dzG i) (dzG j) = true := List.all_eq_true.mp (List.all_eq_true.mp dz_apart _ (dz_mem hi)) _ (dz_mem hj)
  unfold apart at hap
  simp only [Bool.or_eq_true, Bool.and_eq_true, decide_eq_true_eq, beq_iff_eq] at hap
  rcases hap with ((((h1 | h1) | h1) | h1) | h1) | h1
  · rw [ai, bi] at h1
    exact h1
  · omega
  · omega
  · rw [← b3] at a3
    exact absurd ((nI_eq (by omega) (by omega)).mp a3) h1
  · by_cases hx : x &&& 8 = 0
    · rcases h1.1 with q | q
      · exact absurd q (a4 hx)
      · exact absurd q (b4 hx)
    · rcases h1.2 with q | q
      · exact absurd q (a5 hx)
      · exact absurd q (b5 hx)
  · have := (a6 h1.1).symm.trans (b6 h1.2.1)
    exact absurd ((nI_eq (by omega) (by omega)).mp this) h1.2.2
/-! a line tried: class and reference -/
theorem fits_nf {C pfx pfd p p1 p2 : Int32} {found fed : Nat → Int32} : f_X7_fits C pfx pfd found fed p p1 p2 = f_X7_fits_J3 C pfx pfd found fed p p1 p2 (if rLeads p.toNatClampNeg = 243 then 1 else 0) := by
  unfold f_X7_fits
  by_cases h : rLeads p.toNatClampNeg = 243
  · rw [if_pos h, if_pos h]
  · rw [if_neg h, if_neg h]
theorem fits_bad {C pfx pfd p p1 p2 : Int32} {found fed : Nat → Int32} (h : ¬ p2 = (if rLeads p.toNatClampNeg = 243 then 1 else 0)) : (f_X7_fits C pfx pfd found fed p p1 p2).1 = 0 := by
  rw [fits_nf]
  unfold f_X7_fits_J3
  rw [if_neg h]
theorem fits_15 {C pfx pfd p p1 p2 a s : Int32} {found fed : Nat → Int32} (h : p2 = (if rLeads p.toNatClampNeg = 243 then 1 else 0)) (hl : rLeads p.toNatClampNeg = 15) (e : f_X7_next C p1 0 fed = (15, a, s)) : f_X7_fits C pfx pfd found fed p p1 p2 = f_X7_fits_J13 C pfx pfd found fed p a s := by
  rw [fits_nf]
  unfold f_X7_fits_J3
  rw [if_pos h, if_pos hl, e]
  dsimp only
  rw [if_pos rfl]
theorem fits_15z {C pfx pfd p p1 p2 v a s : Int32} {found fed : Nat → Int32} (hl : rLeads p.toNatClampNeg = 15) (e : f_X7_next C p1 0 fed = (v, a, s)) (hv : ¬ v = 15) : (f_X7_fits C pfx pfd found fed p p1 p2).1 = 0 := by
  by_cases h : p2 = (if rLeads p.toNatClampNeg = 243 then 1 else 0)
  · rw [fits_nf]
    unfold f_X7_fits_J3
    rw [if_pos h, if_pos hl, e]
    dsimp only
    rw [if_neg hv]
  · exact fits_bad h
theorem fits_n {C pfx pfd p p1 p2 : Int32} {found fed : Nat → Int32} (h : p2 = (if rLeads p.toNatClampNeg = 243 then 1 else 0)) (hl : ¬ rLeads p.toNatClampNeg = 15) : f_X7_fits C pfx pfd found fed p p1 p2 = f_X7_fits_J13 C pfx pfd found fed p p1 0 := by
  rw [fits_nf]
  unfold f_X7_fits_J3
  rw [if_pos h, if_neg hl]
theorem most1 {m o : Int32} (h : m = 0 ∨ m = 1 ∨ m = 7 ∨ m = 15) : m + 1 ≤ o ↔ ¬ o ≤ m := by
  rw [Int32.le_iff_toInt_le, Int32.le_iff_toInt_le]
  rcases h with rfl | rfl | rfl | rfl
  · have e1 : ((0 : Int32) + 1).toInt = 1 := by decide
    have e2 : (0 : Int32).toInt = 0 := rfl
    omega
  · have e1 : ((1 : Int32) + 1).toInt = 2 := by decide
    have e2 : (1 : Int32).toInt = 1 := rfl
    omega
  · have e1 : ((7 : Int32) + 1).toInt = 8 := by decide
    have e2 : (7 : Int32).toInt = 7 := rfl
    omega
  · have e1 : ((15 : Int32) + 1).toInt = 16 := by decide
    have e2 : (15 : Int32).toInt = 15 := rfl
    omega
set_option maxHeartbeats 4000000 in
theorem line_core {c j n m x : Nat} {row fed : Nat → Int32} (hR : Row c row fed) (hj : j < 115) (hx : x < 16) (hn0 : 0 < n) (hn : n ≤ c) {pfd code opcode oform mk : Int32} (hpp : pfd = 0 → x = 0) (hoff : opcode - f_X4_opcodeOf (nI j) = code - rCodes j) (hrep : f_X4_isRepeated (nI j) = mk) (hnext : f_X7_next (nI c) (nI m) 0 fed = (code, nI n, 0)) (found kf rf : Nat → Int32) :
    (MC c n row mk (nI x) opcode j ∧ ∃ f0, LR c f0 (f_X3_readLine (nI n) 0 pfd (nI x) opcode oform (nI c) row kf rf (nI j)) (f_X7_fits_J13 (nI c) (nI x) pfd found fed (nI j) (nI m) 0)) ∨ (¬ MC c n row mk (nI x) opcode j ∧ (f_X7_fits_J13 (nI c) (nI x) pfd found fed (nI j) (nI m) 0).1 = 0) := by
  have hc := nI_cl hj
  obtain ⟨-, -, -, -, -, -, sz, -⟩ := tb_line hj
  obtain ⟨-, -, -, -, q5, -⟩ := tb_lineQ hj
  obtain ⟨-, t2, -, t4, -, -, t7⟩ := tb_lineT hj
  rw [J13_m hnext, hc]
  have hw : (if nI x &&& 8 = 0 then (0 : Int32) else 1) = 0 ∨ (if nI x &&& 8 = 0 then (0 : Int32) else 1) = 1 := by
    by_cases h : nI x &&& 8 = 0
    · rw [if_pos h]; exact Or.inl rfl
    · rw [if_neg h]; exact Or.inr rfl
  by_cases h0 : code - rCodes j < 0
  · refine Or.inr ⟨fun hM => ?_, J29_z (by rw [hc]; exact Or.inl h0)⟩
    have := (mc_parts hM).1.1
    rw [hoff] at this
    exact this h0
  by_cases hm : ¬ code - rCodes j ≤ mostR j
  · refine Or.inr ⟨fun hM => ?_, J29_z (by rw [hc]; exact Or.inr hm)⟩
    have := (mc_parts hM).1.2
    rw [hoff, t2] at this
    exact this ((most1 t7).mpr hm)
  have hm := Decidable.not_not.mp hm
  have ho1 : ¬ opcode - f_X4_opcodeOf (nI j) < 0 := by rw [hoff]; exact h0
  have ho2 : ¬ f_X4_opcodes (nI j) ≤ opcode - f_X4_opcodeOf (nI j) := by
    rw [hoff, t2]
    exact fun h => (most1 t7).mp h hm
  rw [J29_ok (by rw [hc]; exact h0) (by rw [hc]; exact hm)]
  by_cases hr : rightR (rSizes j) (if nI x &&& 8 = 0 then 0 else 1) = 0
  · refine Or.inr ⟨fun hM => ?_, J34_z (by rw [hc]; exact hr)⟩
    have := (mc_parts hM).2.2.1
    rw [bit8] at this
    exact this ((aW_eq sz hw).mpr hr)
  have hW : ¬ f_X4_allowsW (nI j) (f_X3_hasBit (nI x) 8) = 0 := by
    rw [bit8]
    exact fun h => hr ((aW_eq sz hw).mp h)
  have hJ := J34_ok (C := nI c) (pfx := nI x) (pfd := pfd) (p := nI j) (code := code) (a := nI n) (s := 0) (w := if nI x &&& 8 = 0 then 0 else 1) (L := f_X4_cell (nI j) 2) (found := found) (fed := fed) (by rw [hc]; exact sz) hw (by rw [hc]; exact hr)
  rw [hc] at hJ
  rw [hJ]
  have line := line_rel (oform := oform) (opcode := opcode) hR hj hx hn0 hn hpp hoff h0 hm hr
  rcases q5 with ⟨q, h8⟩ | ⟨⟨h1, h2⟩, h3⟩
  · have hF : ¬ f_X4_allowsForm (nI j) (f_X2_at (nI c) row (nI n)) = 0 := by
      unfold f_X4_allowsForm
      rcases q with q | q
      · rw [if_pos q]
        decide
      · by_cases q0 : f_X4_digitOf (nI j) < 0
        · rw [if_pos q0]
          decide
        · have q7 : ¬ f_X4_digitOf (nI j) ≤ 7 := by
            have e7 : (7 : Int32).toInt = 7 := rfl
            have e8 : (8 : Int32).toInt = 8 := rfl
            rw [Int32.le_iff_toInt_le] at q ⊢
            omega
          rw [if_neg q0, if_neg q7]
          decide
    obtain ⟨f0, -, hL⟩ := line (Or.inl h8) found kf rf
    exact Or.inl ⟨mc_of ho1 ho2 hrep hW hF, f0, hL⟩
  · have h7 : f_X4_digitOf (nI j) ≤ 7 := by
      have e7 : (7 : Int32).toInt = 7 := rfl
      have e8 : (8 : Int32).toInt = 8 := rfl
      rw [Int32.le_iff_toInt_le] at h2 ⊢
      omega
    have h8 : ¬ 8 ≤ rTells j := by rw [h3]; exact h2
    have hfm := t4 h8
    by_cases hd : (((if n < c then row n else 0) >>> ((3 : Int32) &&& 31)) &&& 7) = rTells j
    · obtain ⟨f0, hf0, hL⟩ := line (Or.inr hd) found kf rf
      by_cases hnc : n < c
      · have hF : ¬ f_X4_allowsForm (nI j) (f_X2_at (nI c) row (nI n)) = 0 := by
          unfold f_X4_allowsForm f_X4_allowsForm_J6
          rw [if_neg h1, if_pos h7, at_eq hR.1 (by have := hR.1; omega), if_pos hnc]
          rw [if_pos hnc] at hd
          have hv : ¬ row n < 0 := by
            intro hv
            have := Int32.lt_iff_toInt_lt.mp hv
            have e0 : (0 : Int32).toInt = 0 := rfl
            have := (hR.2.2 n hnc).1
            omega
          rw [if_neg hv, if_pos (by rw [hd, h3])]
          decide
        exact Or.inl ⟨mc_of ho1 ho2 hrep hW hF, f0, hL⟩
      · refine Or.inr ⟨fun hM => ?_, ?_⟩
        · have hF := (aF_digit rfl h1 h7 (mc_parts hM).2.2.2).1
          rw [at_eq hR.1 (by have := hR.1; omega), if_neg hnc] at hF
          exact hF (by decide)
        · rcases hL with ⟨-, h⟩ | ⟨-, h, -⟩
          · exact h
          · rw [hf0 hfm hnc] at h
            exact absurd h (by decide)
    · refine Or.inr ⟨fun hM => ?_, ?_⟩
      · obtain ⟨g1, g2⟩ := aF_digit rfl h1 h7 (mc_parts hM).2.2.2
        rw [at_eq hR.1 (by have := hR.1; omega)] at g1 g2
        by_cases hnc : n < c
        · rw [if_pos hnc] at g2 hd
          exact hd (by rw [g2, h3])
        · rw [if_neg hnc] at g1
          exact g1 (by decide)
      · obtain ⟨r, nx', f', a', s', hr256, hrv, e1, e2, -⟩ := oct_ok hR hn
        rw [J59_nf]
        refine J62_z (v := nI r) (by rw [hc, hfm]; decide) e2 (by rw [hc]; exact h8) ?_
        rw [hc, hrv]
        exact hd
def HeadOK (c n0 n : Nat) (row : Nat → Int32) (o : Nat) : Prop := (o < 256 ∧ ¬ o = 15 ∧ n0 < c ∧ row n0 = nI o ∧ n = n0 + 1) ∨ (∃ b : Nat, b < 256 ∧ n0 + 1 < c ∧ row n0 = 15 ∧ row (n0 + 1) = nI b ∧ o = 3840 + b ∧ n = n0 + 2)
theorem line_two {c j n n0 o x : Nat} {row fed : Nat → Int32} (hR : Row c row fed) (hj : j < 115) (hx : x < 16) (hH : HeadOK c n0 n row o) {pfd oform mk : Int32} (hpp : pfd = 0 → x = 0) (found kf rf : Nat → Int32) :
    (MC c n row mk (nI x) (nI o) j ∧ ∃ f0, LR c f0 (f_X3_readLine (nI n) 0 pfd (nI x) (nI o) oform (nI c) row kf rf (nI j)) (f_X7_fits (nI c) (nI x) pfd found fed (nI j) (nI n0) mk)) ∨ (¬ MC c n row mk (nI x) (nI o) j ∧ (f_X7_fits (nI c) (nI x) pfd found fed (nI j) (nI n0) mk).1 = 0) := by
  have hc := nI_cl hj
  have hc16 := hR.1
  obtain ⟨q1, q2, q3, ⟨q4a, q4b⟩, -⟩ := tb_lineQ hj
  obtain ⟨-, t2, t3, -, -, -, t7⟩ := tb_lineT hj
  have hcodes : qv 0 255 (rCodes j) := ⟨qv_l4 q4a (by decide), qv_h2 q4b (by decide)⟩
  by_cases hrep : ¬ f_X4_isRepeated (nI j) = mk
  · refine Or.inr ⟨fun hM => hrep (mc_parts hM).2.1, fits_bad ?_⟩
    rw [hc, ← q1]
    exact fun h => hrep h.symm
  have hrep := Decidable.not_not.mp hrep
  have hp2 : mk = (if rLeads (nI j).toNatClampNeg = 243 then 1 else 0) := by rw [hc, ← q1]; exact hrep.symm
  rcases hH with ⟨ho, h15, hn0, hrow, rfl⟩ | ⟨b, hb, hn0, hrow, hrow2, rfl, rfl⟩
  · have hnext : f_X7_next (nI c) (nI n0) 0 fed = (nI o, nI (n0 + 1), 0) := by
      rw [nxt_eq hc16 (by omega), if_pos hn0, ← hR.2.1 n0 hn0, hrow]
      simp only [hn0, if_true]
    by_cases hl : rLeads j = 15
    · refine Or.inr ⟨fun hM => ?_, fits_15z (by rw [hc]; exact hl) hnext (fun h => h15 ((nI_eq (b := 15) (by omega) (by decide)).mp h))⟩
      have := (mc_parts hM).1.1
      rw [q3, if_pos hl] at this
      apply this
      obtain ⟨k, e, g1, g2⟩ := qv_nI hcodes (by decide)
      rw [e, show (3840 : Int32) + nI k = nI (3840 + k) from nI_add 3840 k, Int32.lt_iff_toInt_lt, Int32.toInt_sub, nI_toInt (by omega), nI_toInt (by omega)]
      have e0 : (0 : Int32).toInt = 0 := rfl
      rw [e0, qv_bm (by omega) (by omega)]
      omega
    · rw [fits_n hp2 (by rw [hc]; exact hl)]
      exact line_core hR hj hx (by omega) (by omega) hpp (by rw [q3, if_neg hl]) hrep hnext found kf rf
  · have hnext : f_X7_next (nI c) (nI n0) 0 fed = (15, nI (n0 + 1), 0) := by
      have h0 : n0 < c := by omega
      rw [nxt_eq hc16 (by omega), if_pos h0, ← hR.2.1 n0 h0, hrow]
      simp only [h0, if_true]
    have hnext2 : f_X7_next (nI c) (nI (n0 + 1)) 0 fed = (nI b, nI (n0 + 2), 0) := by
      rw [nxt_eq hc16 (by omega), if_pos hn0, ← hR.2.1 _ hn0, hrow2]
      simp only [hn0, if_true]
    by_cases hl : rLeads j = 15
    · rw [fits_15 hp2 (by rw [hc]; exact hl) hnext]
      refine line_core hR hj hx (by omega) (by omega) hpp ?_ hrep hnext2 found kf rf
      rw [q3, if_pos hl, ← nI_add 3840 b]
      show (3840 : Int32) + nI b - (3840 + rCodes j) = nI b - rCodes j
      grind
    · rw [fits_n hp2 (by rw [hc]; exact hl)]
      refine Or.inr ⟨fun hM => ?_, ?_⟩
      · have := (mc_parts hM).1.2
        rw [q3, if_neg hl, t2] at this
        apply this
        obtain ⟨k, e, g1, g2⟩ := qv_nI hcodes (by decide)
        rw [e, Int32.le_iff_toInt_le, Int32.toInt_sub, nI_toInt (by omega), nI_toInt (by omega), qv_bm (by omega) (by omega)]
        rcases t7 with t | t | t | t
        · rw [t, show ((0 : Int32) + 1).toInt = 1 by decide]; omega
        · rw [t, show ((1 : Int32) + 1).toInt = 2 by decide]; omega
        · rw [t, show ((7 : Int32) + 1).toInt = 8 by decide]; omega
        · rw [t, show ((15 : Int32) + 1).toInt = 16 by decide]; omega
      · rw [J13_m hnext, hc]
        refine J29_z ?_
        rw [hc]
        exact t3 hl
