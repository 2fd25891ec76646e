/-! the reference's table, row by row -/
theorem take_row (pr : T7 → Int32) {k : Nat} {r : T7} (h : rTab[k]? = some r) : upd (fun j => ((rTab.take k).map pr).getD j 0) k (pr r) = fun j => ((rTab.take (k + 1)).map pr).getD j 0 := by
  have hk : k < rTab.length := (List.getElem?_eq_some_iff.mp h).1
  have ht : rTab.take (k + 1) = rTab.take k ++ [r] := by
    rw [List.take_add_one, h]
    rfl
  funext j
  rw [ht, List.map_append, List.getD_eq_getElem?_getD, List.getElem?_append]
  have hl : ((rTab.take k).map pr).length = k := by
    rw [List.length_map, List.length_take]
    omega
  rw [hl]
  unfold upd
  by_cases h1 : j = k
  · subst h1
    rw [if_pos rfl, if_neg (Nat.lt_irrefl j), Nat.sub_self]
    rfl
  · rw [if_neg h1]
    show ((rTab.take k).map pr).getD j 0 = _
    by_cases h2 : j < k
    · rw [if_pos h2, List.getD_eq_getElem?_getD]
    · rw [if_neg h2, List.getD_eq_getElem?_getD, List.getElem?_eq_none (by rw [hl]; omega), List.getElem?_eq_none (by simp; omega)]
theorem take_Ops {k : Nat} {r : T7} (h : rTab[k]? = some r) : upd (gOps (rTab.take k)) k (r.1) = gOps (rTab.take (k + 1)) := take_row (fun r => r.1) h
theorem take0_Ops : (fun _ => (0 : Int32)) = gOps (rTab.take 0) := by
  funext j
  show (0 : Int32) = (([] : List T7).map _).getD j 0
  rfl
theorem take115_Ops : gOps (rTab.take 115) = rOps := by
  unfold rOps
  congr 1
theorem take_Sizes {k : Nat} {r : T7} (h : rTab[k]? = some r) : upd (gSizes (rTab.take k)) k (r.2.1) = gSizes (rTab.take (k + 1)) := take_row (fun r => r.2.1) h
theorem take0_Sizes : (fun _ => (0 : Int32)) = gSizes (rTab.take 0) := by
  funext j
  show (0 : Int32) = (([] : List T7).map _).getD j 0
  rfl
theorem take115_Sizes : gSizes (rTab.take 115) = rSizes := by
  unfold rSizes
  congr 1
theorem take_Pats {k : Nat} {r : T7} (h : rTab[k]? = some r) : upd (gPats (rTab.take k)) k (r.2.2.1) = gPats (rTab.take (k + 1)) := take_row (fun r => r.2.2.1) h
theorem take0_Pats : (fun _ => (0 : Int32)) = gPats (rTab.take 0) := by
  funext j
  show (0 : Int32) = (([] : List T7).map _).getD j 0
  rfl
theorem take115_Pats : gPats (rTab.take 115) = rPats := by
  unfold rPats
  congr 1
theorem take_Leads {k : Nat} {r : T7} (h : rTab[k]? = some r) : upd (gLeads (rTab.take k)) k (r.2.2.2.1) = gLeads (rTab.take (k + 1)) := take_row (fun r => r.2.2.2.1) h
theorem take0_Leads : (fun _ => (0 : Int32)) = gLeads (rTab.take 0) := by
  funext j
  show (0 : Int32) = (([] : List T7).map _).getD j 0
  rfl
theorem take115_Leads : gLeads (rTab.take 115) = rLeads := by
  unfold rLeads
  congr 1
theorem take_Codes {k : Nat} {r : T7} (h : rTab[k]? = some r) : upd (gCodes (rTab.take k)) k (r.2.2.2.2.1) = gCodes (rTab.take (k + 1)) := take_row (fun r => r.2.2.2.2.1) h
theorem take0_Codes : (fun _ => (0 : Int32)) = gCodes (rTab.take 0) := by
  funext j
  show (0 : Int32) = (([] : List T7).map _).getD j 0
  rfl
theorem take115_Codes : gCodes (rTab.take 115) = rCodes := by
  unfold rCodes
  congr 1
theorem take_Tells {k : Nat} {r : T7} (h : rTab[k]? = some r) : upd (gTells (rTab.take k)) k (r.2.2.2.2.2.1) = gTells (rTab.take (k + 1)) := take_row (fun r => r.2.2.2.2.2.1) h
theorem take0_Tells : (fun _ => (0 : Int32)) = gTells (rTab.take 0) := by
  funext j
  show (0 : Int32) = (([] : List T7).map _).getD j 0
  rfl
theorem take115_Tells : gTells (rTab.take 115) = rTells := by
  unfold rTells
  congr 1
theorem take_Nums {k : Nat} {r : T7} (h : rTab[k]? = some r) : upd (gNums (rTab.take k)) k (r.2.2.2.2.2.2) = gNums (rTab.take (k + 1)) := take_row (fun r => r.2.2.2.2.2.2) h
theorem take0_Nums : (fun _ => (0 : Int32)) = gNums (rTab.take 0) := by
  funext j
  show (0 : Int32) = (([] : List T7).map _).getD j 0
  rfl
theorem take115_Nums : gNums (rTab.take 115) = rNums := by
  unfold rNums
  congr 1
set_option maxHeartbeats 4000000 in
theorem c_X7_addT (l : Launch) (D : va_G) (cI : ClassId) (tT : Nat) (o : Nat) (o_ops : Nat) (o_sizes : Nat) (o_patterns : Nat) (o_leads : Nat) (o_codes : Nat) (o_tells : Nat) (o_numbers : Nat) (o_fields : Nat) (o_found : Nat) (o_bytes : Nat) (o_trial : Nat) (o_fed : Nat) (o_thrown : Int32) (o_number : Int64) (o_foundNumber : Int64) (o_length : Int32) (o_tried : Int32) (o_given : Int32) (o_at : Int32) (o_pfx : Int32) (o_pfd : Int32) (o_short0 : Int32) (k : Nat) (a1 a2 a3 a4 a5 a6 a7 : Int32) (h : rTab[k]? = some (a1, a2, a3, a4, a5, a6, a7)) {f0 : Nat → Int32} {f1 : Nat → Int32} {f2 : Nat → Int32} {f3 : Nat → Int32} {f4 : Nat → Int32} {f5 : Nat → Int32} {f6 : Nat → Int32} (e0 : f0 = gOps (rTab.take k)) (e1 : f1 = gSizes (rTab.take k)) (e2 : f2 = gPats (rTab.take k)) (e3 : f3 = gLeads (rTab.take k)) (e4 : f4 = gCodes (rTab.take k)) (e5 : f5 = gTells (rTab.take k)) (e6 : f6 = gNums (rTab.take k)) : qM l yX7_add wsX7_add (qr 0 0) (qX tT) D vwCl [(cI, .int)] [(o, .inr (6, [.int o_thrown, .int (nI k), .ref o_ops, .ref o_sizes, .ref o_patterns, .ref o_leads, .ref o_codes, .ref o_tells, .ref o_numbers, .ref o_fields, .ref o_found, .long o_number, .long o_foundNumber, .ref o_bytes, .ref o_trial, .ref o_fed, .int o_length, .int o_tried, .int o_given, .int o_at, .int o_pfx, .int o_pfd, .int o_short0])), (o_ops, .inl (cI, 160, .inl f0)), (o_sizes, .inl (cI, 160, .inl f1)), (o_patterns, .inl (cI, 160, .inl f2)), (o_leads, .inl (cI, 160, .inl f3)), (o_codes, .inl (cI, 160, .inl f4)), (o_tells, .inl (cI, 160, .inl f5)), (o_numbers, .inl (cI, 160, .inl f6))] [.ref o, .int a1, .int a2, .int a3, .int a4, .int a5, .int a6, .int a7] none [(o, .inr (6, [.int o_thrown, .int (nI (k + 1)), .ref o_ops, .ref o_sizes, .ref o_patterns, .ref o_leads, .ref o_codes, .ref o_tells, .ref o_numbers, .ref o_fields, .ref o_found, .long o_number, .long o_foundNumber, .ref o_bytes, .ref o_trial, .ref o_fed, .int o_length, .int o_tried, .int o_given, .int o_at, .int o_pfx, .int o_pfd, .int o_short0])), (o_ops, .inl (cI, 160, .inl (gOps (rTab.take (k + 1))))), (o_sizes, .inl (cI, 160, .inl (gSizes (rTab.take (k + 1))))), (o_patterns, .inl (cI, 160, .inl (gPats (rTab.take (k + 1))))), (o_leads, .inl (cI, 160, .inl (gLeads (rTab.take (k + 1))))), (o_codes, .inl (cI, 160, .inl (gCodes (rTab.take (k + 1))))), (o_tells, .inl (cI, 160, .inl (gTells (rTab.take (k + 1))))), (o_numbers, .inl (cI, 160, .inl (gNums (rTab.take (k + 1)))))] := by
  have hk : k < 115 := (List.getElem?_eq_some_iff.mp h).1
  refine c_X7_add l D cI tT o o_ops o_sizes o_patterns o_leads o_codes o_tells o_numbers o_fields o_found o_bytes o_trial o_fed o_thrown (nI k) o_number o_foundNumber o_length o_tried o_given o_at o_pfx o_pfd o_short0 f0 f1 f2 f3 f4 f5 f6 a1 a2 a3 a4 a5 a6 a7 (⟨by rw [nI_toInt (by omega)]; omega, by rw [nI_toInt (by omega)]; omega⟩) (nI (k + 1)) (gOps (rTab.take (k + 1))) (gSizes (rTab.take (k + 1))) (gPats (rTab.take (k + 1))) (gLeads (rTab.take (k + 1))) (gCodes (rTab.take (k + 1))) (gTells (rTab.take (k + 1))) (gNums (rTab.take (k + 1))) ?_
  unfold f_X7_add
  rw [nI_clamp (by omega), ← nI_succ, e0, e1, e2, e3, e4, e5, e6, take_Ops h, take_Sizes h, take_Pats h, take_Leads h, take_Codes h, take_Tells h, take_Nums h]
