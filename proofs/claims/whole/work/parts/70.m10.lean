/-! the parts of a line's bytes -/
theorem W_eq {L size z : Int32} (h : szOK (f_X4_cell L 2) z) (ha : ¬ f_X7_allows z size = 0) : f_X4_sizeNeedsW L size = (if z = 3 then 1 else if size = 8 then (if z = 0 then 1 else if z = 1 then 1 else if z = 7 then 1 else 0) else 0) ∧ (z = 3 → size = 8) ∧ (z = 7 → size = 8) := by
  unfold f_X4_sizeNeedsW f_X4_sizeNeedsW_J4
  unfold f_X7_allows f_X7_allows_J26 f_X7_allows_J29 f_X7_allows_J12 f_X7_allows_J16 f_X7_allows_J19 f_X7_allows_J22 f_X7_allows_J25 at ha
  generalize f_X4_cell L 2 = c at h ⊢
  rcases h with ⟨rfl, rfl⟩ | ⟨rfl, rfl⟩ | ⟨rfl, rfl⟩ | ⟨rfl, rfl⟩ | ⟨rfl, rfl⟩ | ⟨rfl, rfl⟩ | ⟨rfl, rfl⟩ | ⟨rfl, rfl⟩ <;> by_cases h8 : size = 8 <;> simp_all
theorem width_eq {c6 rn size : Int32} (h : numOK c6 rn ∨ (c6 = 7 ∧ rn = 0) ∨ (c6 = 0 ∧ rn = 0)) : f_X4_numberWidth (numC c6 size) = f_X7_room rn size ∧ ∃ w, f_X7_room rn size = nI w ∧ w ≤ 8 ∧ (c6 ≠ 5 → w ≤ 4) := by
  unfold f_X4_numberWidth numC f_X7_room f_X7_room_J9
  rcases h with (⟨rfl, rfl⟩ | ⟨rfl, rfl⟩ | ⟨rfl, rfl⟩ | ⟨rfl, rfl⟩ | ⟨rfl, rfl⟩ | ⟨rfl, rfl⟩) | ⟨rfl, rfl⟩ | ⟨rfl, rfl⟩
  · exact ⟨by simp, 1, by simp; rfl, by decide, fun _ => by decide⟩
  · exact ⟨by simp, 1, by simp; rfl, by decide, fun _ => by decide⟩
  · exact ⟨by simp, 2, by simp; rfl, by decide, fun _ => by decide⟩
  · exact ⟨by simp, 4, by simp; rfl, by decide, fun _ => by decide⟩
  · exact ⟨by simp, 8, by simp; rfl, by decide, fun h => absurd rfl h⟩
  · by_cases hs : size = 1
    · exact ⟨by simp [hs], 1, by simp [hs]; rfl, by decide, fun _ => by decide⟩
    · exact ⟨by simp [hs], 4, by simp [hs]; rfl, by decide, fun _ => by decide⟩
  · exact ⟨by simp, 0, by simp; rfl, by decide, fun _ => by decide⟩
  · exact ⟨by simp, 0, by simp; rfl, by decide, fun _ => by decide⟩
theorem tG_eq {r q κ ρ o : Int32} (h : opOK r q κ ρ o) (g : Int32) : tG (tT κ q) ρ q g = if r = 1 then ρ &&& 7 else g := by
  unfold tG tT
  rcases h with ⟨rfl, rfl, rfl, rfl⟩ | ⟨rfl, rfl, rfl⟩ | ⟨rfl, rfl, rfl, -, -⟩ | ⟨rfl, rfl, rfl, rfl⟩ | ⟨rfl, rfl, rfl, -⟩ | ⟨rfl, rfl, rfl, rfl⟩ | ⟨rfl, rfl, rfl, rfl⟩ | ⟨rfl, rfl, rfl⟩ | ⟨rfl, rfl, rfl, rfl⟩ | ⟨rfl, rfl, rfl, rfl⟩ | ⟨rfl, rfl, rfl, rfl⟩ | ⟨rfl, rfl, rfl, rfl⟩ <;> simp
theorem tL_eq {r q κ ρ o : Int32} (h : opOK r q κ ρ o) (l : Int32) : tL (tT κ q) ρ q l = if r = 5 then ρ &&& 7 else if f_X4_isFormRole r = 0 then l else if κ = 2 then l else ρ &&& 7 := by
  unfold tL tT f_X4_isFormRole f_X4_isFormRole_J5
  rcases h with ⟨rfl, rfl, rfl, rfl⟩ | ⟨rfl, rfl, rfl⟩ | ⟨rfl, rfl, rfl, -, -⟩ | ⟨rfl, rfl, rfl, rfl⟩ | ⟨rfl, rfl, rfl, -⟩ | ⟨rfl, rfl, rfl, rfl⟩ | ⟨rfl, rfl, rfl, rfl⟩ | ⟨rfl, rfl, rfl⟩ | ⟨rfl, rfl, rfl, rfl⟩ | ⟨rfl, rfl, rfl, rfl⟩ | ⟨rfl, rfl, rfl, rfl⟩ | ⟨rfl, rfl, rfl, rfl⟩ <;> simp
theorem form_k {r q κ ρ o : Int32} (h : opOK r q κ ρ o) (h2 : κ = 2) : ¬ f_X4_isFormRole r = 0 := by
  unfold f_X4_isFormRole f_X4_isFormRole_J5
  rcases h with ⟨rfl, rfl, rfl, rfl⟩ | ⟨rfl, rfl, rfl⟩ | ⟨rfl, rfl, rfl, -, -⟩ | ⟨rfl, rfl, rfl, rfl⟩ | ⟨rfl, rfl, rfl, -⟩ | ⟨rfl, rfl, rfl, rfl⟩ | ⟨rfl, rfl, rfl, rfl⟩ | ⟨rfl, rfl, rfl⟩ | ⟨rfl, rfl, rfl, rfl⟩ | ⟨rfl, rfl, rfl, rfl⟩ | ⟨rfl, rfl, rfl, rfl⟩ | ⟨rfl, rfl, rfl, rfl⟩ <;> simp_all
theorem tb_c (t ρ q : Int32) : tb t ρ q = 0 ∨ tb t ρ q = 1 ∨ tb t ρ q = 4 := by
  unfold tb
  repeat' split
  all_goals simp
theorem pb_c (b i : Int32) : pb b i = 0 ∨ pb b i = 1 ∨ pb b i = 2 ∨ pb b i = 3 := by
  unfold pb
  repeat' split
  all_goals decide
theorem bits_c {w t0 t1 t2 p : Int32} (hw : w = 0 ∨ w = 8) (h0 : t0 = 0 ∨ t0 = 1 ∨ t0 = 4) (h1 : t1 = 0 ∨ t1 = 1 ∨ t1 = 4) (h2 : t2 = 0 ∨ t2 = 1 ∨ t2 = 4) (hp : p = 0 ∨ p = 1 ∨ p = 2 ∨ p = 3) :
    ((((w ||| t0) ||| t1) ||| t2) ||| p ≤ 0 ↔ (((w ||| t0) ||| t1) ||| t2) ||| p = 0) ∧ (w = 8 → ¬ (((w ||| t0) ||| t1) ||| t2) ||| p = 0) := by
  rcases hw with rfl | rfl <;> rcases h0 with rfl | rfl | rfl <;> rcases h1 with rfl | rfl | rfl <;> rcases h2 with rfl | rfl | rfl <;> rcases hp with rfl | rfl | rfl | rfl <;> decide
theorem or_mem {w t0 t1 t2 p k0 k1 k2 : Int32} :
    ((w ||| (t0 ||| (if k0 = 2 then p else 0))) ||| (t1 ||| (if k1 = 2 then p else 0))) ||| (t2 ||| (if k2 = 2 then p else 0)) = (((w ||| t0) ||| t1) ||| t2) ||| (if (if k0 = 2 then (1 : Int32) else if k1 = 2 then 1 else if k2 = 2 then 1 else 0) = 0 then 0 else p) := by
  by_cases h0 : k0 = 2 <;> by_cases h1 : k1 = 2 <;> by_cases h2 : k2 = 2 <;> simp [h0, h1, h2] <;> (apply Int32.toBitVec_inj.mp; simp only [Int32.toBitVec_or]; apply BitVec.eq_of_getLsbD_eq; intro i hi; simp only [BitVec.getLsbD_or]; cases w.toBitVec.getLsbD i <;> cases t0.toBitVec.getLsbD i <;> cases t1.toBitVec.getLsbD i <;> cases t2.toBitVec.getLsbD i <;> cases p.toBitVec.getLsbD i <;> rfl)
theorem mem_bits {b i x m : Int32} : (if m = 0 then (if m = 0 then x else if b ≤ 7 then x else if 16 ≤ b then x else x ||| 1) else if i ≤ 7 then (if m = 0 then x else if b ≤ 7 then x else if 16 ≤ b then x else x ||| 1) else (if m = 0 then x else if b ≤ 7 then x else if 16 ≤ b then x else x ||| 1) ||| 2) = x ||| (if m = 0 then 0 else pb b i) := by
  unfold pb
  by_cases hm : m = 0
  · simp [hm]
  · by_cases hb : b ≤ 7 <;> by_cases hb2 : 16 ≤ b <;> by_cases hi : i ≤ 7 <;> simp only [hm, hb, hb2, hi, if_true, if_false, Int32.or_assoc] <;> simp
theorem tN_1 (t w ρ : Int32) : tN t w ρ 1 = 1 := by
  unfold tN
  repeat' split
  all_goals rfl
