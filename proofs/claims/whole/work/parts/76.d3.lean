/-! a memory operand's bytes -/
theorem form_facts {r : Nat} (hr : r < 256) : f_X3_formMod (nI r) = (nI r) >>> ((6 : Int32) &&& 31) ∧ ((nI r) >>> ((6 : Int32) &&& 31) = 0 ∨ (nI r) >>> ((6 : Int32) &&& 31) = 1 ∨ (nI r) >>> ((6 : Int32) &&& 31) = 2 ∨ (nI r) >>> ((6 : Int32) &&& 31) = 3) ∧ ((nI r ≤ 191 ∧ ¬ (nI r) >>> ((6 : Int32) &&& 31) = 3) ∨ (¬ nI r ≤ 191 ∧ (nI r) >>> ((6 : Int32) &&& 31) = 3)) := by
  have := tb_256 (p := fun r => decide (f_X3_formMod (nI r) = (nI r) >>> ((6 : Int32) &&& 31) ∧ ((nI r) >>> ((6 : Int32) &&& 31) = 0 ∨ (nI r) >>> ((6 : Int32) &&& 31) = 1 ∨ (nI r) >>> ((6 : Int32) &&& 31) = 2 ∨ (nI r) >>> ((6 : Int32) &&& 31) = 3) ∧ ((nI r ≤ 191 ∧ ¬ (nI r) >>> ((6 : Int32) &&& 31) = 3) ∨ (¬ nI r ≤ 191 ∧ (nI r) >>> ((6 : Int32) &&& 31) = 3)))) (by decide +kernel) hr
  exact of_decide_eq_true this
theorem pfx_facts {x : Nat} (hx : x < 16) : f_X3_high (nI x) 1 = (nI x &&& 1) * 8 ∧ f_X3_high (nI x) 2 = ((nI x >>> ((1 : Int32) &&& 31)) &&& 1) * 8 ∧ f_X3_high (nI x) 4 = ((nI x >>> ((2 : Int32) &&& 31)) &&& 1) * 8 ∧ ((nI x &&& 1) * 8 = 0 ∨ (nI x &&& 1) * 8 = 8) ∧ (((nI x >>> ((1 : Int32) &&& 31)) &&& 1) * 8 = 0 ∨ ((nI x >>> ((1 : Int32) &&& 31)) &&& 1) * 8 = 8) ∧ (((nI x >>> ((2 : Int32) &&& 31)) &&& 1) * 8 = 0 ∨ ((nI x >>> ((2 : Int32) &&& 31)) &&& 1) * 8 = 8) := by
  have : ∀ x, x < 16 → (f_X3_high (nI x) 1 = (nI x &&& 1) * 8 ∧ f_X3_high (nI x) 2 = ((nI x >>> ((1 : Int32) &&& 31)) &&& 1) * 8 ∧ f_X3_high (nI x) 4 = ((nI x >>> ((2 : Int32) &&& 31)) &&& 1) * 8 ∧ ((nI x &&& 1) * 8 = 0 ∨ (nI x &&& 1) * 8 = 8) ∧ (((nI x >>> ((1 : Int32) &&& 31)) &&& 1) * 8 = 0 ∨ ((nI x >>> ((1 : Int32) &&& 31)) &&& 1) * 8 = 8) ∧ (((nI x >>> ((2 : Int32) &&& 31)) &&& 1) * 8 = 0 ∨ ((nI x >>> ((2 : Int32) &&& 31)) &&& 1) * 8 = 8)) := by decide +kernel
  exact this x hx
theorem bl_ne {B y : Int32} (hB : B = 0 ∨ B = 8) (hy : qv 0 7 y) : ¬ B + y = -1 ∧ ¬ B + y = 16 ∧ qv 0 15 (B + y) := by
  obtain ⟨q, rfl, h1, h2⟩ := qv_nI hy (by decide)
  rcases (show q = 0 ∨ q = 1 ∨ q = 2 ∨ q = 3 ∨ q = 4 ∨ q = 5 ∨ q = 6 ∨ q = 7 by omega) with rfl | rfl | rfl | rfl | rfl | rfl | rfl | rfl <;> rcases hB with rfl | rfl <;> decide
theorem mem_use {C A : Int32 × Int32 × Int32 × Int32 × Int32 × Int32} {R B : Int32 × Int32 × (Nat → Int32)} {c : Nat} {f i : Int32} {found : Nat → Int32} (e1 : C = A) (e2 : R = B) (k : ∃ nx' f' b ix sc d a' s' b' ix' sc' d', A = (nx', f', b, ix, sc, d) ∧ B = (a', s', memU found i b' ix' sc' d') ∧ Cur c nx' f' a' s' ∧ (f' = 0 → f = 0 ∧ b' = b ∧ ix' = ix ∧ sc' = sc ∧ d' = d)) :
    ∃ nx' f' b ix sc d a' s' b' ix' sc' d', C = (nx', f', b, ix, sc, d) ∧ R = (a', s', memU found i b' ix' sc' d') ∧ Cur c nx' f' a' s' ∧ (f' = 0 → f = 0 ∧ b' = b ∧ ix' = ix ∧ sc' = sc ∧ d' = d) := by
  rw [e1, e2]
  exact k
theorem mem_fin' {c : Nat} {row fed : Nat → Int32} (hR : Row c row fed) {nx f a s : Int32} (h : Cur c nx f a s) {w : Nat} (hw : w = 0 ∨ w = 1 ∨ w = 4) (sc ix b : Int32) (found : Nat → Int32) (i : Int32) :
    ∃ nx' f' b1 ix1 sc1 d a' s' b' ix' sc' d', f_X3_readMemory_J30 (nI c) row sc ix b nx f (nI w) = (nx', f', b1, ix1, sc1, d) ∧ f_X7_takeForm_J34 (nI c) found fed i a s b ix sc (nI w) = (a', s', memU found i b' ix' sc' d') ∧ Cur c nx' f' a' s' ∧ (f' = 0 → f = 0 ∧ b' = b1 ∧ ix' = ix1 ∧ sc' = sc1 ∧ d' = d) := by
  obtain ⟨nx', f', d, a', s', d', e1, e2, e3, e4⟩ := mem_fin hR h hw sc ix b found i
  exact ⟨nx', f', b, ix, sc, d, a', s', b, ix, sc, d', e1, e2, e3, fun h => ⟨(e4 h).1, rfl, rfl, rfl, (e4 h).2⟩⟩
set_option maxHeartbeats 4000000 in
theorem mem_rel {c : Nat} {row fed : Nat → Int32} (hR : Row c row fed) {r x : Nat} (hr : r < 256) (hx : x < 16) (h3 : ¬ (nI r) >>> ((6 : Int32) &&& 31) = 3) {nx f a s : Int32} (h : Cur c nx f a s) (pfd w : Int32) (found : Nat → Int32) (i : Int32) :
    ∃ nx' f' b ix sc d a' s' b' ix' sc' d', f_X3_readMemory nx f (nI x) (nI r) (nI c) row = (nx', f', b, ix, sc, d) ∧ f_X7_takeForm (nI c) a (nI x) pfd s found fed (nI r) i w = (a', s', memU found i b' ix' sc' d') ∧ Cur c nx' f' a' s' ∧ (f' = 0 → f = 0 ∧ b' = b ∧ ix' = ix ∧ sc' = sc ∧ d' = d) := by
  obtain ⟨hfm, hm, -⟩ := form_facts hr
  obtain ⟨h1, h2, -, hB, -, -⟩ := pfx_facts hx
  have hm' : (nI r) >>> ((6 : Int32) &&& 31) = 0 ∨ (nI r) >>> ((6 : Int32) &&& 31) = 1 ∨ (nI r) >>> ((6 : Int32) &&& 31) = 2 := by
    rcases hm with e | e | e | e
    · exact Or.inl e
    · exact Or.inr (Or.inl e)
    · exact Or.inr (Or.inr e)
    · exact absurd e h3
  unfold f_X3_readMemory f_X7_takeForm
  rw [if_neg h3]
  by_cases hl : nI r &&& 7 = 4
  · rw [if_pos hl, if_pos hl]
    obtain ⟨v, nx1, f1, v', a1, s1, e1, e2, hC, hv⟩ := cur_next hR h
    rw [e1, e2]
    dsimp only
    rcases hC with ⟨rfl, rfl⟩ | ⟨rfl, rfl, n, hp0, hn, rfl, rfl⟩
    · have hk : ∃ k, (nI r) >>> ((6 : Int32) &&& 31) = nI k ∧ (k = 0 ∨ k = 1 ∨ k = 2) := by
        rcases hm' with e | e | e
        · exact ⟨0, e, by omega⟩
        · exact ⟨1, e, by omega⟩
        · exact ⟨2, e, by omega⟩
      obtain ⟨k, hk, hk3⟩ := hk
      obtain ⟨a', b', ix', sc', d', g2⟩ := st_R10 hR found (nI x) i v' a1 hk hk3
      by_cases hz : f_X3_high (nI x) 2 + ((v >>> ((3 : Int32) &&& 31)) &&& 7) = 4
      · rw [if_pos hz]
        obtain ⟨nx', b, ix, sc, d, g1⟩ := st_C11 hR (nI x) (nI r) v nx1 1 (-1)
        exact ⟨_, _, _, _, _, _, _, _, _, _, _, _, g1, g2, Or.inl ⟨rfl, rfl⟩, fun h => absurd h (by decide)⟩
      · rw [if_neg hz]
        obtain ⟨nx', b, ix, sc, d, g1⟩ := st_C11 hR (nI x) (nI r) v nx1 ((1 : Int32) <<< ((v >>> ((6 : Int32) &&& 31)) &&& 31)) (f_X3_high (nI x) 2 + ((v >>> ((3 : Int32) &&& 31)) &&& 7))
        exact ⟨_, _, _, _, _, _, _, _, _, _, _, _, g1, g2, Or.inl ⟨rfl, rfl⟩, fun h => absurd h (by decide)⟩
    · obtain ⟨hf, rfl, r2, hr2, rfl⟩ := hv rfl
      subst hf
      have hv0 : 0 ≤ nI r2 := nI_pos' (by omega)
      obtain ⟨b1, b2, -⟩ := bl_ne hB (and7 (nI r2))
      have hCu : Cur c (nI n) 0 (nI n) 0 := Or.inr ⟨rfl, rfl, n, hp0, hn, rfl, rfl⟩
      rw [h2]
      unfold f_X3_readMemory_J11 f_X3_readMemory_J15 f_X3_readMemory_J21 f_X3_readMemory_J26 f_X7_takeForm_J10 f_X7_takeForm_J13 f_X7_takeForm_J17 f_X7_takeForm_J21 f_X7_takeForm_J24 f_X7_takeForm_J27 f_X7_takeForm_J30
      rw [hfm, h1]
      generalize ((nI x >>> ((1 : Int32) &&& 31)) &&& 1) * 8 + ((nI r2 >>> ((3 : Int32) &&& 31)) &&& 7) = z
      generalize (1 : Int32) <<< ((nI r2 >>> ((6 : Int32) &&& 31)) &&& 31) = sh
      generalize (nI x &&& 1) * 8 + (nI r2 &&& 7) = bb at b1 b2 ⊢
      generalize nI r2 &&& 7 = y
      generalize nI r2 = q at hv0 ⊢
      generalize (nI r) >>> ((6 : Int32) &&& 31) = m at hm' ⊢
      by_cases hz : z = 4
      · rcases hm' with rfl | rfl | rfl
        · by_cases hy : y = 5
          · exact mem_use (by simp [hz, hy] <;> rfl) (by simp [hz, hy, hv0] <;> rfl) (mem_fin' hR hCu (w := 4) (by decide) 1 (-1) (-1) found i)
          · exact mem_use (by simp [hz, hy, b1, b2] <;> rfl) (by simp [hz, hy, hv0] <;> rfl) (mem_fin' hR hCu (w := 0) (by decide) 1 (-1) bb found i)
        · exact mem_use (by simp [hz, b1, b2] <;> rfl) (by simp [hz, hv0] <;> rfl) (mem_fin' hR hCu (w := 1) (by decide) 1 (-1) bb found i)
        · exact mem_use (by simp [hz, b1, b2] <;> rfl) (by simp [hz, hv0] <;> rfl) (mem_fin' hR hCu (w := 4) (by decide) 1 (-1) bb found i)
      · rcases hm' with rfl | rfl | rfl
        · by_cases hy : y = 5
          · exact mem_use (by simp [hz, hy] <;> rfl) (by simp [hz, hy, hv0] <;> rfl) (mem_fin' hR hCu (w := 4) (by decide) sh z (-1) found i)
          · exact mem_use (by simp [hz, hy, b1, b2] <;> rfl) (by simp [hz, hy, hv0] <;> rfl) (mem_fin' hR hCu (w := 0) (by decide) sh z bb found i)
        · exact mem_use (by simp [hz, b1, b2] <;> rfl) (by simp [hz, hv0] <;> rfl) (mem_fin' hR hCu (w := 1) (by decide) sh z bb found i)
        · exact mem_use (by simp [hz, b1, b2] <;> rfl) (by simp [hz, hv0] <;> rfl) (mem_fin' hR hCu (w := 4) (by decide) sh z bb found i)
  · rw [if_neg hl, if_neg hl]
    have hv0 : ¬ (0 : Int32) ≤ -1 := by decide
    obtain ⟨b1, b2, -⟩ := bl_ne hB (and7 (nI r))
    unfold f_X3_readMemory_J21 f_X3_readMemory_J26 f_X7_takeForm_J10 f_X7_takeForm_J13 f_X7_takeForm_J17 f_X7_takeForm_J21 f_X7_takeForm_J24 f_X7_takeForm_J27 f_X7_takeForm_J30
    rw [hfm, h1]
    generalize (nI x &&& 1) * 8 + (nI r &&& 7) = bb at b1 b2 ⊢
    generalize nI r &&& 7 = y at hl ⊢
    generalize (nI r) >>> ((6 : Int32) &&& 31) = m at hm' ⊢
    rcases hm' with rfl | rfl | rfl
    · by_cases hy : y = 5
      · exact mem_use (by simp [hy] <;> rfl) (by simp [hy, hv0] <;> rfl) (mem_fin' hR h (w := 4) (by decide) 1 (-1) 16 found i)
      · exact mem_use (by simp [hy, b1, b2] <;> rfl) (by simp [hy, hv0] <;> rfl) (mem_fin' hR h (w := 0) (by decide) 1 (-1) bb found i)
    · exact mem_use (by simp [b1, b2] <;> rfl) (by simp [hv0] <;> rfl) (mem_fin' hR h (w := 1) (by decide) 1 (-1) bb found i)
    · exact mem_use (by simp [b1, b2] <;> rfl) (by simp [hv0] <;> rfl) (mem_fin' hR h (w := 4) (by decide) 1 (-1) bb found i)
