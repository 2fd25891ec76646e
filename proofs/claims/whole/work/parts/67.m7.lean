/-! bytes written: class and reference alike -/
def RelR (n : Nat) (row tr : Nat → Int32) : Prop := ∀ i, i < n → row i = tr i
theorem relR_upd {n : Nat} {row tr : Nat → Int32} {v w : Int32} (h : RelR n row tr) (hv : v = w) : RelR (n + 1) (upd row n v) (upd tr n w) := by
  intro i hi
  unfold upd
  by_cases hc : i = n
  · simp [hc, hv]
  · simp only [hc, if_false]
    exact h i (by omega)
theorem app_eq {n : Nat} (hn : n < 16) (row : Nat → Int32) (x : Int32) : f_X2_append (nI n) row x = (nI (n + 1), upd row n (x &&& 255)) := by
  unfold f_X2_append f_X2_append_J5
  have h1 : ¬ nI n < 0 := nI_pos (by omega)
  have h2 : ¬ (16 : Int32) ≤ nI n := nI_ge (a := n) (b := 16) hn (by decide)
  rw [if_neg h1, if_neg h2, nI_clamp (by omega), nI_succ]
theorem put_eq {n : Nat} (hn : n < 2 ^ 31) (tr : Nat → Int32) (y : Int32) : f_X7_put (nI n) tr y = (nI (n + 1), upd tr n (y &&& 255)) := by
  unfold f_X7_put
  rw [nI_clamp hn, nI_succ]
theorem by8 (v : Int64) {k : Nat} (hk : k < 8) : ((v.toUInt64 >>> (((8 : Int32) * nI k).toInt64.toUInt64 &&& Int64.toUInt64 63)).toInt64).toInt32 &&& 255 = (((v >>> (((8 : Int32) * nI k).toInt64 &&& 63)) &&& (255 : Int64)).toInt32) &&& 255 := by
  have hs : ((8 : Int32) * nI k).toInt64 &&& 63 = Int64.ofNat (8 * k) := by
    rcases (show k = 0 ∨ k = 1 ∨ k = 2 ∨ k = 3 ∨ k = 4 ∨ k = 5 ∨ k = 6 ∨ k = 7 by omega) with rfl | rfl | rfl | rfl | rfl | rfl | rfl | rfl <;> decide
  have hu : ((8 : Int32) * nI k).toInt64.toUInt64 &&& Int64.toUInt64 63 = UInt64.ofNat (8 * k) := by
    rcases (show k = 0 ∨ k = 1 ∨ k = 2 ∨ k = 3 ∨ k = 4 ∨ k = 5 ∨ k = 6 ∨ k = 7 by omega) with rfl | rfl | rfl | rfl | rfl | rfl | rfl | rfl <;> decide
  have hm : ((Int64.ofNat (8 * k)).toBitVec.smod 64).toNat = 8 * k := by
    rcases (show k = 0 ∨ k = 1 ∨ k = 2 ∨ k = 3 ∨ k = 4 ∨ k = 5 ∨ k = 6 ∨ k = 7 by omega) with rfl | rfl | rfl | rfl | rfl | rfl | rfl | rfl <;> decide
  have hw : ((UInt64.ofNat (8 * k)).toBitVec % 64).toNat = 8 * k := by
    rcases (show k = 0 ∨ k = 1 ∨ k = 2 ∨ k = 3 ∨ k = 4 ∨ k = 5 ∨ k = 6 ∨ k = 7 by omega) with rfl | rfl | rfl | rfl | rfl | rfl | rfl | rfl <;> decide
  rw [hs, hu]
  apply Int32.toBitVec_inj.mp
  rw [Int32.toBitVec_and, Int32.toBitVec_and, Int64.toBitVec_toInt32, Int64.toBitVec_toInt32, Int64.toBitVec_and, Int64.toBitVec_shiftRight]
  have hl : ((v.toUInt64 >>> UInt64.ofNat (8 * k)).toInt64).toBitVec = v.toBitVec >>> (8 * k) := by
    show (v.toUInt64 >>> UInt64.ofNat (8 * k)).toBitVec = _
    rw [UInt64.toBitVec_shiftRight, BitVec.ushiftRight_eq', hw]
    rfl
  rw [hl]
  apply BitVec.eq_of_getLsbD_eq
  intro i hi
  have h255 : (255 : Int32).toBitVec.getLsbD i = decide (i < 8) := by
    have : ∀ i, i < 32 → (255 : Int32).toBitVec.getLsbD i = decide (i < 8) := by decide
    exact this i hi
  simp only [BitVec.getLsbD_and, h255]
  by_cases h8 : i < 8
  · have h255' : (255 : Int64).toBitVec.getLsbD i = true := by
      have : ∀ i, i < 8 → (255 : Int64).toBitVec.getLsbD i = true := by decide
      exact this i h8
    have e0 : i < 64 := by omega
    have e1 : ¬ (64 ≤ i) := by omega
    have e2 : 8 * k + i < 64 := by omega
    rw [BitVec.sshiftRight_eq', hm, BitVec.getLsbD_signExtend, BitVec.getLsbD_signExtend]
    simp only [BitVec.getLsbD_and, BitVec.getLsbD_ushiftRight, BitVec.getLsbD_sshiftRight, h255', e0, if_true]
    simp [e1, e2, hi]
  · simp [h8]
theorem all_step (v : Int64) (w : Nat) (hw : w ≤ 8) : ∀ (m k n : Nat) (row tr : Nat → Int32) (f1 f2 : Nat), k + m = w → n + m ≤ 16 → m < f1 → m < f2 → RelR n row tr →
    ∃ row' tr', f_X2_appendLowestFirst_L8 v (nI w) f1 (nI k) (nI n) row = (nI (n + m), row') ∧ f_X7_putAll_L8 v (nI w) f2 (nI k) (nI n) tr = (nI (n + m), tr') ∧ RelR (n + m) row' tr' := by
  intro m
  induction m with
  | zero =>
    intro k n row tr f1 f2 hk hn h1 h2 hR
    obtain ⟨a, rfl⟩ : ∃ a, f1 = a + 1 := ⟨f1 - 1, by omega⟩
    obtain ⟨b, rfl⟩ : ∃ b, f2 = b + 1 := ⟨f2 - 1, by omega⟩
    have hc : nI w ≤ nI k := nI_le (by omega) (by omega)
    rw [f_X2_appendLowestFirst_L8, f_X7_putAll_L8, if_pos hc, if_pos hc]
    exact ⟨row, tr, rfl, rfl, hR⟩
  | succ m ih =>
    intro k n row tr f1 f2 hk hn h1 h2 hR
    obtain ⟨a, rfl⟩ : ∃ a, f1 = a + 1 := ⟨f1 - 1, by omega⟩
    obtain ⟨b, rfl⟩ : ∃ b, f2 = b + 1 := ⟨f2 - 1, by omega⟩
    have hc : ¬ nI w ≤ nI k := nI_ge (by omega) (by omega)
    rw [f_X2_appendLowestFirst_L8, f_X7_putAll_L8, if_neg hc, if_neg hc, app_eq (by omega), put_eq (by omega)]
    dsimp only
    rw [← nI_succ]
    have := ih (k + 1) (n + 1) _ _ a b (by omega) (by omega) (by omega) (by omega) (relR_upd hR (by8 v (k := k) (by omega)))
    rw [show n + 1 + m = n + (m + 1) by omega] at this
    exact this
theorem all_eq (v : Int64) {w n : Nat} (hw : w ≤ 8) (hn : n + w ≤ 16) {row tr : Nat → Int32} (hR : RelR n row tr) :
    ∃ row' tr', f_X2_appendLowestFirst (nI n) row v (nI w) = (nI (n + w), row') ∧ f_X7_putAll (nI n) tr v (nI w) = (nI (n + w), tr') ∧ RelR (n + w) row' tr' := by
  unfold f_X2_appendLowestFirst f_X7_putAll
  have hz : ((nI w).toInt - (0 : Int32).toInt).toNat + 1 = w + 1 := by
    rw [nI_toInt (by omega)]
    show ((w : Int) - 0).toNat + 1 = w + 1
    omega
  rw [hz, ← nI_0]
  exact all_step v w hw w 0 n row tr (w + 1) (w + 1) (by omega) hn (by omega) (by omega) hR
