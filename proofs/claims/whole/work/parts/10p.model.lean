/-! ===== is suspect ===== -/
theorem i64_back (a : Int32) : a.toInt64.toInt32 = a := by
  simp
theorem bit_m : ∀ a, a < 10 → ∀ b, b < 10 → a ≤ b → ∀ i, i < 10 → (bitI i &&& (((1 <<< ((nI b + 1) &&& 31)) - (1 <<< (nI a &&& 31))) ^^^ (-1)) = 0 ↔ (a ≤ i ∧ i ≤ b)) := by decide +kernel
theorem or_and0 (x y m : Int32) : ((x ||| y) &&& m = 0) ↔ (x &&& m = 0 ∧ y &&& m = 0) := by
  have e : (x ||| y) &&& m = (x &&& m) ||| (y &&& m) := by
    rw [← Int32.toBitVec_inj]
    simp only [Int32.toBitVec_and, Int32.toBitVec_or]
    ext q hq
    simp only [BitVec.getElem_and, BitVec.getElem_or]
    cases x.toBitVec[q] <;> cases y.toBitVec[q] <;> cases m.toBitVec[q] <;> rfl
  rw [e, ← Int32.toBitVec_inj, ← Int32.toBitVec_inj, ← Int32.toBitVec_inj]
  simp only [Int32.toBitVec_and, Int32.toBitVec_or, Int32.toBitVec_zero]
  exact BitVec.or_eq_zero_iff
theorem nn_le {a b : Nat} (ha : a < 2 ^ 31) (hb : b < 2 ^ 31) : nI a ≤ nI b ↔ a ≤ b := by
  rw [Int32.le_iff_toInt_le, nI_toInt ha, nI_toInt hb]; omega
theorem susp_m {n i j t : Nat} {v : Int32} {z : Sh} (hn : n ≤ 10) (hij : i ≤ j) (hj : j < n) (hv : v = bitI i ||| bitI j) (ht : told3 n z t = true) : (v &&& (((1 <<< ((zC z (3 * t + 1) + 1) &&& 31)) - (1 <<< (zC z (3 * t) &&& 31))) ^^^ (-1)) = 0) ↔ (zC z (3 * t) ≤ nI i ∧ nI j ≤ zC z (3 * t + 1)) := by
  unfold told3 strF at ht
  obtain ⟨h1, h2⟩ := (Bool.and_eq_true _ _).mp ht
  obtain ⟨h3, h4⟩ := (Bool.and_eq_true _ _).mp h2
  obtain ⟨a, ha, ea⟩ := (hasF_iff (by omega)).mp h1
  obtain ⟨b, hb, eb⟩ := (hasF_iff (by omega)).mp h3
  have hab := of_decide_eq_true h4
  rw [ea, eb] at hab ⊢
  have hab2 := (nn_le (by omega) (by omega)).mp hab
  rw [hv, or_and0, bit_m a (by omega) b (by omega) hab2 i (by omega), bit_m a (by omega) b (by omega) hab2 j (by omega), nn_le (by omega) (by omega), nn_le (by omega) (by omega)]
  omega

