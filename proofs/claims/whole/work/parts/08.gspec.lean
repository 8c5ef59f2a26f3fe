/-! ===== facts of numbers; what a string's numbers keep within ===== -/
def inF (v low high : Int64) : Bool := decide (low ≤ v) && decide (v ≤ high)
def inI (v low high : Int32) : Bool := decide (low ≤ v) && decide (v ≤ high)
theorem inF_I (v low high : Int32) : inF v.toInt64 low.toInt64 high.toInt64 = inI v low high := by
  unfold inF inI
  simp only [Int64.le_iff_toInt_le, Int32.le_iff_toInt_le, Int32.toInt_toInt64]
theorem nI_m1 {n : Nat} (h : n ≤ 1000) : (nI n - 1).toInt = (n : Int) - 1 := by
  rw [Int32.toInt_sub, nI_toInt (by omega), show (1 : Int32).toInt = 1 from rfl, Int.bmod_eq_of_le (by omega) (by omega)]
theorem inI_has {n : Nat} (h : n ≤ 1000) (b : Int32) : inI b 0 (nI n - 1) = hasF n b := by
  unfold inI hasF
  congr 1
  rw [decide_eq_decide, Int32.le_iff_toInt_le, Int32.lt_iff_toInt_lt, nI_m1 h, nI_toInt (by omega)]
  omega
theorem hasF_iff {n : Nat} (h : n < 2 ^ 31) {b : Int32} : hasF n b = true ↔ ∃ k, k < n ∧ b = nI k := by
  unfold hasF
  simp only [Bool.and_eq_true, decide_eq_true_eq]
  constructor
  · rintro ⟨h1, h2⟩
    obtain ⟨k, hk, rfl⟩ := nI_of (x := b) (by rw [Int32.lt_iff_toInt_lt]; rw [Int32.le_iff_toInt_le] at h1; omega)
    exact ⟨k, (nI_ltI hk h).mp h2, rfl⟩
  · rintro ⟨k, hk, rfl⟩
    exact ⟨nI_pos' (by omega), nI_lt hk h⟩
def GdV (f : Nat → Int32) (m : Int) : Prop := ∀ b, b < 10 → 0 ≤ (f b).toInt ∧ (f b).toInt ≤ m
def Gd1 (v : Int32) (m : Int) : Prop := 0 ≤ v.toInt ∧ v.toInt ≤ m
/-- what holds of a string at all times -/
def Good (S : St) : Prop := sN S ≤ 10 ∧ GdV (sO S) 7 ∧ GdV (sG S) 9 ∧ GdV (sR S) 999 ∧ Gd1 (sL S) 999 ∧ Gd1 (sC S) 9999 ∧ Gd1 (sP S) 9 ∧ Gd1 (sD S) 9 ∧ Gd1 (sW S) 1023 ∧ Gd1 (sE S) 1023
theorem i32_of {v : Int32} {m : Nat} (hm : m < 2 ^ 31) (h : Gd1 v m) : ∃ k, k ≤ m ∧ v = nI k := by
  obtain ⟨k, hk, rfl⟩ := nI_of (x := v) (by rw [Int32.lt_iff_toInt_lt, Int32.toInt_zero]; have := h.1; omega)
  refine ⟨k, ?_, rfl⟩
  have := h.2
  rw [nI_toInt hk] at this
  omega
theorem hasB_nI (w : Int32) (b : Nat) : hasB w b = decide (w >>> (nI b &&& 31) &&& 1 = 1) := rfl
theorem wholeN_le (w : Int32) : ∀ (n i a : Nat), ∃ k, k ≤ n ∧ itr (fun a b => if hasB w b then a + 1 else a) (nI a) i n = nI (a + k)
  | 0, i, a => ⟨0, Nat.le_refl _, rfl⟩
  | n + 1, i, a => by
    rw [itr_s]
    by_cases h : hasB w i = true
    · rw [if_pos h, nI_1]
      obtain ⟨k, h1, h2⟩ := wholeN_le w n (i + 1) (a + 1)
      exact ⟨k + 1, by omega, by rw [h2]; congr 1; omega⟩
    · rw [if_neg h]
      obtain ⟨k, h1, h2⟩ := wholeN_le w n (i + 1) a
      exact ⟨k, by omega, h2⟩
theorem wholeN_nI (w : Int32) (i e : Nat) : ∃ k, k ≤ e - i ∧ wholeN w i e = nI k := by
  obtain ⟨k, h1, h2⟩ := wholeN_le w (e - i) i 0
  exact ⟨k, h1, by have : nI 0 = (0 : Int32) := rfl
                   unfold wholeN cntF; rw [← this, h2]; congr 1; omega⟩
def heldF (v high : Int32) : Int32 := if v < 0 then 0 else if high < v then high else v
theorem heldF_pos {v high : Int32} (h : 0 ≤ v.toInt) : heldF v high = min9 v high := by
  unfold heldF min9
  rw [if_neg (by rw [Int32.lt_iff_toInt_lt, Int32.toInt_zero]; omega)]
def farF (a b : Int32) : Int32 := if b ≤ a then a - b else b - a

