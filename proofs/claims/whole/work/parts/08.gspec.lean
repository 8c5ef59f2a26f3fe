/-! ===== facts of numbers; what a string's numbers keep within ===== -/
def inF (v low high : Int64) : Bool := decide (low ≤ v) && decide (v ≤ high)
def inI (v low high : Int32) : Bool := decide (low ≤ v) && decide (v ≤ high)
theorem inF_I (v low high : Int32) : inF v.toInt64 low.toInt64 high.toInt64 = inI v low high := by
  unfold inF inI
  simp only [Int64.le_iff_toInt_le, Int32.le_iff_toInt_le, Int32.toInt_toInt64]
theorem nI_m1 {n : Nat} (h : n ≤ 1000) : (nI n - 1).toInt = (n : Int) - 1 := by
  rw [Int32.toInt_sub, nI_toInt (by omega), show (1 : Int32).toInt = 1 from rfl, Int.bmod_eq_of_le (by omega) (by omega)]
theorem inI_has {n : Nat} (h : n ≤ 1000) (b : Int32) : inI b 0 (nI n - 1) = hasF n b := by
  unfold inI hasF
  congr 1
  rw [decide_eq_decide, Int32.le_iff_toInt_le, Int32.lt_iff_toInt_lt, nI_m1 h, nI_toInt (by omega)]
  omega
theorem hasF_iff {n : Nat} (h : n < 2 ^ 31) {b : Int32} : hasF n b = true ↔ ∃ k, k < n ∧ b = nI k := by
  unfold hasF
  simp only [Bool.and_eq_true, decide_eq_true_eq]
  constructor
  · rintro ⟨h1, h2⟩
    obtain ⟨k, hk, rfl⟩ := nI_of (x := b) (by rw [Int32.lt_iff_toInt_lt]; rw [Int32.le_iff_toInt_le] at h1; omega)
    exact ⟨k, (nI_ltI hk h).mp h2, rfl⟩
  · rintro ⟨k, hk, rfl⟩
    exact ⟨nI_pos' (by omega), nI_lt hk h⟩
def GdV (f : Nat → Int32) (m : Int) : Prop := ∀ b, b < 10 → 0 ≤ (f b).toInt ∧ (f b).toInt ≤ m
def Gd1 (v : Int32) (m : Int) : Prop := 0 ≤ v.toInt ∧ v.toInt ≤ m
/-- what holds of a string at all times -/
def Good (S : St) : Prop := sN S ≤ 10 ∧ GdV (sO S) 7 ∧ GdV (sG S) 9 ∧ GdV (sR S) 999 ∧ Gd1 (sL S) 999 ∧ Gd1 (sC S) 9999 ∧ Gd1 (sP S) 9 ∧ Gd1 (sD S) 9 ∧ Gd1 (sW S) 1023 ∧ Gd1 (sE S) 1023
theorem i32_of {v : Int32} {m : Nat} (hm : m < 2 ^ 31) (h : Gd1 v m) : ∃ k, k ≤ m ∧ v = nI k := by
  obtain ⟨k, hk, rfl⟩ := nI_of (x := v) (by rw [Int32.lt_iff_toInt_lt, Int32.toInt_zero]; have := h.1; omega)
  refine ⟨k, ?_, rfl⟩
  have := h.2
  rw [nI_toInt hk] at this
  omega
theorem hasB_nI (w : Int32) (b : Nat) : hasB w b = decide (w >>> (nI b &&& 31) &&& 1 = 1) := rfl
theorem wholeN_le (w : Int32) : ∀ (n i a : Nat), ∃ k, k ≤ n ∧ itr (fun a b => if hasB w b then a + 1 else a) (nI a) i n = nI (a + k)
  | 0, i, a => ⟨0, Nat.le_refl _, rfl⟩
  | n + 1, i, a => by
    rw [itr_s]
    by_cases h : hasB w i = true
    · rw [if_pos h, nI_1]
      obtain ⟨k, h1, h2⟩ := wholeN_le w n (i + 1) (a + 1)
      exact ⟨k + 1, by omega, by rw [h2]; congr 1; omega⟩
    · rw [if_neg h]
      obtain ⟨k, h1, h2⟩ := wholeN_le w n (i + 1) a
      exact ⟨k, by omega, h2⟩
theorem wholeN_nI (w : Int32) (i e : Nat) : ∃ k, k ≤ e - i ∧ wholeN w i e = nI k := by
  obtain ⟨k, h1, h2⟩ := wholeN_le w (e - i) i 0
  exact ⟨k, h1, by have : nI 0 = (0 : Int32) := rfl
                   unfold wholeN cntF; rw [← this, h2]; congr 1; omega⟩
def heldF (v high : Int32) : Int32 := if v < 0 then 0 else if high < v then high else v
theorem heldF_pos {v high : Int32} (h : 0 ≤ v.toInt) : heldF v high = min9 v high := by
  unfold heldF min9
  rw [if_neg (by rw [Int32.lt_iff_toInt_lt, Int32.toInt_zero]; omega)]
def farF (a b : Int32) : Int32 := if b ≤ a then a - b else b - a
theorem and_m1 (x : Int32) : x &&& (-1) = x := by
  apply Int32.toBitVec_inj.mp
  rw [Int32.toBitVec_and, show (-1 : Int32).toBitVec = BitVec.allOnes 32 from rfl, BitVec.and_allOnes]
theorem bit_or : ∀ k, k < 1024 → ∀ b, b < 10 → Gd1 (nI k ||| bitI b) 1023 := by unfold Gd1; decide +kernel
theorem bit_xor : ∀ k, k < 1024 → ∀ b, b < 10 → Gd1 (nI k ^^^ bitI b) 1023 := by unfold Gd1; decide +kernel
theorem bit_and : ∀ k, k < 1024 → ∀ b, b < 10 → Gd1 (nI k &&& (bitI b ^^^ (-1))) 1023 := by unfold Gd1; decide +kernel
theorem bit_xa : ∀ k, k < 1024 → ∀ b, b < 10 → hasB (nI k) b = true → nI k &&& (bitI b ^^^ (-1)) = nI k ^^^ bitI b := by decide +kernel
theorem gd_or {w : Int32} {b : Nat} (h : Gd1 w 1023) (hb : b < 10) : Gd1 (w ||| bitI b) 1023 := by
  obtain ⟨k, hk, rfl⟩ := i32_of (m := 1023) (by decide) h
  exact bit_or k (by omega) b hb
theorem gd_xor {w : Int32} {b : Nat} (h : Gd1 w 1023) (hb : b < 10) : Gd1 (w ^^^ bitI b) 1023 := by
  obtain ⟨k, hk, rfl⟩ := i32_of (m := 1023) (by decide) h
  exact bit_xor k (by omega) b hb
theorem gd_and {w : Int32} {b : Nat} (h : Gd1 w 1023) (hb : b < 10) : Gd1 (w &&& (bitI b ^^^ (-1))) 1023 := by
  obtain ⟨k, hk, rfl⟩ := i32_of (m := 1023) (by decide) h
  exact bit_and k (by omega) b hb
theorem xor_and {w : Int32} {b : Nat} (h : Gd1 w 1023) (hb : b < 10) (hw : hasB w b = true) : w &&& (bitI b ^^^ (-1)) = w ^^^ bitI b := by
  obtain ⟨k, hk, rfl⟩ := i32_of (m := 1023) (by decide) h
  exact bit_xa k (by omega) b hb hw
theorem life_alt1 {f : Int32} (h : Gd1 f 9) : 30 + 5 * f = (60 + 10 * f) / 2 ∧ 40 + 10 * f = 60 + 10 * f - 20 ∧ 80 + 20 * f = 2 * (60 + 10 * f - 20) := by
  obtain ⟨k, hk, rfl⟩ := i32_of (m := 9) (by decide) h
  have key : ∀ k, k ≤ 9 → 30 + 5 * nI k = (60 + 10 * nI k) / 2 ∧ 40 + 10 * nI k = 60 + 10 * nI k - 20 ∧ 80 + 20 * nI k = 2 * (60 + 10 * nI k - 20) := by decide +kernel
  exact key k hk
theorem fig_pos {f : Int32} (h : Gd1 f 9) : 0 < f + 2 ∧ ¬ f + 2 = 0 ∧ 0 < f + 3 ∧ ¬ f + 3 = 0 := by
  obtain ⟨k, hk, rfl⟩ := i32_of (m := 9) (by decide) h
  have key : ∀ k, k ≤ 9 → 0 < nI k + 2 ∧ ¬ nI k + 2 = 0 ∧ 0 < nI k + 3 ∧ ¬ nI k + 3 = 0 := by decide +kernel
  exact key k hk
theorem glow_gd {so fi : Int32} (h : Gd1 fi 9) : Gd1 (glowF so fi) 8 := by
  obtain ⟨k, hk, rfl⟩ := i32_of (m := 9) (by decide) h
  have key : ∀ k, k ≤ 9 → Gd1 (4 + nI k / 2) 8 := by unfold Gd1; decide +kernel
  unfold glowF
  split
  · exact ⟨by decide, by decide⟩
  split
  · exact ⟨by decide, by decide⟩
  split
  · exact ⟨by decide, by decide⟩
  split
  · exact key k hk
  split
  · exact ⟨by decide, by decide⟩
  · exact ⟨by decide, by decide⟩
theorem min9_gd {v : Int32} (h : 0 ≤ v.toInt) : Gd1 (min9 v 999) 999 := by
  unfold min9
  split
  · exact ⟨by decide, by decide⟩
  · rename_i q
    rw [Int32.lt_iff_toInt_lt, show (999 : Int32).toInt = 999 from rfl] at q
    exact ⟨h, by omega⟩
theorem min9s_gd {v : Int32} (h : 0 ≤ v.toInt) : Gd1 (min9 v 9999) 9999 := by
  unfold min9
  split
  · exact ⟨by decide, by decide⟩
  · rename_i q
    rw [Int32.lt_iff_toInt_lt, show (9999 : Int32).toInt = 9999 from rfl] at q
    exact ⟨h, by omega⟩
theorem i32_add {a b : Int32} (h1 : -1000000 ≤ a.toInt) (h2 : a.toInt ≤ 1000000) (h3 : -1000000 ≤ b.toInt) (h4 : b.toInt ≤ 1000000) : (a + b).toInt = a.toInt + b.toInt := by
  rw [Int32.toInt_add, Int.bmod_eq_of_le (by omega) (by omega)]
theorem i32_sub {a b : Int32} (h1 : -1000000 ≤ a.toInt) (h2 : a.toInt ≤ 1000000) (h3 : -1000000 ≤ b.toInt) (h4 : b.toInt ≤ 1000000) : (a - b).toInt = a.toInt - b.toInt := by
  rw [Int32.toInt_sub, Int.bmod_eq_of_le (by omega) (by omega)]
theorem volts_gd (w : Int32) {i e : Nat} {t : Int32} (he : e ≤ 10) (ht : t = 1 ∨ t = 2) : Gd1 (voltsF (wholeN w i e) t) 120 := by
  obtain ⟨k, hk, h⟩ := wholeN_nI w i e
  rw [h]
  have key : ∀ k, k ≤ 10 → Gd1 (voltsF (nI k) 1) 120 ∧ Gd1 (voltsF (nI k) 2) 120 := by unfold Gd1 voltsF; decide +kernel
  rcases ht with rfl | rfl
  · exact (key k (by omega)).1
  · exact (key k (by omega)).2
theorem volts_alt (w : Int32) {i e : Nat} (t : Int32) (he : e ≤ 10) : voltsF (wholeN w i e) t = if wholeN w i e = 0 then 0 else t * (60 / wholeN w i e) := by
  obtain ⟨k, hk, h⟩ := wholeN_nI w i e
  rw [h]
  unfold voltsF
  have h0 : nI k ≤ 0 ↔ nI k = 0 := by
    rw [nI_le0 (by omega), ← nI_0, nI_eq (by omega) (by omega)]
  by_cases q : nI k = 0
  · rw [if_pos (h0.mpr q), if_pos q]
  · rw [if_neg (fun z => q (h0.mp z)), if_neg q, Int32.mul_comm]
theorem wear_sum {r g v : Int32} (h1 : Gd1 r 999) (h2 : Gd1 g 8) (h3 : Gd1 v 120) : 0 ≤ (r + g + v).toInt := by
  obtain ⟨a1, a2⟩ := h1; obtain ⟨b1, b2⟩ := h2; obtain ⟨cq1, cq2⟩ := h3
  rw [i32_add (by rw [i32_add] <;> omega) (by rw [i32_add] <;> omega) (by omega) (by omega), i32_add (by omega) (by omega) (by omega) (by omega)]
  omega
theorem gdV_upd {f : Nat → Int32} {m : Int} {k : Nat} {v : Int32} (h : GdV f m) (hv : Gd1 v m) : GdV (upd f k v) m := by
  intro b hb
  by_cases q : b = k
  · subst q; rw [pk_us]; exact hv
  · rw [pk_un q]; exact h b hb
theorem wear1_gd {so fi : Nat → Int32} {vo : Int32} {q : WR} {b : Nat} (hb : b < 10) (hf : GdV fi 9) (hv : Gd1 vo 120) (h1 : Gd1 q.1 1023) (h2 : GdV q.2 999) : Gd1 (wear1 so fi vo q b).1 1023 ∧ GdV (wear1 so fi vo q b).2 999 := by
  unfold wear1
  split
  · have h3 := min9_gd (wear_sum (h2 b hb) (glow_gd (so := so b) (hf b hb)) hv)
    refine ⟨?_, gdV_upd h2 h3⟩
    dsimp only
    split
    · exact gd_xor h1 hb
    · exact h1
  · exact ⟨h1, h2⟩
theorem wearI_gd {so fi : Nat → Int32} {vo : Int32} (hf : GdV fi 9) (hv : Gd1 vo 120) : ∀ (k i : Nat) (q : WR), i + k ≤ 10 → Gd1 q.1 1023 → GdV q.2 999 → Gd1 (itr (wear1 so fi vo) q i k).1 1023 ∧ GdV (itr (wear1 so fi vo) q i k).2 999
  | 0, _, _, _, h1, h2 => ⟨h1, h2⟩
  | k + 1, i, q, hk, h1, h2 => by
    rw [itr_s]
    have h3 := wear1_gd (so := so) (by omega : i < 10) hf hv h1 h2
    exact wearI_gd hf hv k (i + 1) _ (by omega) h3.1 h3.2
theorem wearV_gd {S : St} (h : Good S) {i e : Nat} {t : Int32} (he : e ≤ 10) (ht : t = 1 ∨ t = 2) : Gd1 (wearV S i e t).1 1023 ∧ GdV (wearV S i e t).2 999 := by
  unfold wearV
  by_cases q : i ≤ e
  · exact wearI_gd h.2.2.1 (volts_gd _ he ht) _ _ _ (by omega) h.2.2.2.2.2.2.2.2.1 h.2.2.2.1
  · rw [show e - i = 0 by omega]; exact ⟨h.2.2.2.2.2.2.2.2.1, h.2.2.2.1⟩
theorem unseat_gd {so fi : Nat → Int32} {hr : Int32} : ∀ (k i : Nat) (se : Int32), i + k ≤ 10 → Gd1 se 1023 → Gd1 (itr (unseat1 so fi hr) se i k) 1023
  | 0, _, _, _, h => h
  | k + 1, i, se, hk, h => by
    rw [itr_s]
    refine unseat_gd k (i + 1) _ (by omega) ?_
    unfold unseat1
    split
    · exact gd_and h (by omega)
    · exact h
theorem hourQ_gd {S : St} (h : Good S) {t : Int32} (ht : t = 1 ∨ t = 2) : Gd1 (hourQ S t).1 1023 ∧ GdV (hourQ S t).2 999 := by
  unfold hourQ
  split
  · exact wearV_gd h h.1 ht
  · exact ⟨h.2.2.2.2.2.2.2.2.1, h.2.2.2.1⟩
theorem hourL_gd {S : St} (h : Good S) : Gd1 (hourL S) 999 := by
  unfold hourL
  have h5 := h.2.2.2.2.1
  split
  · refine min9_gd ?_
    rw [i32_add (by have := h5.1; omega) (by have := h5.2; omega) (by decide) (by decide), show (1 : Int32).toInt = 1 from rfl]
    have := h5.1
    omega
  · exact h5
theorem hourE_gd {S : St} (h : Good S) : Gd1 (hourE S) 1023 := unseat_gd _ _ _ (by have := h.1; omega) h.2.2.2.2.2.2.2.2.2
theorem good_hour {S : St} (h : Good S) {t : Int32} (ht : t = 1 ∨ t = 2) : Good (hourS S t) :=
  ⟨h.1, h.2.1, h.2.2.1, (hourQ_gd h ht).2, hourL_gd h, h.2.2.2.2.2.1, h.2.2.2.2.2.2.1, h.2.2.2.2.2.2.2.1, (hourQ_gd h ht).1, hourE_gd h⟩
theorem good_itr {f : St → Nat → St} (hf : ∀ S k, Good S → Good (f S k)) : ∀ (k i : Nat) (S : St), Good S → Good (itr f S i k)
  | 0, _, _, h => h
  | k + 1, i, S, h => by rw [itr_s]; exact good_itr hf k (i + 1) _ (hf S i h)
theorem good_hours {S : St} (h : Good S) (m : Nat) : Good (hoursS S m) := good_itr (fun _ _ h => good_hour h (Or.inl rfl)) _ _ _ h
/-- hours change but whole, seated, hour, lit, worn -/
theorem itr_hour_ex {f : St → Nat → Int32} : ∀ (k i : Nat) (S : St), ∃ w se hr lt wo, itr (fun S k => hourS S (f S k)) S i k = (sN S, w, se, sP S, hr, lt, sD S, sC S, sO S, sG S, wo)
  | 0, _, S => ⟨sW S, sE S, sH S, sL S, sR S, rfl⟩
  | k + 1, i, S => by
    rw [itr_s]
    obtain ⟨w, se, hr, lt, wo, h⟩ := itr_hour_ex (f := f) k (i + 1) (hourS S (f S i))
    exact ⟨w, se, hr, lt, wo, by rw [h]; rfl⟩
theorem hours_ex (S : St) (m : Nat) : ∃ w se hr lt wo, hoursS S m = (sN S, w, se, sP S, hr, lt, sD S, sC S, sO S, sG S, wo) := itr_hour_ex m 0 S
theorem frost_ex (S : St) (m : Nat) (fr : Int32) : ∃ w se hr lt wo, frostS S m fr = (sN S, w, se, sP S, hr, lt, sD S, sC S, sO S, sG S, wo) := itr_hour_ex m 0 S
def burnM (S : St) (i e : Nat) : Bool := decide (¬ i = e) && leadAll S i e (sH S)
def burnQ (S : St) (i e : Nat) (t : Int32) : WR := if burnM S i e then wearV S i e t else (sW S, sR S)
def burnI (I : Nat → Int32) (b : Bool) (g : Int32) : Nat → Int32 := if b then upd I 13 (I 13 + g) else I
theorem burnI_off {I : Nat → Int32} {b : Bool} {g : Int32} {k : Nat} (h : k ≠ 13) : burnI I b g k = I k := by
  unfold burnI
  split
  · exact pk_un h
  · rfl

