/-! ===== what a statement leaves is as it must be ===== -/
theorem good_hung {S : St} (h : Good S) (hn : sN S < 10) {ks fg : Int32} (h1 : Gd1 ks 7) (h2 : Gd1 fg 9) : Good (hungS S ks fg) :=
  ⟨by show sN S + 1 ≤ 10; omega, gdV_upd h.2.1 h1, gdV_upd h.2.2.1 h2, gdV_upd h.2.2.2.1 ⟨by decide, by decide⟩, h.2.2.2.2.1, h.2.2.2.2.2.1, h.2.2.2.2.2.2.1, h.2.2.2.2.2.2.2.1, gd_or h.2.2.2.2.2.2.2.2.1 hn, gd_or h.2.2.2.2.2.2.2.2.2 hn⟩
theorem nI_gd {k m : Nat} (h : k ≤ m) (hm : m < 2 ^ 31) : Gd1 (nI k) m := by
  unfold Gd1
  rw [nI_toInt (by omega)]
  omega
theorem sec_gd {a b : Int32} (h1 : Gd1 a 9999) (h2 : Gd1 b 100) : Gd1 (min9 (a + b) 9999) 9999 := by
  refine min9s_gd ?_
  obtain ⟨a1, a2⟩ := h1; obtain ⟨b1, b2⟩ := h2
  rw [i32_add (by omega) (by omega) (by omega) (by omega)]
  omega
theorem good_use {S : St} (h : Good S) {t : Int32} {i j : Nat} (hi : i ≤ j) (hj : j < sN S) : Good (useS S t i j) := by
  have hn := h.1
  refine ⟨h.1, h.2.1, h.2.2.1, h.2.2.2.1, h.2.2.2.2.1, sec_gd h.2.2.2.2.2.1 (tool_gd hi (by omega) h.2.2.2.2.2.2.2.1), h.2.2.2.2.2.2.1, ?_, h.2.2.2.2.2.2.2.2.1, ?_⟩
  · show Gd1 (useD t i j) 9
    unfold useD
    split
    · exact nI_gd (m := 9) (by omega) (by decide)
    · exact nI_gd (m := 9) (by omega) (by decide)
  · show Gd1 (useE t (sE S) i) 1023
    unfold useE
    split
    · exact gd_or h.2.2.2.2.2.2.2.2.2 (by omega)
    · exact h.2.2.2.2.2.2.2.2.2
theorem tool4 (hd : Int32) (b : Int32) : toolT hd 4 b b = tryF hd b := by
  unfold toolT
  rw [if_neg (by decide), if_neg (by decide), if_neg (by decide), if_neg (by decide)]
theorem good_tw {S : St} (h : Good S) {b : Nat} (hb : b < sN S) (hp : 0 < sP S) : Good (twS S b) := by
  have hn := h.1
  have h3 := good_spare h (b := b) (by omega)
  refine ⟨h.1, h3.2.1, h3.2.2.1, h3.2.2.2.1, h.2.2.2.2.1, sec_gd h.2.2.2.2.2.1 (by rw [← tool4]; exact tool_gd (Nat.le_refl b) (by omega) h.2.2.2.2.2.2.2.1), ?_, nI_gd (m := 9) (by omega) (by decide), h3.2.2.2.2.2.2.2.2.1, h3.2.2.2.2.2.2.2.2.2⟩
  obtain ⟨k, hk, he⟩ := i32_of (m := 9) (by decide) h.2.2.2.2.2.2.1
  show Gd1 (sP S - 1) 9
  rw [he] at hp ⊢
  have hk0 : 0 < k := by
    rcases Nat.eq_zero_or_pos k with z | z
    · rw [z] at hp; exact absurd hp (by decide)
    · exact z
  rw [show nI k - 1 = nI (k - 1) from nI_subN hk0]
  exact nI_gd (m := 9) (by omega) (by decide)
def numOk (c a b e : Int32) : Prop := (c = 104 → Gd1 a 99) ∧ (¬ c = 104 → Gd1 a 9) ∧ (c = 119 → Gd1 b 999) ∧ (c = 98 ∨ c = 117 → Gd1 b 9) ∧ (c = 117 → Gd1 e 9)
theorem okS_dig {z : Sh} {p : Nat} (h : okS z p = true) : 0 < ndF z p ∧ ∀ j, p + 1 ≤ j → j < p + 1 + ndF z p → isD z j = true := by
  unfold okS at h
  obtain ⟨h1, h2⟩ := (Bool.and_eq_true _ _).mp h
  obtain ⟨h3, h4⟩ := (Bool.and_eq_true _ _).mp h2
  refine ⟨of_decide_eq_true h1, fun j a b => ?_⟩
  have := firstN_all (p := fun j => !isD z j) (ndF z p) (p + 1) (of_decide_eq_true h3) j a b
  simpa using this
theorem num_ok {z : Sh} {p : Nat} (h : okS z p = true) : numOk (hereF z p) (numA z p) (numB z p) (numE z p) := by
  obtain ⟨h0, hd⟩ := okS_dig h
  have h0' : 0 < ndC (hereF z p) := h0
  have hnf : ndF z p = ndC (hereF z p) := rfl
  have d1 := (isD_of (hd (p + 1) (by omega) (by omega))).2
  refine ⟨fun q => ?_, fun q => ?_, fun q => ?_, fun q => ?_, fun q => ?_⟩
  · rw [q, nd_104] at hnf
    have d2 := (isD_of (hd (p + 2) (by omega) (by omega))).2
    unfold numA
    rw [if_pos q]
    exact nI_gd (m := 99) (by omega) (by decide)
  · unfold numA
    rw [if_neg q]
    exact nI_gd (m := 9) d1 (by decide)
  · rw [q, nd_119] at hnf
    have d2 := (isD_of (hd (p + 2) (by omega) (by omega))).2
    have d3 := (isD_of (hd (p + 3) (by omega) (by omega))).2
    have d4 := (isD_of (hd (p + 4) (by omega) (by omega))).2
    unfold numB
    rw [if_pos q]
    exact nI_gd (m := 999) (by omega) (by decide)
  · have hn2 : 2 ≤ ndF z p := by
      rcases q with q | q
      · rw [hnf, q, nd_98]; omega
      · rw [hnf, q, nd_117]; omega
    have d2 := (isD_of (hd (p + 2) (by omega) (by omega))).2
    unfold numB
    rw [if_neg (by rcases q with q | q <;> rw [q] <;> decide)]
    exact nI_gd (m := 9) (by omega) (by decide)
  · rw [q, nd_117] at hnf
    have d3 := (isD_of (hd (p + 3) (by omega) (by omega))).2
    exact nI_gd (m := 9) (by omega) (by decide)
theorem le7_gd {a : Int32} (h : Gd1 a 9) (h7 : a ≤ 7) : Gd1 a 7 := ⟨h.1, by rw [Int32.le_iff_toInt_le] at h7; exact h7⟩
theorem use_ex {n : Nat} (hn : n ≤ 10) {b e : Int32} (hb : Gd1 b 9) (h : (decide (b ≤ e) && hasF n e) = true) : ∃ i j, i ≤ j ∧ j < n ∧ b = nI i ∧ e = nI j := by
  obtain ⟨h1, h2⟩ := (Bool.and_eq_true _ _).mp h
  obtain ⟨j, hj, rfl⟩ := (hasF_iff (by omega)).mp h2
  obtain ⟨i, hi, rfl⟩ := i32_of (m := 9) (by decide) hb
  exact ⟨i, j, (nn_le (by omega) (by omega)).mp (of_decide_eq_true h1), hj, rfl, rfl⟩
theorem good_stp {S : St} (h : Good S) {c a b e : Int32} (hc : 0 < ndC c) (ho : numOk c a b e) (hb : stpB S c a b e = true) : Good (stpS S c a b e) := by
  obtain ⟨o1, o2, o3, o4, o5⟩ := ho
  have hn := h.1
  unfold stpB at hb
  unfold stpS
  by_cases q1 : c = 98
  · rw [if_pos q1] at hb ⊢
    obtain ⟨b1, b2⟩ := (Bool.and_eq_true _ _).mp hb
    exact good_hung h (of_decide_eq_true b2) (le7_gd (o2 (by rw [q1]; decide)) (of_decide_eq_true b1)) (o4 (Or.inl q1))
  rw [if_neg q1] at hb ⊢
  by_cases q2 : c = 115
  · rw [if_pos q2] at hb ⊢
    exact ⟨h.1, h.2.1, h.2.2.1, h.2.2.2.1, h.2.2.2.2.1, h.2.2.2.2.2.1, o2 (by rw [q2]; decide), h.2.2.2.2.2.2.2⟩
  rw [if_neg q2] at hb ⊢
  by_cases q3 : c = 117
  · rw [if_pos q3] at hb ⊢
    obtain ⟨b1, b2⟩ := (Bool.and_eq_true _ _).mp hb
    obtain ⟨i, j, hij, hj, rfl, rfl⟩ := use_ex hn (o4 (Or.inr q3)) b2
    rw [nc_nI (by omega), nc_nI (by omega)]
    exact good_use h hij hj
  rw [if_neg q3] at hb ⊢
  by_cases q4 : c = 104
  · rw [if_pos q4] at hb ⊢
    exact good_hours h _
  rw [if_neg q4] at hb ⊢
  obtain ⟨b1, b2⟩ := (Bool.and_eq_true _ _).mp hb
  obtain ⟨k, hk, rfl⟩ := (hasF_iff (by omega)).mp b1
  rw [nc_nI (by omega)]
  by_cases q5 : c = 119
  · rw [if_pos q5]
    exact ⟨h.1, h.2.1, h.2.2.1, gdV_upd h.2.2.2.1 (o3 q5), h.2.2.2.2⟩
  rw [if_neg q5]
  by_cases q6 : c = 111
  · rw [if_pos q6]
    exact ⟨h.1, h.2.1, h.2.2.1, h.2.2.2.1, h.2.2.2.2.1, h.2.2.2.2.2.1, h.2.2.2.2.2.2.1, h.2.2.2.2.2.2.2.1, gd_xor h.2.2.2.2.2.2.2.2.1 (by omega), h.2.2.2.2.2.2.2.2.2⟩
  rw [if_neg q6]
  have q7 : c = 116 := by
    rcases nd_cs hc with (z | z | z) | z | z | z | z
    · exact absurd z q6
    · exact absurd z q2
    · exact z
    · exact absurd z q1
    · exact absurd z q4
    · exact absurd z q3
    · exact absurd z q5
  rw [decide_eq_false (fun z => z q7), Bool.false_or] at b2
  exact good_tw h hk (of_decide_eq_true b2)

