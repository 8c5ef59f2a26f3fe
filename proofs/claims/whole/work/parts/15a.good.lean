/-! ===== every call leaves the string as it must be ===== -/
theorem in_gd {v : Int32} {m : Nat} (hm : m < 2 ^ 31) (h : inI v (nI 0) (nI m) = true) : Gd1 v m := by
  obtain ⟨k, -, hk, rfl⟩ := (inI_iff (lo := 0) (hi := m) (by decide) hm).mp h
  exact nI_gd hk hm
theorem gd_wears (n : Nat) (w se sp hr lt hd sc : Int32) (so fi wo : Nat → Int32) (b v : Int32) (h : Good (n, w, se, sp, hr, lt, hd, sc, so, fi, wo)) : Good (n, w, se, sp, hr, lt, hd, sc, so, fi, wearsR (n, w, se, sp, hr, lt, hd, sc, so, fi, wo) b v) := by
  unfold wearsR
  split
  · rename_i q
    obtain ⟨q1, q2⟩ := (Bool.and_eq_true _ _).mp q
    exact good_R _ _ _ _ _ _ _ _ _ _ _ h (in_gd (m := 999) (by decide) q2)
  · exact h
theorem gd_breaks (n : Nat) (w se sp hr lt hd sc : Int32) (so fi wo : Nat → Int32) (b : Int32) (h : Good (n, w, se, sp, hr, lt, hd, sc, so, fi, wo)) : Good (n, breaksW (n, w, se, sp, hr, lt, hd, sc, so, fi, wo) b, se, sp, hr, lt, hd, sc, so, fi, wo) := by
  unfold breaksW
  split
  · rename_i q
    have hn : n ≤ 10 := h.1
    obtain ⟨k, hk, rfl⟩ := (hasF_iff (n := n) (by omega)).mp q
    rw [nc_nI (by omega)]
    exact ⟨h.1, h.2.1, h.2.2.1, h.2.2.2.1, h.2.2.2.2.1, h.2.2.2.2.2.1, h.2.2.2.2.2.2.1, h.2.2.2.2.2.2.2.1, gd_xor h.2.2.2.2.2.2.2.2.1 (by omega), h.2.2.2.2.2.2.2.2.2⟩
  · exact h
theorem gd_spares (n : Nat) (w se sp hr lt hd sc : Int32) (so fi wo : Nat → Int32) (v : Int32) (h : Good (n, w, se, sp, hr, lt, hd, sc, so, fi, wo)) : Good (n, w, se, sparesP (n, w, se, sp, hr, lt, hd, sc, so, fi, wo) v, hr, lt, hd, sc, so, fi, wo) := by
  unfold sparesP
  split
  · rename_i q
    exact ⟨h.1, h.2.1, h.2.2.1, h.2.2.2.1, h.2.2.2.2.1, h.2.2.2.2.2.1, in_gd (m := 9) (by decide) q, h.2.2.2.2.2.2.2⟩
  · exact h
theorem gd_twist {S : St} (b : Int32) (h : Good S) : Good (twistS S b) := by
  unfold twistS
  split
  · rename_i q
    have hn := h.1
    obtain ⟨k, hk, rfl⟩ := (hasF_iff (n := sN S) (by omega)).mp q
    split
    · exact h
    · rename_i q2
      rw [nc_nI (by omega)]
      exact good_tw h hk (Int32.not_le.mp q2)
  · exact h
theorem gd_use {S : St} (t i j : Int32) (h : Good S) : Good (useSS S t i j) := by
  unfold useSS
  split
  · rename_i q
    have hn := h.1
    obtain ⟨-, q1⟩ := (Bool.and_eq_true _ _).mp q
    obtain ⟨-, q2⟩ := (Bool.and_eq_true _ _).mp q1
    obtain ⟨q3, q4⟩ := (Bool.and_eq_true _ _).mp q2
    obtain ⟨q5, q6⟩ := (Bool.and_eq_true _ _).mp q4
    obtain ⟨a, ha, rfl⟩ := (hasF_iff (n := sN S) (by omega)).mp q3
    obtain ⟨c, hc, rfl⟩ := (hasF_iff (n := sN S) (by omega)).mp q5
    rw [nc_nI (by omega), nc_nI (by omega)]
    exact good_use h ((nn_le (by omega) (by omega)).mp (of_decide_eq_true q6)) hc
  · exact h
theorem gd_hours {S : St} (m : Int32) (h : Good S) : Good (hoursSS S m) := by
  unfold hoursSS
  split
  · exact good_hours h _
  · exact h
theorem gd_hangs {S : St} {Z : Nat → Sh} (hZ : ∀ k, k < 8 → okZ (Z k)) (d : Int32) (h : Good S) : Good (hangsS S Z d) := by
  unfold hangsS
  split
  · rename_i q
    obtain ⟨k, hk, rfl, hz⟩ := wrongKept_0 hZ q
    obtain ⟨g1, g2⟩ := (hZ k hk).2.1 hz
    rw [nc_nI (by omega)]
    split
    · exact h
    · rename_i q2
      exact good_hung h (by have := h.1; omega) g1 g2
  · exact h
theorem gd_rn {z : Sh} : ∀ (f e : Nat) (S : St) (p k : Nat), f ≤ e → rdN z e p = none → Good S → Good (rnN z f S p k).2
  | 0, _, S, p, k, _, _, h => h
  | f + 1, 0, S, p, k, hfe, _, h => absurd hfe (by omega)
  | f + 1, e + 1, S, p, k, hfe, hrd, h => by
    unfold rnN
    split
    · split
      · rename_i q1 q2
        cases hok : okS z p with
        | false => rw [rdN_bad hok] at hrd; cases hrd
        | true =>
          have hg := good_stp h (okS_dig hok).1 (num_ok hok) q2
          rw [rdN_ok hok] at hrd
          by_cases hnx : nxF z p < zN z
          · rw [if_pos hnx] at hrd
            exact gd_rn f e _ _ _ (by omega) hrd hg
          · cases f with
            | zero => exact hg
            | succ f => unfold rnN; rw [if_neg hnx]; exact hg
      · exact h
    · exact h
theorem ndC_le (c : Int32) : ndC c ≤ 4 := by
  unfold ndC
  split
  · decide
  split
  · decide
  split
  · decide
  split <;> decide
theorem rd_lt {z : Sh} (hz : zN z ≤ 100) : ∀ (e p v : Nat), p ≤ 100 → rdN z e p = some v → v < 1000
  | 0, p, v, hp, h => by cases h
  | e + 1, p, v, hp, h => by
    cases hok : okS z p with
    | false =>
      rw [rdN_bad hok] at h
      cases h
      unfold bdF
      have h1 := (firstN_ge (fun j => !isD z j) (ndF z p) (p + 1)).2
      have h2 : ndF z p ≤ 4 := ndC_le _
      split
      · omega
      · show firstN (fun j => !isD z j) (p + 1) (ndF z p) < 1000
        omega
    | true =>
      rw [rdN_ok hok] at h
      split at h
      · rename_i q
        exact rd_lt hz e _ v (by omega) h
      · cases h
theorem gd_text {S : St} {z : Sh} (hz : zN z ≤ 100) (h : Good S) : Good (textS S z) := by
  unfold textS
  split
  · rename_i q
    cases hrd : rdN z 200 0 with
    | none => exact gd_rn 200 200 S 0 0 (Nat.le_refl _) hrd h
    | some v =>
      have hv := rd_lt hz 200 0 v (by omega) hrd
      have tF : textF S z = -1000 - nI v := by unfold textF; rw [hrd]
      rw [tF] at q
      exact absurd q (Int32.not_le.mpr (neg_lt (c := -1000) (by decide) (by decide) (by omega)))
  · exact h
theorem gd_string {S : St} {Z : Nat → Sh} (hZ : ∀ k, k < 8 → okZ (Z k)) (d : Int32) (h : Good S) : Good (stringS S Z d) := by
  unfold stringS
  split
  · rename_i q
    obtain ⟨k, hk, rfl, hz⟩ := wrongRow_0 q
    rw [nc_nI (by omega)]
    split
    · exact gd_text (okZ_n hZ hk hz).1 h
    · exact h
  · exact h
/-- the two sides say the same -/
def lwR (S T : St) (im : Bool) (Z : Nat → Sh) (be : Nat → Int32) (M : MX) : Prop := Good S ∧ mI M ∧ RS Z M ∧ dg0 be ∧ M.1 30 = bz im ∧ (im = true → M.2.1 14 = encF T ∧ Good T)
theorem lwR.k {S T : St} {im : Bool} {Z : Nat → Sh} {be : Nat → Int32} {M : MX} (h : lwR S T im Z be M) {S2 : St} {be2 : Nat → Int32} {M2 : MX} (hS : Good S2) (hb : dg0 be2) (hk : kM M M2) : lwR S2 T im Z be2 M2 := by
  obtain ⟨h1, h2, h3, h4, h5, h6⟩ := h
  refine ⟨hS, ⟨?_, ?_⟩, RS_k h3 hk, hb, ?_, fun q => ?_⟩
  · rw [hk.1 11 (Or.inl rfl)]; exact h2.1
  · rw [hk.1 12 (Or.inr (Or.inl rfl))]; exact h2.2
  · rw [hk.1 30 (Or.inr (Or.inr rfl))]; exact h5
  · rw [hk.2.1 14 (Or.inr rfl)]; exact h6 q
theorem lwR.z {S T : St} {im : Bool} {Z Z2 : Nat → Sh} {be : Nat → Int32} {M : MX} (h : lwR S T im Z be M) {be2 : Nat → Int32} {M2 : MX} (hb : dg0 be2) (hk : kX M M2) (hR : RS Z2 M2) : lwR S T im Z2 be2 M2 := by
  obtain ⟨h1, h2, h3, h4, h5, h6⟩ := h
  refine ⟨h1, ⟨?_, ?_⟩, hR, hb, ?_, fun q => ?_⟩
  · rw [hk.1 11 (Or.inl rfl)]; exact h2.1
  · rw [hk.1 12 (Or.inr (Or.inl rfl))]; exact h2.2
  · rw [hk.1 30 (Or.inr (Or.inr rfl))]; exact h5
  · rw [hk.2]; exact h6 q
/-- at the beginning -/
theorem gd_00 {m : Nat} : Gd1 0 m := ⟨by decide, by show (0 : Int) ≤ m; omega⟩
theorem gd_S0 : Good S0 := ⟨Nat.zero_le _, fun _ _ => gd_00 (m := 7), fun _ _ => gd_00 (m := 9), fun _ _ => gd_00 (m := 999), gd_00 (m := 999), gd_00 (m := 9999), (show Gd1 1 9 from ⟨by decide, by decide⟩), gd_00 (m := 9), gd_00 (m := 1023), gd_00 (m := 1023)⟩
theorem lwR_0 : lwR S0 S0 false (fun _ => Z00) (fun _ => 0) M0 := by
  refine ⟨gd_S0, ⟨rfl, rfl⟩, fun d hd => ⟨⟨Or.inl rfl, fun h => absurd (show (0 : Int32) = 1 from h) (by decide), fun h => absurd (show (0 : Int32) = 2 from h) (by decide)⟩, rfl, fun h => absurd (show (0 : Int32) = 1 from h) (by decide), fun h => absurd (show (0 : Int32) = 2 from h) (by decide)⟩, fun _ _ => rfl, rfl, fun h => nomatch h⟩

