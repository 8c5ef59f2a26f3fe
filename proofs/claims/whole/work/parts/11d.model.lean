theorem stpB_98 (S : St) (a b e : Int32) : stpB S 98 a b e = (decide (a ≤ 7) && decide (sN S < 10)) := if_pos rfl
theorem stpS_98 (S : St) (a b e : Int32) : stpS S 98 a b e = hungS S a b := if_pos rfl
theorem stpB_115 (S : St) (a b e : Int32) : stpB S 115 a b e = true := by
  unfold stpB; rw [if_neg (show ¬ (115 : Int32) = 98 by decide), if_pos rfl]
theorem stpS_115 (S : St) (a b e : Int32) : stpS S 115 a b e = (sN S, sW S, sE S, a, sH S, sL S, sD S, sC S, sO S, sG S, sR S) := by
  unfold stpS; rw [if_neg (show ¬ (115 : Int32) = 98 by decide), if_pos rfl]
theorem stpB_117 (S : St) (a b e : Int32) : stpB S 117 a b e = toB (sN S) a b e := by
  unfold stpB; rw [if_neg (show ¬ (117 : Int32) = 98 by decide), if_neg (show ¬ (117 : Int32) = 115 by decide), if_pos rfl]; rfl
theorem stpS_117 (S : St) (a b e : Int32) : stpS S 117 a b e = useS S a (nc b) (nc e) := by
  unfold stpS; rw [if_neg (show ¬ (117 : Int32) = 98 by decide), if_neg (show ¬ (117 : Int32) = 115 by decide), if_pos rfl]
theorem stpB_104 (S : St) (a b e : Int32) : stpB S 104 a b e = hoursC S a := by
  unfold stpB; rw [if_neg (show ¬ (104 : Int32) = 98 by decide), if_neg (show ¬ (104 : Int32) = 115 by decide), if_neg (show ¬ (104 : Int32) = 117 by decide), if_pos rfl]
theorem stpS_104 (S : St) (a b e : Int32) : stpS S 104 a b e = hoursS S (nc a) := by
  unfold stpS; rw [if_neg (show ¬ (104 : Int32) = 98 by decide), if_neg (show ¬ (104 : Int32) = 115 by decide), if_neg (show ¬ (104 : Int32) = 117 by decide), if_pos rfl]
theorem stpB_o {S : St} {c a b e : Int32} (h1 : ¬ c = 98) (h2 : ¬ c = 115) (h3 : ¬ c = 117) (h4 : ¬ c = 104) : stpB S c a b e = ofB (sN S) (sP S) c a := by
  unfold stpB; rw [if_neg h1, if_neg h2, if_neg h3, if_neg h4]; rfl
theorem stpS_o {S : St} {c a b e v : Int32} (h1 : ¬ c = 98) (h2 : ¬ c = 115) (h3 : ¬ c = 117) (h4 : ¬ c = 104) (hv : c = 119 → v = b) : stpS S c a b e = ofS S c a v := by
  unfold stpS ofS; rw [if_neg h1, if_neg h2, if_neg h3, if_neg h4]
  by_cases q : c = 119
  · rw [if_pos q, if_pos q, hv q]
  · rw [if_neg q, if_neg q]
set_option maxRecDepth 100000 in
set_option maxHeartbeats 1000000 in
theorem ct_X10_comesTold (n : Nat) (w se sp hr lt hd sc : Int32) (so fi wo : Nat → Int32) (I : Nat → Int32) (A : Nat → Nat → Int32) (B : Nat → Nat → Int64) (K : Value) (k : Nat) (c a b e : Int32) (h_k : k < 50) (h_S : Good (n, w, se, sp, hr, lt, hd, sc, so, fi, wo)) (h_M : mI (I, A, B, K)) (h_l : A 11 k = c) (h_t : ToldOk c a b e (A 12) (3 * k)) (h_n : 0 < ndC c) (h_o : numOk c a b e) : e_Ct yX10_comesTold cX10_comesTold 4 (some .boolean) 8 [.ref 0, .int (nI k)] (mH (n, w, se, sp, hr, lt, hd, sc, so, fi, wo) (I, A, B, K)) (fun r h => r = some (.int (bz (stpB (n, w, se, sp, hr, lt, hd, sc, so, fi, wo) c a b e))) ∧ ∃ J, kI I J ∧ h = mH (if stpB (n, w, se, sp, hr, lt, hd, sc, so, fi, wo) c a b e = true then stpS (n, w, se, sp, hr, lt, hd, sc, so, fi, wo) c a b e else (n, w, se, sp, hr, lt, hd, sc, so, fi, wo)) (J, A, B, K)) := by
  refine e_open RX10 rfl (by decide +kernel) rfl (fun _ => Nat.le_of_ble_eq_true rfl) (fun x X F => ?_)
  have hn : n ≤ 10 := h_S.1
  obtain ⟨t1, t2, t3⟩ := h_t
  refine ei_aload_n X dX10_comesTold_0 rfl rfl ?_
  refine ei_getf X fl_RX10_51 dX10_comesTold_1 rfl rfl ?_
  refine ei_iconst (v := nI 3) X dX10_comesTold_4 rfl ?_
  refine ei_iload_n X dX10_comesTold_5 rfl rfl ?_
  refine ei_imul X dX10_comesTold_6 ?_
  rw [nI_mul]
  refine ei_iaload_n X dX10_comesTold_7 rfl (by first | omega | assumption) (by decide) ?_
  rw [t1]
  refine ei_istore_n X dX10_comesTold_8 rfl (Nat.le_of_ble_eq_true rfl) rfl ?_
  refine ei_aload_n X dX10_comesTold_9 rfl rfl ?_
  refine ei_getf X fl_RX10_51 dX10_comesTold_10 rfl rfl ?_
  refine ei_iconst (v := nI 3) X dX10_comesTold_13 rfl ?_
  refine ei_iload_n X dX10_comesTold_14 rfl rfl ?_
  refine ei_imul X dX10_comesTold_15 ?_
  rw [nI_mul]
  refine ei_iconst (v := nI 1) X dX10_comesTold_16 rfl ?_
  refine ei_iadd X dX10_comesTold_17 ?_
  rw [nI_add]
  refine ei_iaload_n X dX10_comesTold_18 rfl (by first | omega | assumption) (by decide) ?_
  refine ei_istore_n X dX10_comesTold_19 rfl (Nat.le_of_ble_eq_true rfl) rfl ?_
  refine ei_aload_n X dX10_comesTold_20 rfl rfl ?_
  refine ei_getf X fl_RX10_48 dX10_comesTold_21 rfl rfl ?_
  refine ei_iload_n X dX10_comesTold_24 rfl rfl ?_
  refine ei_iaload_n X dX10_comesTold_25 rfl (by first | omega | assumption) (by decide) ?_
  rw [h_l]
  refine ei_lookup [(98, 68), (104, 99), (115, 75), (117, 82)] 105 X dX10_comesTold_26 (by decide) (by decide) (by decide) ⟨fun cq26 => ?_, fun cq26 => ?_, fun cq26 => ?_, fun cq26 => ?_, trivial⟩ (fun cq26 => ?_)
  · subst cq26
    refine ei_aload_n X dX10_comesTold_68 rfl rfl ?_
    refine ei_iload_n X dX10_comesTold_69 rfl rfl ?_
    refine ei_iload_n X dX10_comesTold_70 rfl rfl ?_
    rw [t2 (Or.inl rfl)]
    refine ei_callI1 X ml_RX10_207 dX10_comesTold_71 (ct_X10_bulbComes _ _ _ _ _ _ _ _ _ _ _ _ _ _ _ a b (h_o.2.1 (by decide)) hn) rfl rfl (by decide) (by decide) rfl (Nat.le_of_ble_eq_true rfl) ?_
    refine ei_zreturn X F dX10_comesTold_74 (bz_nar _) ?_
    exact ⟨by rw [stpB_98], I, kI_rf I, by rw [stpB_98, stpS_98]⟩
  · subst cq26
    refine ei_aload_n X dX10_comesTold_99 rfl rfl ?_
    refine ei_iload_n X dX10_comesTold_100 rfl rfl ?_
    refine ei_callI X ml_RX10_213 dX10_comesTold_101 (ct_X10_hoursCome _ _ _ _ _ _ _ _ _ _ _ _ _ _ _ a h_S h_M) rfl rfl (by decide) (by decide) rfl (Nat.le_of_ble_eq_true rfl) (fun r h2 hp => ?_)
    obtain ⟨rfl, J101, h101, rfl⟩ := hp
    refine ei_zreturn X F dX10_comesTold_104 (bz_nar _) ?_
    exact ⟨by rw [stpB_104], J101, h101, by rw [stpB_104, stpS_104]⟩
  · subst cq26
    refine ei_aload_n X dX10_comesTold_75 rfl rfl ?_
    refine ei_iload_n X dX10_comesTold_76 rfl rfl ?_
    refine ei_puti X fp_RX10_19 dX10_comesTold_77 rfl (Nat.le_of_ble_eq_true rfl) (pm_6 _ _ _ _ _ _ _ _ _ _ _ _ _ _ _ _) ?_
    refine ei_iconst (v := 1) X dX10_comesTold_80 rfl ?_
    refine ei_zreturn X F dX10_comesTold_81 (by decide) ?_
    exact ⟨by rw [stpB_115]; rfl, I, kI_rf I, by rw [stpB_115, if_pos rfl, stpS_115]⟩
  · subst cq26
    refine ei_aload_n X dX10_comesTold_82 rfl rfl ?_
    refine ei_iload_n X dX10_comesTold_83 rfl rfl ?_
    refine ei_iload_n X dX10_comesTold_84 rfl rfl ?_
    refine ei_aload_n X dX10_comesTold_85 rfl rfl ?_
    refine ei_getf X fl_RX10_51 dX10_comesTold_86 rfl rfl ?_
    refine ei_iconst (v := nI 3) X dX10_comesTold_89 rfl ?_
    refine ei_iload_n X dX10_comesTold_90 rfl rfl ?_
    refine ei_imul X dX10_comesTold_91 ?_
    rw [nI_mul]
    refine ei_iconst (v := nI 2) X dX10_comesTold_92 rfl ?_
    refine ei_iadd X dX10_comesTold_93 ?_
    rw [nI_add]
    refine ei_iaload_n X dX10_comesTold_94 rfl (by first | omega | assumption) (by decide) ?_
    rw [t2 (Or.inr (Or.inl rfl)), t3 rfl]
    refine ei_callI1 X ml_RX10_210 dX10_comesTold_95 (ct_X10_toolComes _ _ _ _ _ _ _ _ _ _ _ _ _ _ _ a b e h_S (h_o.2.2.2.1 (Or.inr rfl))) rfl rfl (by decide) (by decide) rfl (Nat.le_of_ble_eq_true rfl) ?_
    refine ei_zreturn X F dX10_comesTold_98 (bz_nar _) ?_
    exact ⟨by rw [stpB_117], I, kI_rf I, by rw [stpB_117, stpS_117]⟩
  · obtain ⟨n98, n104, n115, n117, -⟩ := cq26
    refine ei_aload_n X dX10_comesTold_105 rfl rfl ?_
    refine ei_aload_n X dX10_comesTold_106 rfl rfl ?_
    refine ei_getf X fl_RX10_48 dX10_comesTold_107 rfl rfl ?_
    refine ei_iload_n X dX10_comesTold_110 rfl rfl ?_
    refine ei_iaload_n X dX10_comesTold_111 rfl (by first | omega | assumption) (by decide) ?_
    rw [h_l]
    refine ei_iload_n X dX10_comesTold_112 rfl rfl ?_
    refine ei_iload_n X dX10_comesTold_113 rfl rfl ?_
    refine ei_callI1 X ml_RX10_216 dX10_comesTold_114 (ct_X10_ofBulb _ _ _ _ _ _ _ _ _ _ _ _ _ _ _ c a (A 12 (3 * k + 1)) h_S (by (rcases nd_cs h_n with (z | z | z) | z | z | z | z; exact Or.inr (Or.inl z); exact absurd z n115; exact Or.inr (Or.inr z); exact absurd z n98; exact absurd z n104; exact absurd z n117; exact Or.inl z))) rfl rfl (by decide) (by decide) rfl (Nat.le_of_ble_eq_true rfl) ?_
    refine ei_zreturn X F dX10_comesTold_117 (bz_nar _) ?_
    exact ⟨by rw [stpB_o n98 n115 n117 n104], I, kI_rf I, by rw [stpB_o n98 n115 n117 n104, stpS_o (v := A 12 (3 * k + 1)) n98 n115 n117 n104 (fun z => t2 (Or.inr (Or.inr z)))]⟩
theorem neg_lt {c : Int32} (h1 : c.toInt < 0) (h2 : -100000 ≤ c.toInt) {q : Nat} (h3 : q < 100000) : c - nI q < 0 := by
  rw [Int32.lt_iff_toInt_lt, i32_sub (by omega) (by omega) (by rw [nI_toInt (by omega)]; omega) (by rw [nI_toInt (by omega)]; omega), nI_toInt (by omega), Int32.toInt_zero]
  omega
def plN (z : Sh) : Nat → Nat
  | 0 => 0
  | i + 1 => nxF z (plN z i)
theorem stA_off {A A2 A3 : Nat → Nat → Int32} {k p i : Nat} {c : Int32} (h : stA A2 A3 k p c) (hi : i < k) : A3 10 i = A2 10 i ∧ A3 11 i = A2 11 i ∧ ∀ j, j < 3 * k → A3 12 j = A2 12 j := by
  obtain ⟨h1, h2, h3, h4⟩ := h
  exact ⟨by rw [h2, pk_un (by omega)], by rw [h3, pk_un (by omega)], h4⟩
/-- what is read of the statement at i -/
def stR (z : Sh) (A : Nat → Nat → Int32) (i : Nat) : Prop := okS z (plN z i) = true ∧ A 10 i = nI (plN z i) ∧ A 11 i = hereF z (plN z i) ∧ ToldOk (hereF z (plN z i)) (numA z (plN z i)) (numB z (plN z i)) (numE z (plN z i)) (A 12) (3 * i)
theorem ToldOk_ext {c a b e : Int32} {T T2 : Nat → Int32} {i : Nat} (h : ToldOk c a b e T i) (h0 : T2 i = T i) (h1 : T2 (i + 1) = T (i + 1)) (h2 : T2 (i + 2) = T (i + 2)) : ToldOk c a b e T2 i :=
  ⟨h0.trans h.1, fun q => h1.trans (h.2.1 q), fun q => h2.trans (h.2.2 q)⟩
theorem rdN_ok {z : Sh} {e p : Nat} (h : okS z p = true) : rdN z (e + 1) p = if nxF z p < zN z then rdN z e (nxF z p) else none := if_pos h
theorem rdN_bad {z : Sh} {e p : Nat} (h : okS z p = false) : rdN z (e + 1) p = some (bdF z p) := if_neg (by rw [h]; exact Bool.false_ne_true)
set_option maxRecDepth 100000 in
set_option maxHeartbeats 1000000 in
theorem ct_X10_string (n : Nat) (w se sp hr lt hd sc : Int32) (so fi wo : Nat → Int32) (I : Nat → Int32) (A : Nat → Nat → Int32) (B : Nat → Nat → Int64) (K : Value) (Z : Nat → Sh) (d : Int32) (h_S : Good (n, w, se, sp, hr, lt, hd, sc, so, fi, wo)) (h_M : mI (I, A, B, K)) (h_R : RS Z (I, A, B, K)) : e_Ct yX10_string cX10_string 4 (some .int) 9 [.ref 0, .int d] (mH (n, w, se, sp, hr, lt, hd, sc, so, fi, wo) (I, A, B, K)) (mP (some (.int (stringF (n, w, se, sp, hr, lt, hd, sc, so, fi, wo) Z d))) (stringS (n, w, se, sp, hr, lt, hd, sc, so, fi, wo) Z d) (I, A, B, K)) := by
  refine e_open RX10 rfl (by decide +kernel) rfl (fun _ => Nat.le_of_ble_eq_true rfl) (fun x X F => ?_)
  obtain ⟨i11, i12⟩ := h_M
  simp only at i11 i12
  have hR := RS_20 _ _ _ _ h_R 0
  have EN : ∀ (v : Int32) (y : Option Value), v < 0 → stringF (n, w, se, sp, hr, lt, hd, sc, so, fi, wo) Z d = v → stringS (n, w, se, sp, hr, lt, hd, sc, so, fi, wo) Z d = (n, w, se, sp, hr, lt, hd, sc, so, fi, wo) → e_E x 30 [some (.ref 0), some (.int d), y, none] [.int v] (mH (n, w, se, sp, hr, lt, hd, sc, so, fi, wo) (upd I 20 0, A, B, K)) := by
    intro v y hv h1 h2
    refine ei_istore_n X dX10_string_30 rfl (Nat.le_of_ble_eq_true rfl) rfl ?_
    refine ei_iload_n X dX10_string_31 rfl rfl ?_
    refine ei_if_ge (tgt := 37) X dX10_string_32 (by decide) (fun cq32 => ?_) (fun cq32 => ?_)
    · exact (Int32.lt_irrefl (Int32.lt_of_lt_of_le hv cq32)).elim
    · refine ei_iload_n X dX10_string_35 rfl rfl ?_
      refine ei_ireturn X F dX10_string_36 ?_
      exact ⟨by rw [h1], _, kM_20 _ _ _ _ 0, by rw [h2]⟩
  have EM : ∀ k, k < 8 → d = nI k → zH (Z k) = 2 → zK (Z k) = 0 → stringF (n, w, se, sp, hr, lt, hd, sc, so, fi, wo) Z (nI k) = textF (n, w, se, sp, hr, lt, hd, sc, so, fi, wo) (Z k) → stringS (n, w, se, sp, hr, lt, hd, sc, so, fi, wo) Z (nI k) = textS (n, w, se, sp, hr, lt, hd, sc, so, fi, wo) (Z k) → e_E x 30 [some (.ref 0), some (.int (nI k)), some (.int 0), none] [.int 0] (mH (n, w, se, sp, hr, lt, hd, sc, so, fi, wo) (upd I 20 0, A, B, K)) := by
    intro k hk hdd hz hkz hF hSS
    obtain ⟨o1, o2, o3, o4⟩ := h_R k hk
    obtain ⟨z7, z8, z9⟩ := o4 hz
    obtain ⟨hkk, hs⟩ := o1.2.2 hz
    simp only at z7 z8 z9
    have E150 : rdN (Z k) 200 0 = none → ∀ m, m ≤ 40 → zN (Z k) ≤ plN (Z k) m → (∀ i, i < m → plN (Z k) i < zN (Z k)) → ∀ (c j : Nat) (S2 : St) (J : Nat → Int32) (A3 : Nat → Nat → Int32), m - j < c → j ≤ m → Good S2 → J 24 = nI m → J 11 = 0 → J 12 = 1 → J 30 = I 30 → (∀ c, 4 ≤ c ∧ c ≤ 8 ∨ c = 14 → A3 c = A c) → A3 13 = encF (n, w, se, sp, hr, lt, hd, sc, so, fi, wo) → (∀ i, i < m → stR (Z k) A3 i) → rnN (Z k) 200 (n, w, se, sp, hr, lt, hd, sc, so, fi, wo) 0 0 = rnN (Z k) (200 - j) S2 (plN (Z k) j) j → e_E x 113 [some (.ref 0), some (.int (nI k)), some (.int 0), some (.int (nI j))] [] (mH S2 (J, A3, B, .ref 13)) := by
      intro hrd m hm hmN hmi c
      induction c with
      | zero => intro j S2 J A3 hc; exact absurd hc (Nat.not_lt_zero _)
      | succ c ih =>
        intro j S2 J A3 hc hj hg j24 j11 j12 j30 hA h13 hst hv
        obtain ⟨n2, w2, se2, sp2, hr2, lt2, hd2, sc2, so2, fi2, wo2⟩ := S2
        have tF : textF (n, w, se, sp, hr, lt, hd, sc, so, fi, wo) (Z k) = (rnN (Z k) 200 (n, w, se, sp, hr, lt, hd, sc, so, fi, wo) 0 0).1 := by unfold textF; rw [hrd]
        refine ei_iload_n X dX10_string_113 rfl rfl ?_
        refine ei_aload_n X dX10_string_114 rfl rfl ?_
        refine ei_getf X fl_RX10_183 dX10_string_115 rfl rfl ?_
        rw [j24]
        refine ei_icmpn_ge (tgt := 150) X dX10_string_118 (by decide) (by first | omega | assumption) (by first | omega | assumption) (fun cq118 => ?_) (fun cq118 => ?_)
        · refine ei_aload_n X dX10_string_150 rfl rfl ?_
          refine ei_getf X fl_RX10_183 dX10_string_151 rfl rfl ?_
          rw [j24]
          refine ei_ireturn X F dX10_string_154 ?_
          have hme : j = m := (by omega)
          have e1 : rnN (Z k) (200 - j) (n2, w2, se2, sp2, hr2, lt2, hd2, sc2, so2, fi2, wo2) (plN (Z k) j) j = (nI j, (n2, w2, se2, sp2, hr2, lt2, hd2, sc2, so2, fi2, wo2)) := (by rw [show 200 - j = (200 - (j + 1)) + 1 by omega]; exact if_neg (by rw [hme]; omega))
          have e2 : textF (n, w, se, sp, hr, lt, hd, sc, so, fi, wo) (Z k) = nI m := (by rw [tF, hv, e1, hme])
          exact ⟨by rw [hdd, hF, e2], (J, A3, B, .ref 13), ⟨fun q hq => by (rcases hq with rfl | rfl | rfl; (· exact j11.trans i11.symm); (· exact j12.trans i12.symm); (· exact j30)), hA, rfl⟩, by rw [hdd, hSS]; unfold textS; rw [e2, if_pos (nI_pos' (by omega)), hv, e1]⟩
        · obtain ⟨s1, s2, s3, s4⟩ := hst j (by omega)
          have hpl := hmi j (by omega)
          have hun : rnN (Z k) (200 - j) (n2, w2, se2, sp2, hr2, lt2, hd2, sc2, so2, fi2, wo2) (plN (Z k) j) j = (if stpB (n2, w2, se2, sp2, hr2, lt2, hd2, sc2, so2, fi2, wo2) (hereF (Z k) (plN (Z k) j)) (numA (Z k) (plN (Z k) j)) (numB (Z k) (plN (Z k) j)) (numE (Z k) (plN (Z k) j)) = true then rnN (Z k) (200 - (j + 1)) (stpS (n2, w2, se2, sp2, hr2, lt2, hd2, sc2, so2, fi2, wo2) (hereF (Z k) (plN (Z k) j)) (numA (Z k) (plN (Z k) j)) (numB (Z k) (plN (Z k) j)) (numE (Z k) (plN (Z k) j))) (plN (Z k) (j + 1)) (j + 1) else (-2000 - nI (plN (Z k) j), (n2, w2, se2, sp2, hr2, lt2, hd2, sc2, so2, fi2, wo2))) := (by rw [show 200 - j = (200 - (j + 1)) + 1 by omega]; exact if_pos hpl)
          refine ei_aload_n X dX10_string_121 rfl rfl ?_
          refine ei_iload_n X dX10_string_122 rfl rfl ?_
          refine ei_callI X ml_RX10_228 dX10_string_123 (ct_X10_comesTold _ _ _ _ _ _ _ _ _ _ _ _ _ _ _ j (hereF (Z k) (plN (Z k) j)) (numA (Z k) (plN (Z k) j)) (numB (Z k) (plN (Z k) j)) (numE (Z k) (plN (Z k) j)) (by omega) hg ⟨j11, j12⟩ s3 s4 (okS_dig s1).1 (num_ok s1)) rfl rfl (by decide) (by decide) rfl (Nat.le_of_ble_eq_true rfl) (fun r h2 hp => ?_)
          obtain ⟨rfl, J123, h123, rfl⟩ := hp
          refine ei_ifz_ne (tgt := 144) X dX10_string_126 (by decide) (fun cq126 => ?_) (fun cq126 => ?_)
          · rw [if_pos cq126]
            rw [if_pos cq126] at hun
            refine ei_iinc_n X dX10_string_144 rfl rfl ?_
            refine ei_goto (tgt := 113) X dX10_string_147 (by decide) ?_
            exact ih (j + 1) _ J123 A3 (by omega) (by omega) (good_stp hg (okS_dig s1).1 (num_ok s1) cq126) ((h123 24 (by decide)).trans j24) ((h123 11 (by decide)).trans j11) ((h123 12 (by decide)).trans j12) ((h123 30 (by decide)).trans j30) hA h13 hst (by rw [hv, hun])
          · rw [if_neg (by rw [cq126]; exact Bool.false_ne_true)]
            rw [if_neg (by rw [cq126]; exact Bool.false_ne_true)] at hun
            refine ei_aload_n X dX10_string_129 rfl rfl ?_
            refine ei_callI X ml_RX10_231 dX10_string_130 (ct_X10_again _ _ _ _ _ _ _ _ _ _ _ n w se sp hr lt hd sc so fi wo _ _ _ _ h13) rfl rfl (by decide) (by decide) rfl (Nat.le_of_ble_eq_true rfl) (fun r h2 hp => ?_)
            obtain ⟨rfl, J130, h130, rfl⟩ := hp
            refine ei_sipush (v := -2000) X dX10_string_133 rfl ?_
            refine ei_aload_n X dX10_string_136 rfl rfl ?_
            refine ei_getf X fl_RX10_45 dX10_string_137 rfl rfl ?_
            refine ei_iload_n X dX10_string_140 rfl rfl ?_
            refine ei_iaload_n X dX10_string_141 rfl (by first | omega | assumption) (by decide) ?_
            rw [s2]
            refine ei_isub X dX10_string_142 ?_
            refine ei_ireturn X F dX10_string_143 ?_
            have e2 : textF (n, w, se, sp, hr, lt, hd, sc, so, fi, wo) (Z k) = -2000 - nI (plN (Z k) j) := (by rw [tF, hv, hun])
            have hlt : -2000 - nI (plN (Z k) j) < 0 := neg_lt (c := -2000) (by decide) (by decide) (by omega)
            exact ⟨by rw [hdd, hF, e2], (_, A3, B, .ref 13), ⟨fun q hq => (h130 q (by omega) (by omega)).trans ((h123 q (by omega)).trans (by (rcases hq with rfl | rfl | rfl; (· exact j11.trans i11.symm); (· exact j12.trans i12.symm); (· exact j30)))), hA, rfl⟩, by rw [hdd, hSS]; unfold textS; rw [e2, if_neg (Int32.not_le.mpr hlt)]⟩
    have EB : ∀ (q : Nat) (J : Nat → Int32) (A2 : Nat → Nat → Int32), q < 1000 → rdN (Z k) 200 0 = some q → J 22 = nI q → J 23 = 1 → (∀ j, j = 11 ∨ j = 12 ∨ j = 30 → J j = I j) → (∀ c, 4 ≤ c ∧ c ≤ 8 ∨ c = 14 → A2 c = A c) → e_E x 57 [some (.ref 0), some (.int (nI k)), some (.int 0), none] [] (mH (n, w, se, sp, hr, lt, hd, sc, so, fi, wo) (J, A2, B, K)) := by
      intro q J A2 hq hrd j22 j23 jo hA
      have tF : textF (n, w, se, sp, hr, lt, hd, sc, so, fi, wo) (Z k) = -1000 - nI q := by unfold textF; rw [hrd]
      have hlt : -1000 - nI q < 0 := neg_lt (c := -1000) (by decide) (by decide) (by omega)
      refine ei_aload_n X dX10_string_57 rfl rfl ?_
      refine ei_getf X fl_RX10_168 dX10_string_58 rfl rfl ?_
      rw [j23]
      refine ei_if_ne (tgt := 91) X dX10_string_61 (by decide) (fun cq61 => ?_) (fun cq61 => ?_)
      · refine ei_aload_n X dX10_string_91 rfl rfl ?_
        refine ei_getf X fl_RX10_168 dX10_string_92 rfl rfl ?_
        rw [j23]
        refine ei_if_eq (tgt := 107) X dX10_string_95 (by decide) (fun cq95 => ?_) (fun cq95 => ?_)
        · first | exact absurd cq95 (by decide) | exact absurd (by decide) cq95
        · refine ei_sipush (v := -1000) X dX10_string_98 rfl ?_
          refine ei_aload_n X dX10_string_101 rfl rfl ?_
          refine ei_getf X fl_RX10_162 dX10_string_102 rfl rfl ?_
          rw [j22]
          refine ei_isub X dX10_string_105 ?_
          refine ei_ireturn X F dX10_string_106 ?_
          exact ⟨by rw [hdd, hF, tF], (J, A2, B, K), ⟨jo, hA, rfl⟩, by rw [hdd, hSS]; unfold textS; rw [tF, if_neg (Int32.not_le.mpr hlt)]⟩
      · first | exact absurd cq61 (by decide) | exact absurd (by decide) cq61
    have L : ∀ (c m : Nat) (J : Nat → Int32) (A2 : Nat → Nat → Int32), 300 - plN (Z k) m < c → 3 * m ≤ plN (Z k) m → plN (Z k) m ≤ 110 → J 21 = nI k → J 22 = nI (plN (Z k) m) → J 23 = 0 → J 24 = nI m → (∀ j, j = 11 ∨ j = 12 ∨ j = 30 → J j = I j) → (∀ c, c ≠ 10 → c ≠ 11 → c ≠ 12 → A2 c = A c) → (∀ i, i < m → plN (Z k) i < zN (Z k)) → (∀ i, i < m → stR (Z k) A2 i) → rdN (Z k) 200 0 = (if m = 0 ∨ plN (Z k) m < zN (Z k) then rdN (Z k) (200 - m) (plN (Z k) m) else none) → e_E x 57 [some (.ref 0), some (.int (nI k)), some (.int 0), none] [] (mH (n, w, se, sp, hr, lt, hd, sc, so, fi, wo) (J, A2, B, K)) := by
      intro c
      induction c with
      | zero => intro m J A2 hc; exact absurd hc (Nat.not_lt_zero _)
      | succ c ih =>
        intro m J A2 hc h3 h110 j21 j22 j23 j24 jo hA hmi hst hrd
        have E84 : (m = 0 ∨ plN (Z k) m < zN (Z k)) → e_E x 84 [some (.ref 0), some (.int (nI k)), some (.int 0), none] [] (mH (n, w, se, sp, hr, lt, hd, sc, so, fi, wo) (J, A2, B, K)) := by
          intro hcc
          rw [if_pos hcc, show 200 - m = (199 - m) + 1 by omega] at hrd
          have hnl := nd_le (hereF (Z k) (plN (Z k) m))
          have hnf : ndF (Z k) (plN (Z k) m) = ndC (hereF (Z k) (plN (Z k) m)) := rfl
          have hm0 : m = 0 → plN (Z k) m = 0 := by rintro rfl; rfl
          refine ei_aload_n X dX10_string_84 rfl rfl ?_
          refine ei_callI X ml_RX10_222 dX10_string_85 (ct_X10_readStatement _ _ _ _ _ _ _ _ _ _ _ _ _ _ _ Z k (plN (Z k) m) m hk hz (RS_A h_R (fun c h1 h2 => hA c (by omega) (by omega) (by omega))) j21 j22 j23 j24 (by omega) (by omega)) rfl rfl (by decide) (by decide) rfl (Nat.le_of_ble_eq_true rfl) (fun r h2 hp => ?_)
          obtain ⟨rfl, J85, A85, a22, a23, a24, ao, aA, aT, rfl⟩ := hp
          refine ei_goto (tgt := 57) X dX10_string_88 (by decide) ?_
          cases hok : okS (Z k) (plN (Z k) m)
          · rw [hok] at a22 a23; rw [rdN_bad hok] at hrd; have hqg := firstN_ge (fun j => !isD (Z k) j) (ndF (Z k) (plN (Z k) m)) (plN (Z k) m + 1); exact EB (bdF (Z k) (plN (Z k) m)) J85 A85 (by unfold bdF qdF; split <;> omega) hrd a22 a23 (fun j hj => (ao j (by omega) (by omega) (by omega)).trans (jo j hj)) (fun c hc => (aA.1 c (by omega) (by omega) (by omega)).trans (hA c (by omega) (by omega) (by omega)))
          · obtain ⟨hd0, -⟩ := okS_dig hok; have hp0 : plN (Z k) m < zN (Z k) := (by rcases hcc with z | z; (· rcases Nat.lt_or_ge (plN (Z k) m) (zN (Z k)) with y | y; (· exact y); (· exfalso; have : hereF (Z k) (plN (Z k) m) = -999 := if_neg (by omega); rw [hnf, this] at hd0; exact absurd hd0 (by decide +kernel))); (· exact z)); rw [hok] at a22 a23; rw [rdN_ok hok] at hrd; have hpn : plN (Z k) (m + 1) = plN (Z k) m + ndF (Z k) (plN (Z k) m) + 2 := rfl; refine ih (m + 1) J85 A85 (by omega) (by omega) (by omega) ((ao 21 (by decide) (by decide) (by decide)).trans j21) a22 a23 a24 (fun j hj => (ao j (by omega) (by omega) (by omega)).trans (jo j hj)) (fun c h1 h2 h3 => (aA.1 c h1 h2 h3).trans (hA c h1 h2 h3)) (fun i hi => ?_) (fun i hi => ?_) ?_; (· rcases Nat.lt_or_ge i m with y | y; (· exact hmi i y); (· rw [show i = m by omega]; exact hp0)); (· rcases Nat.lt_or_ge i m with y | y; (· obtain ⟨s1, s2, s3, s4⟩ := hst i y; obtain ⟨f1, f2, f3⟩ := stA_off (A := A) aA y; exact ⟨s1, f1.trans s2, f2.trans s3, ToldOk_ext s4 (f3 _ (by omega)) (f3 _ (by omega)) (f3 _ (by omega))⟩); (· have e0 : i = m := (by omega); subst e0; exact ⟨hok, by rw [aA.2.1, pk_us], by rw [aA.2.2.1, pk_us], aT hok⟩)); (· rw [hrd]; show (if nxF (Z k) (plN (Z k) m) < zN (Z k) then _ else _) = (if m + 1 = 0 ∨ nxF (Z k) (plN (Z k) m) < zN (Z k) then _ else _); by_cases y : nxF (Z k) (plN (Z k) m) < zN (Z k); (· rw [if_pos y, if_pos (Or.inr y), show 200 - (m + 1) = 199 - m by omega]; rfl); (· rw [if_neg y, if_neg (fun q => q.elim (Nat.succ_ne_zero m) y)]))
        refine ei_aload_n X dX10_string_57 rfl rfl ?_
        refine ei_getf X fl_RX10_168 dX10_string_58 rfl rfl ?_
        rw [j23]
        refine ei_if_ne (tgt := 91) X dX10_string_61 (by decide) (fun cq61 => ?_) (fun cq61 => ?_)
        · first | exact absurd cq61 (by decide) | exact absurd (by decide) cq61
        · refine ei_aload_n X dX10_string_64 rfl rfl ?_
          refine ei_getf X fl_RX10_183 dX10_string_65 rfl rfl ?_
          rw [j24]
          refine ei_if_eq (tgt := 84) X dX10_string_68 (by decide) (fun cq68 => ?_) (fun cq68 => ?_)
          · exact E84 (Or.inl ((nI_eq (a := m) (b := 0) (by omega) (by decide)).mp cq68))
          · refine ei_aload_n X dX10_string_71 rfl rfl ?_
            refine ei_getf X fl_RX10_162 dX10_string_72 rfl rfl ?_
            rw [j22]
            refine ei_aload_n X dX10_string_75 rfl rfl ?_
            refine ei_getf X fl_RX10_38 dX10_string_76 rfl rfl ?_
            refine ei_iload_n X dX10_string_79 rfl rfl ?_
            refine ei_iaload_n X dX10_string_80 rfl (by first | omega | assumption) (by decide) ?_
            rw [hA 8 (by decide) (by decide) (by decide), z8]
            refine ei_icmpn_ge (tgt := 91) X dX10_string_81 (by decide) (by first | omega | assumption) (by first | omega | assumption) (fun cq81 => ?_) (fun cq81 => ?_)
            · refine ei_aload_n X dX10_string_91 rfl rfl ?_
              refine ei_getf X fl_RX10_168 dX10_string_92 rfl rfl ?_
              rw [j23]
              refine ei_if_eq (tgt := 107) X dX10_string_95 (by decide) (fun cq95 => ?_) (fun cq95 => ?_)
              · refine ei_aload_n X dX10_string_107 rfl rfl ?_
                refine ei_callI X ml_RX10_225 dX10_string_108 (ct_X10_think _ _ _ _ _ _ _ _ _ _ _ _ _ _ _) rfl rfl (by decide) (by decide) rfl (Nat.le_of_ble_eq_true rfl) (fun r h2 hp => ?_)
                obtain ⟨rfl, J108, h108, rfl⟩ := hp
                refine ei_iconst (v := nI 0) X dX10_string_111 rfl ?_
                refine ei_istore_n X dX10_string_112 rfl (Nat.le_of_ble_eq_true rfl) rfl ?_
                have m0 : ¬ m = 0 := (fun z => cq68 (by rw [z]; rfl))
                exact E150 (by rw [hrd, if_neg (fun q => q.elim m0 (by omega))]) m (by omega) (by omega) hmi (m + 1) 0 (n, w, se, sp, hr, lt, hd, sc, so, fi, wo) J108 (updA A2 13 (encF (n, w, se, sp, hr, lt, hd, sc, so, fi, wo))) (by omega) (by omega) h_S ((h108 24 (by decide) (by decide)).trans j24) ((h108 11 (by decide) (by decide)).trans ((jo 11 (by omega)).trans i11)) ((h108 12 (by decide) (by decide)).trans ((jo 12 (by omega)).trans i12)) ((h108 30 (by decide) (by decide)).trans (jo 30 (by omega))) (fun c hc => (updA_off (by omega)).trans (hA c (by omega) (by omega) (by omega))) updA_on (fun i hi => by obtain ⟨s1, s2, s3, s4⟩ := hst i hi; exact ⟨s1, by rw [updA_off (by decide)]; exact s2, by rw [updA_off (by decide)]; exact s3, by rw [updA_off (by decide)]; exact s4⟩) rfl
              · first | exact absurd cq95 (by decide) | exact absurd (by decide) cq95
            · exact E84 (Or.inr (by omega))
    refine ei_istore_n X dX10_string_30 rfl (Nat.le_of_ble_eq_true rfl) rfl ?_
    refine ei_iload_n X dX10_string_31 rfl rfl ?_
    refine ei_if_ge (tgt := 37) X dX10_string_32 (by decide) (fun cq32 => ?_) (fun cq32 => ?_)
    · refine ei_aload_n X dX10_string_37 rfl rfl ?_
      refine ei_iload_n X dX10_string_38 rfl rfl ?_
      refine ei_puti X fp_RX10_165 dX10_string_39 rfl (Nat.le_of_ble_eq_true rfl) (pm_21 _ _ _ _ _ _ _ _ _ _ _ _ _ _ _ _) ?_
      refine ei_aload_n X dX10_string_42 rfl rfl ?_
      refine ei_iconst (v := nI 0) X dX10_string_43 rfl ?_
      refine ei_puti X fp_RX10_162 dX10_string_44 rfl (Nat.le_of_ble_eq_true rfl) (pm_22 _ _ _ _ _ _ _ _ _ _ _ _ _ _ _ _) ?_
      refine ei_aload_n X dX10_string_47 rfl rfl ?_
      refine ei_iconst (v := 0) X dX10_string_48 rfl ?_
      refine ei_putz X fp_RX10_168 dX10_string_49 rfl (Nat.le_of_ble_eq_true rfl) (by decide) (pm_23 _ _ _ _ _ _ _ _ _ _ _ _ _ _ _ _) ?_
      refine ei_aload_n X dX10_string_52 rfl rfl ?_
      refine ei_iconst (v := nI 0) X dX10_string_53 rfl ?_
      refine ei_puti X fp_RX10_183 dX10_string_54 rfl (Nat.le_of_ble_eq_true rfl) (pm_24 _ _ _ _ _ _ _ _ _ _ _ _ _ _ _ _) ?_
      exact L 301 0 _ A (by show 300 - 0 < 301; omega) (by show 0 ≤ 0; omega) (by show 0 ≤ 110; omega) (by rw [pk_un (by decide), pk_un (by decide), pk_un (by decide), pk_us]) (by rw [pk_un (by decide), pk_un (by decide), pk_us]; rfl) (by rw [pk_un (by decide), pk_us]) pk_us (fun j hj => by rw [pk_un (by omega), pk_un (by omega), pk_un (by omega), pk_un (by omega), pk_un (by omega)]) (fun _ _ _ _ => rfl) (fun i hi => absurd hi (Nat.not_lt_zero _)) (fun i hi => absurd hi (Nat.not_lt_zero _)) (by rw [if_pos (Or.inl rfl)]; rfl)
    · first | exact absurd cq32 (by decide) | exact absurd (by decide) cq32
  refine ei_aload_n X dX10_string_0 rfl rfl ?_
  refine ei_iconst (v := 0) X dX10_string_1 rfl ?_
  refine ei_puti X fp_RX10_78 dX10_string_2 rfl (Nat.le_of_ble_eq_true rfl) (pm_20 _ _ _ _ _ _ _ _ _ _ _ _ _ _ _ _) ?_
  refine ei_aload_n X dX10_string_5 rfl rfl ?_
  refine ei_iload_n X dX10_string_6 rfl rfl ?_
  refine ei_callI1 X ml_RX10_219 dX10_string_7 (ct_X10_wrongRow _ _ _ _ _ _ _ _ _ _ _ _ _ _ _ Z _ hR) rfl rfl (by decide) (by decide) rfl (Nat.le_of_ble_eq_true rfl) ?_
  refine ei_istore_n X dX10_string_10 rfl (Nat.le_of_ble_eq_true rfl) rfl ?_
  refine ei_iload_n X dX10_string_11 rfl rfl ?_
  refine ei_if_ne (tgt := 29) X dX10_string_12 (by decide) (fun cq12 => ?_) (fun cq12 => ?_)
  · refine ei_iload_n X dX10_string_29 rfl rfl ?_
    exact EN _ _ (wrongRow_n.mpr cq12) (by unfold stringF; rw [if_neg cq12]) (by unfold stringS; rw [if_neg cq12])
  · obtain ⟨k, hk, hdd, hz⟩ := wrongRow_0 cq12
    have hnc : nc (nI k) = k := nc_nI (by omega)
    obtain ⟨o1, o2, o3, o4⟩ := h_R k hk
    obtain ⟨z7, z8, z9⟩ := o4 hz
    simp only at z7
    rw [cq12, hdd]
    refine ei_aload_n X dX10_string_15 rfl rfl ?_
    refine ei_getf X fl_RX10_35 dX10_string_16 rfl rfl ?_
    refine ei_iload_n X dX10_string_19 rfl rfl ?_
    refine ei_iaload_n X dX10_string_20 rfl (by first | omega | assumption) (by decide) ?_
    rw [z7]
    refine ei_if_eq (tgt := 29) X dX10_string_21 (by decide) (fun cq21 => ?_) (fun cq21 => ?_)
    · refine ei_iload_n X dX10_string_29 rfl rfl ?_
      exact EM k hk hdd hz cq21 (by unfold stringF; rw [← hdd, if_pos cq12, hdd, hnc, if_pos cq21]) (by unfold stringS; rw [← hdd, if_pos cq12, hdd, hnc, if_pos cq21])
    · refine ei_bipush (v := -12) X dX10_string_24 rfl ?_
      refine ei_goto (tgt := 30) X dX10_string_26 (by decide) ?_
      rw [← hdd]
      exact EN (-12) _ (by decide) (by unfold stringF; rw [if_pos cq12, hdd, hnc, if_neg cq21]) (by unfold stringS; rw [if_pos cq12, hdd, hnc, if_neg cq21])

