/-! ===== frost ===== -/
theorem odds_mc (t bad : Nat) : ∀ (m i a : Nat), itr (odds1 t bad) a i m = a * (t - 1) ^ (m - (mc (nI bad) (i + m) - mc (nI bad) i)) := by
  intro m
  induction m with
  | zero => intro i a; show a = _; rw [Nat.zero_sub, Nat.pow_zero, Nat.mul_one]
  | succ m ih =>
    intro i a
    have hmo : ∀ k i, mc (nI bad) (i + k) ≤ mc (nI bad) i + k := by
      intro k
      induction k with
      | zero => intro i; exact Nat.le_refl _
      | succ k ihk =>
        intro i
        have h1 := ihk i
        have h2 : mc (nI bad) (i + k + 1) ≤ mc (nI bad) (i + k) + 1 := by
          cases q : hasB (nI bad) (i + k)
          · rw [mc_f q]; omega
          · rw [mc_t q]; omega
        rw [show i + (k + 1) = i + k + 1 by omega]
        omega
    have h1 := hmo m (i + 1)
    have h2 := mc_mono (nI bad) (show i + 1 ≤ i + 1 + m by omega)
    rw [itr_s, ih (i + 1), show i + (m + 1) = i + 1 + m by omega]
    unfold odds1
    cases q : hasB (nI bad) i
    · rw [if_neg Bool.false_ne_true]
      rw [mc_f q] at h1 h2 ⊢
      rw [show m + 1 - (mc (nI bad) (i + 1 + m) - mc (nI bad) i) = (m - (mc (nI bad) (i + 1 + m) - mc (nI bad) i)) + 1 by omega, Nat.pow_succ, Nat.mul_assoc, Nat.mul_comm (t - 1)]
    · rw [if_pos rfl]
      rw [mc_t q] at h1 h2 ⊢
      rw [show m + 1 - (mc (nI bad) (i + 1 + m) - mc (nI bad) i) = m - (mc (nI bad) (i + 1 + m) - (mc (nI bad) i + 1)) by omega]
theorem odds_pow {t bad m : Nat} : oddsN t m bad = (t - 1) ^ (m - mc (nI bad) m) := by
  unfold oddsN
  rw [odds_mc t bad m 0 1, Nat.one_mul, Nat.zero_add]
  rfl
theorem frA_s {S : St} {b m t : Nat} (a i k : Nat) : itr (fun a bad => a + if hasB (sW (frostS S m (nI bad))) b then oddsN t m bad else 0) a i k = a + itr (fun a bad => a + if hasB (sW (frostS S m (nI bad))) b then oddsN t m bad else 0) 0 i k := by
  induction k generalizing a i with
  | zero => rfl
  | succ k ih => rw [itr_s, itr_s, ih, ih (0 + _)]; omega
theorem good_frost {S : St} (h : Good S) (m : Nat) (fr : Int32) : Good (frostS S m fr) := good_itr (f := fun S k => hourS S (if hasB fr k then 2 else 1)) (fun S k h => good_hour h (by split; exact Or.inr rfl; exact Or.inl rfl)) m 0 S h
set_option maxRecDepth 100000 in
set_option maxHeartbeats 1000000 in
theorem ct_X9_frost (n : Nat) (w se sp hr lt hd sc : Int32) (so fi wo : Nat → Int32) (D T : St) (im : Bool) (Z : Nat → Sh) (be : Nat → Int32) (b m t part : Int32) (h_S : Good (n, w, se, sp, hr, lt, hd, sc, so, fi, wo)) (h_0 : dg0 be) : e_Ct yX9_frost cX9_frost 8 (some .long) 6 [.ref 0, .int b, .int m, .int t, .int part] (oH (n, w, se, sp, hr, lt, hd, sc, so, fi, wo) D T im Z be) (fP (.long (frostF (n, w, se, sp, hr, lt, hd, sc, so, fi, wo) b m t part)) (n, w, se, sp, hr, lt, hd, sc, so, fi, wo) T im Z) := by
  refine e_open RX9 rfl (by decide +kernel) rfl (fun _ => Nat.le_of_ble_eq_true rfl) (fun x X F => ?_)
  have hn : n ≤ 10 := h_S.1
  have L : ∀ (bk mk tk : Nat), bk < n → mk ≤ 7 → 2 ≤ tk → tk ≤ 20 → (part = 0 ∨ part = 1) → frostF (n, w, se, sp, hr, lt, hd, sc, so, fi, wo) b m t part = partF (frostA (n, w, se, sp, hr, lt, hd, sc, so, fi, wo) bk mk tk) (tk ^ mk) part → ∀ (c bad a : Nat) (D3 : St), 2 ^ mk - bad < c → bad ≤ 2 ^ mk → frostA (n, w, se, sp, hr, lt, hd, sc, so, fi, wo) bk mk tk = itr (fun a bad => a + if hasB (sW (frostS (n, w, se, sp, hr, lt, hd, sc, so, fi, wo) mk (nI bad))) bk then oddsN tk mk bad else 0) a bad (2 ^ mk - bad) → e_E x 50 [some (.ref 0), some (.int (nI bk)), some (.int (nI mk)), some (.int (nI tk)), some (.int part), some (.long (lN a)), none, some (.int (nI bad))] [] (oH (n, w, se, sp, hr, lt, hd, sc, so, fi, wo) D3 T im Z be) := by
    intro bk mk tk hb hm ht1 ht2 hpt hF c
    have hpow : 2 ^ mk ≤ 2 ^ 7 := Nat.pow_le_pow_right (by decide) hm
    have hA := frostA_le (S := (n, w, se, sp, hr, lt, hd, sc, so, fi, wo)) (b := bk) (m := mk) ht2 hm
    have hP := pow_le7 ht2 hm
    have hP0 : 0 < tk ^ mk := Nat.pow_pos (by omega)
    induction c with
    | zero => intro bad a D3 hc; exact absurd hc (Nat.not_lt_zero _)
    | succ c ih =>
      intro bad a D3 hc hbad hv
      obtain ⟨w2, se2, hr2, lt2, wo2, e2⟩ := frost_ex (n, w, se, sp, hr, lt, hd, sc, so, fi, wo) mk (nI bad)
      simp only [sN, sW, sE, sP, sH, sL, sD, sC, sO, sG, sR] at e2
      have ew : sW (frostS (n, w, se, sp, hr, lt, hd, sc, so, fi, wo) mk (nI bad)) = w2 := by rw [e2]
      have hle : a ≤ frostA (n, w, se, sp, hr, lt, hd, sc, so, fi, wo) bk mk tk := by rw [hv, frA_s]; exact Nat.le_add_right _ _
      refine ei_iload X dX9_frost_50 rfl ?_
      refine ei_iconst (v := 1) X dX9_frost_52 rfl ?_
      refine ei_iload_n X dX9_frost_53 rfl rfl ?_
      refine ei_ishl X dX9_frost_54 ?_
      rw [shl_pow mk hm]
      refine ei_icmpn_ge (tgt := 115) X dX9_frost_55 (by decide) (by first | omega | assumption) (by first | omega | assumption) (fun cq55 => ?_) (fun cq55 => ?_)
      · refine ei_lload X dX9_frost_115 rfl ?_
        refine ei_iload_n X dX9_frost_117 rfl rfl ?_
        refine ei_i2l X dX9_frost_118 ?_
        rw [nI_l (show tk < 2 ^ 31 by omega)]
        refine ei_iload_n X dX9_frost_119 rfl rfl ?_
        refine ei_callT1 X ml_RX9_274 dX9_frost_120 (ct_X3_power _ tk mk (by omega)) rfl rfl (by decide) (by decide) (Nat.le_of_ble_eq_true rfl) ?_
        refine ei_iload X dX9_frost_123 rfl ?_
        refine ei_callT1 X ml_RX9_206 dX9_frost_125 (ct_X3_leastTerms _ a (tk ^ mk) part (by omega) (by omega) hpt (fun z => by omega)) rfl rfl (by decide) (by decide) (Nat.le_of_ble_eq_true rfl) ?_
        refine ei_lreturn X F dX9_frost_128 ?_
        exact ⟨by rw [hF, hv, itr_ge _ _ (by omega)], D3, be, h_0, rfl⟩
      · have hBN : BN mk (nI bad) := BN_lt (by omega) (by omega)
        have hgd : Gd1 (nI bad) 1023 := nI_gd (m := 1023) (by omega) (by decide)
        have hmcl := mc_le (nI bad) mk
        refine ei_aload_n X dX9_frost_58 rfl rfl ?_
        refine ei_getf X fl_RX9_16 dX9_frost_59 rfl rfl ?_
        refine ei_aload_n X dX9_frost_62 rfl rfl ?_
        refine ei_getf X fl_RX9_10 dX9_frost_63 rfl rfl ?_
        refine ei_cv0 [5, 6, 7, 8, 1, 2, 3, 4] (oH_gDN _ _ _ _ _ _) (oH_pDN _ _ _ _ _ _ _) X ml_RX9_44 dX9_frost_66 (ct_X2_becomes _ _) rfl rfl (by decide) (by decide) rfl (Nat.le_of_ble_eq_true rfl) (by decide) ?_
        refine ei_aload_n X dX9_frost_69 rfl rfl ?_
        refine ei_getf X fl_RX9_16 dX9_frost_70 rfl rfl ?_
        refine ei_iload_n X dX9_frost_73 rfl rfl ?_
        refine ei_iload X dX9_frost_74 rfl ?_
        refine ei_cv0 [5, 6, 7, 8] (oH_gD _ _ _ _ _ _) (oH_pD _ _ _ _ _ _ _) X ml_RX9_271 dX9_frost_76 (ct_X2_passFrosts _ _ _ _ _ _ _ _ _ _ _ mk (nI bad) hn (by omega)) rfl rfl (by decide) (by decide) rfl (Nat.le_of_ble_eq_true rfl) (by decide) ?_
        rw [e2]
        refine ei_aload_n X dX9_frost_79 rfl rfl ?_
        refine ei_getf X fl_RX9_16 dX9_frost_80 rfl rfl ?_
        refine ei_iload_n X dX9_frost_83 rfl rfl ?_
        refine ei_cv1 [5, 6, 7, 8] (oH_gD _ _ _ _ _ _) (oH_pD _ _ _ _ _ _ _) X ml_RX9_68 dX9_frost_84 (ct_X2_isWhole _ _ _ _ _ _ _ _ _ _ _ _) rfl rfl (by decide) (by decide) rfl (Nat.le_of_ble_eq_true rfl) (by decide) ?_
        refine ei_ifz_eq (tgt := 109) X dX9_frost_87 (by decide) (fun cq87 => ?_) (fun cq87 => ?_)
        · refine ei_iinc_n X dX9_frost_109 rfl rfl ?_
          refine ei_goto (tgt := 50) X dX9_frost_112 (by decide) ?_
          exact ih (bad + 1) a _ (by omega) (by omega) (by rw [hv, itr_lt _ _ (by omega), ew, if_neg (by rw [cq87]; exact Bool.false_ne_true), Nat.add_zero])
        · refine ei_lload X dX9_frost_90 rfl ?_
          refine ei_iload_n X dX9_frost_92 rfl rfl ?_
          refine ei_iconst (v := nI 1) X dX9_frost_93 rfl ?_
          refine ei_isub X dX9_frost_94 ?_
          rw [show nI tk - nI 1 = nI (tk - 1) from nI_subN (by omega)]
          refine ei_i2l X dX9_frost_95 ?_
          rw [nI_l (show tk - 1 < 2 ^ 31 by omega)]
          refine ei_iload_n X dX9_frost_96 rfl rfl ?_
          refine ei_iload X dX9_frost_97 rfl ?_
          refine ei_callT1 X ml_RX9_215 dX9_frost_99 (ct_J6_bitCount_0f7a4 _ _ hgd) rfl rfl (by decide) (by decide) (Nat.le_of_ble_eq_true rfl) ?_
          rw [popF_mc hBN (by omega)]
          refine ei_isub X dX9_frost_102 ?_
          rw [nI_subN hmcl]
          refine ei_callT1 X ml_RX9_274 dX9_frost_103 (ct_X3_power _ (tk - 1) (mk - mc (nI bad) mk) (by omega)) rfl rfl (by decide) (by decide) (Nat.le_of_ble_eq_true rfl) ?_
          rw [← odds_pow (t := tk) (bad := bad) (m := mk)]
          refine ei_ladd X dX9_frost_106 ?_
          rw [lN_add]
          refine ei_lstore X dX9_frost_107 (Nat.le_of_ble_eq_true rfl) rfl ?_
          refine ei_iinc_n X dX9_frost_109 rfl rfl ?_
          refine ei_goto (tgt := 50) X dX9_frost_112 (by decide) ?_
          exact ih (bad + 1) (a + oddsN tk mk bad) _ (by omega) (by omega) (by rw [hv, itr_lt _ _ (by omega), ew, if_pos cq87])
  refine ei_aload_n X dX9_frost_0 rfl rfl ?_
  refine ei_getf X fl_RX9_10 dX9_frost_1 rfl rfl ?_
  refine ei_iload_n X dX9_frost_4 rfl rfl ?_
  refine ei_cv1 [1, 2, 3, 4] (oH_gN _ _ _ _ _ _) (oH_pN _ _ _ _ _ _ _) X ml_RX9_54 dX9_frost_5 (ct_X2_has _ _ _ _ _ _ _ _ _ _ _ _) rfl rfl (by decide) (by decide) rfl (Nat.le_of_ble_eq_true rfl) (by decide) ?_
  refine ei_ifz_eq (tgt := 39) X dX9_frost_8 (by decide) (fun cq8 => ?_) (fun cq8 => ?_)
  · refine ei_iconst (v := -1) X dX9_frost_39 rfl ?_
    refine ei_callT1 X ml_RX9_195 dX9_frost_40 (ct_X9_longRefusal _ _) rfl rfl (by decide) (by decide) (Nat.le_of_ble_eq_true rfl) ?_
    refine ei_lreturn X F dX9_frost_43 ?_
    exact ⟨by unfold frostF; rw [if_neg (fun z => Bool.false_ne_true (cq8.symm.trans z.1)), lRef], D, be, h_0, rfl⟩
  · refine ei_iload_n X dX9_frost_11 rfl rfl ?_
    refine ei_iconst (v := 0) X dX9_frost_12 rfl ?_
    refine ei_bipush (v := 7) X dX9_frost_13 rfl ?_
    refine ei_callT1 X ml_RX9_112 dX9_frost_15 (ct_X9_within _ _ _ _) rfl rfl (by decide) (by decide) (Nat.le_of_ble_eq_true rfl) ?_
    refine ei_ifz_eq (tgt := 39) X dX9_frost_18 (by decide) (fun cq18 => ?_) (fun cq18 => ?_)
    · refine ei_iconst (v := -1) X dX9_frost_39 rfl ?_
      refine ei_callT1 X ml_RX9_195 dX9_frost_40 (ct_X9_longRefusal _ _) rfl rfl (by decide) (by decide) (Nat.le_of_ble_eq_true rfl) ?_
      refine ei_lreturn X F dX9_frost_43 ?_
      exact ⟨by unfold frostF; rw [if_neg (fun z => Bool.false_ne_true (cq18.symm.trans z.2.1)), lRef], D, be, h_0, rfl⟩
    · refine ei_iload_n X dX9_frost_21 rfl rfl ?_
      refine ei_iconst (v := 2) X dX9_frost_22 rfl ?_
      refine ei_bipush (v := 20) X dX9_frost_23 rfl ?_
      refine ei_callT1 X ml_RX9_112 dX9_frost_25 (ct_X9_within _ _ _ _) rfl rfl (by decide) (by decide) (Nat.le_of_ble_eq_true rfl) ?_
      refine ei_ifz_eq (tgt := 39) X dX9_frost_28 (by decide) (fun cq28 => ?_) (fun cq28 => ?_)
      · refine ei_iconst (v := -1) X dX9_frost_39 rfl ?_
        refine ei_callT1 X ml_RX9_195 dX9_frost_40 (ct_X9_longRefusal _ _) rfl rfl (by decide) (by decide) (Nat.le_of_ble_eq_true rfl) ?_
        refine ei_lreturn X F dX9_frost_43 ?_
        exact ⟨by unfold frostF; rw [if_neg (fun z => Bool.false_ne_true (cq28.symm.trans z.2.2.1)), lRef], D, be, h_0, rfl⟩
      · refine ei_iload X dX9_frost_31 rfl ?_
        refine ei_callT1 X ml_RX9_192 dX9_frost_33 (ct_X9_isPart _ _) rfl rfl (by decide) (by decide) (Nat.le_of_ble_eq_true rfl) ?_
        refine ei_ifz_ne (tgt := 44) X dX9_frost_36 (by decide) (fun cq36 => ?_) (fun cq36 => ?_)
        · obtain ⟨bk, hbk, eb⟩ := (hasF_iff (by omega)).mp cq8
          obtain ⟨mk, -, hmk, em⟩ := (inI_iff (lo := 0) (hi := 7) (by decide) (by decide)).mp cq18
          obtain ⟨tk, htk1, htk2, et⟩ := (inI_iff (lo := 2) (hi := 20) (by decide) (by decide)).mp cq28
          refine ei_lconst (v := 0) X dX9_frost_44 rfl ?_
          refine ei_lstore X dX9_frost_45 (Nat.le_of_ble_eq_true rfl) rfl ?_
          refine ei_iconst (v := nI 0) X dX9_frost_47 rfl ?_
          refine ei_istore X dX9_frost_48 (Nat.le_of_ble_eq_true rfl) rfl ?_
          have h0 := L bk mk tk hbk hmk htk1 htk2 (part01 cq36) (by unfold frostF; rw [if_pos ⟨cq8, cq18, cq28, cq36⟩, eb, em, et, nc_nI (by omega), nc_nI (by omega), nc_nI (by omega)]) (2 ^ mk + 1) 0 0 D (Nat.lt_succ_of_le (Nat.sub_le _ _)) (Nat.zero_le _) rfl
          rw [← eb, ← em, ← et] at h0
          exact h0
        · refine ei_iconst (v := -1) X dX9_frost_39 rfl ?_
          refine ei_callT1 X ml_RX9_195 dX9_frost_40 (ct_X9_longRefusal _ _) rfl rfl (by decide) (by decide) (Nat.le_of_ble_eq_true rfl) ?_
          refine ei_lreturn X F dX9_frost_43 ?_
          exact ⟨by unfold frostF; rw [if_neg (fun z => Bool.false_ne_true (cq36.symm.trans z.2.2.2)), lRef], D, be, h_0, rfl⟩
theorem wornAll_ge {S : St} (h : Good S) : ∃ s, s ≤ 10000 ∧ wornAll (sN S) (sR S) = nI s ∧ ∀ k, k < sN S → nc (sR S k) ≤ s := by
  have key : ∀ (m i a : Nat), i + m ≤ 10 → a ≤ 1000 * i → ∃ s, a ≤ s ∧ s ≤ 1000 * (i + m) ∧ itr (fun a b => a + sR S b) (nI a) i m = nI s ∧ ∀ k, i ≤ k → k < i + m → nc (sR S k) ≤ s := by
    intro m
    induction m with
    | zero => intro i a _ ha; exact ⟨a, Nat.le_refl _, by omega, rfl, fun k h1 h2 => absurd h1 (by omega)⟩
    | succ m ih =>
      intro i a hi ha
      obtain ⟨v1, v2⟩ := gdV_nI (m := 999) (by decide) h.2.2.2.1 (show i < 10 by omega)
      rw [itr_s, v1, nI_add]
      obtain ⟨s, s1, s2, s3, s4⟩ := ih (i + 1) (a + nc (sR S i)) (by omega) (by omega)
      refine ⟨s, by omega, by omega, s3, fun k h1 h2 => ?_⟩
      by_cases e : k = i
      · rw [e]; omega
      · exact s4 k (by omega) (by omega)
  have hn := h.1
  obtain ⟨s, s1, s2, s3, s4⟩ := key (sN S) 0 0 (by omega) (by omega)
  exact ⟨s, by omega, s3, fun k hk => s4 k (Nat.zero_le _) (by omega)⟩
set_option maxRecDepth 100000 in
set_option maxHeartbeats 1000000 in
theorem ct_X9_share (n : Nat) (w se sp hr lt hd sc : Int32) (so fi wo : Nat → Int32) (D T : St) (im : Bool) (Z : Nat → Sh) (be : Nat → Int32) (b part : Int32) (h_S : Good (n, w, se, sp, hr, lt, hd, sc, so, fi, wo)) (h_0 : dg0 be) : e_Ct yX9_share cX9_share 3 (some .long) 3 [.ref 0, .int b, .int part] (oH (n, w, se, sp, hr, lt, hd, sc, so, fi, wo) D T im Z be) (fP (.long (shareF (n, w, se, sp, hr, lt, hd, sc, so, fi, wo) b part)) (n, w, se, sp, hr, lt, hd, sc, so, fi, wo) T im Z) := by
  refine e_open RX9 rfl (by decide +kernel) rfl (fun _ => Nat.le_of_ble_eq_true rfl) (fun x X F => ?_)
  have hn : n ≤ 10 := h_S.1
  refine ei_aload_n X dX9_share_0 rfl rfl ?_
  refine ei_getf X fl_RX9_10 dX9_share_1 rfl rfl ?_
  refine ei_iload_n X dX9_share_4 rfl rfl ?_
  refine ei_cv1 [1, 2, 3, 4] (oH_gN _ _ _ _ _ _) (oH_pN _ _ _ _ _ _ _) X ml_RX9_54 dX9_share_5 (ct_X2_has _ _ _ _ _ _ _ _ _ _ _ _) rfl rfl (by decide) (by decide) rfl (Nat.le_of_ble_eq_true rfl) (by decide) ?_
  refine ei_ifz_eq (tgt := 18) X dX9_share_8 (by decide) (fun cq8 => ?_) (fun cq8 => ?_)
  · refine ei_iconst (v := -1) X dX9_share_18 rfl ?_
    refine ei_callT1 X ml_RX9_195 dX9_share_19 (ct_X9_longRefusal _ _) rfl rfl (by decide) (by decide) (Nat.le_of_ble_eq_true rfl) ?_
    refine ei_lreturn X F dX9_share_22 ?_
    exact ⟨by unfold shareF; rw [if_neg (fun z => Bool.false_ne_true (cq8.symm.trans z.1)), lRef], D, be, h_0, rfl⟩
  · refine ei_iload_n X dX9_share_11 rfl rfl ?_
    refine ei_callT1 X ml_RX9_192 dX9_share_12 (ct_X9_isPart _ _) rfl rfl (by decide) (by decide) (Nat.le_of_ble_eq_true rfl) ?_
    refine ei_ifz_ne (tgt := 23) X dX9_share_15 (by decide) (fun cq15 => ?_) (fun cq15 => ?_)
    · obtain ⟨k, hk, rfl⟩ := (hasF_iff (by omega)).mp cq8
      have hnc : nc (nI k) = k := nc_nI (by omega)
      obtain ⟨he, hv⟩ := gdV_nI (m := 999) (by decide) h_S.2.2.2.1 (show k < 10 by omega)
      obtain ⟨sm, hsm, hes, hge⟩ := wornAll_ge h_S
      have hgk := hge k hk
      simp only [sN, sW, sE, sP, sH, sL, sD, sC, sO, sG, sR] at he hes hgk hv
      refine ei_aload_n X dX9_share_23 rfl rfl ?_
      refine ei_getf X fl_RX9_10 dX9_share_24 rfl rfl ?_
      refine ei_getf X fl_RX9_65 dX9_share_27 rfl rfl ?_
      refine ei_iload_n X dX9_share_30 rfl rfl ?_
      refine ei_iaload_n X dX9_share_31 rfl (by first | omega | assumption) (by decide) ?_
      show e_E x _ _ [.int (wo k)] _
      rw [he]
      refine ei_i2l X dX9_share_32 ?_
      rw [nI_l (show nc (wo k) < 2 ^ 31 by omega)]
      refine ei_aload_n X dX9_share_33 rfl rfl ?_
      refine ei_getf X fl_RX9_10 dX9_share_34 rfl rfl ?_
      refine ei_cv1 [1, 2, 3, 4] (oH_gN _ _ _ _ _ _) (oH_pN _ _ _ _ _ _ _) X ml_RX9_144 dX9_share_37 (ct_X2_wornOfAll _ _ _ _ _ _ _ _ _ _ _ (by first | omega | assumption)) rfl rfl (by decide) (by decide) rfl (Nat.le_of_ble_eq_true rfl) (by decide) ?_
      rw [hes]
      refine ei_i2l X dX9_share_40 ?_
      rw [nI_l (show sm < 2 ^ 31 by omega)]
      refine ei_iload_n X dX9_share_41 rfl rfl ?_
      refine ei_callT1 X ml_RX9_206 dX9_share_42 (ct_X3_leastTerms _ (nc (wo k)) sm part (by omega) (by omega) (part01 cq15) (fun z => by omega)) rfl rfl (by decide) (by decide) (Nat.le_of_ble_eq_true rfl) ?_
      refine ei_lreturn X F dX9_share_45 ?_
      exact ⟨by unfold shareF; rw [if_pos ⟨cq8, cq15⟩, hnc]; show _ = some (Value.long (partF (nc (wo k)) (nc (wornAll n wo)) part)); rw [hes, nc_nI (show sm < 2 ^ 31 by omega)], D, be, h_0, rfl⟩
    · refine ei_iconst (v := -1) X dX9_share_18 rfl ?_
      refine ei_callT1 X ml_RX9_195 dX9_share_19 (ct_X9_longRefusal _ _) rfl rfl (by decide) (by decide) (Nat.le_of_ble_eq_true rfl) ?_
      refine ei_lreturn X F dX9_share_22 ?_
      exact ⟨by unfold shareF; rw [if_neg (fun z => Bool.false_ne_true (cq15.symm.trans z.2)), lRef], D, be, h_0, rfl⟩
set_option maxRecDepth 100000 in
set_option maxHeartbeats 1000000 in
theorem ct_X9_forged (n : Nat) (w se sp hr lt hd sc : Int32) (so fi wo : Nat → Int32) (D T : St) (im : Bool) (Z : Nat → Sh) (be : Nat → Int32) (d : Int32) (h_S : Good (n, w, se, sp, hr, lt, hd, sc, so, fi, wo)) (h_Z : ∀ k, k < 8 → okZ (Z k)) (h_0 : dg0 be) : e_Ct yX9_forged cX9_forged 5 (some .int) 4 [.ref 0, .int d] (oH (n, w, se, sp, hr, lt, hd, sc, so, fi, wo) D T im Z be) (fP (.int (forgedF (n, w, se, sp, hr, lt, hd, sc, so, fi, wo) Z d)) (n, w, se, sp, hr, lt, hd, sc, so, fi, wo) T im Z) := by
  refine e_open RX9 rfl (by decide +kernel) rfl (fun _ => Nat.le_of_ble_eq_true rfl) (fun x X F => ?_)
  have hn : n ≤ 10 := h_S.1
  have L : ∀ (k : Nat) (u : Int32), k < 8 → zN (Z k) ≤ 100 → forgedF (n, w, se, sp, hr, lt, hd, sc, so, fi, wo) Z d = (if forgedN (n, w, se, sp, hr, lt, hd, sc, so, fi, wo) (Z k) = zN (Z k) then -4 else nI (forgedN (n, w, se, sp, hr, lt, hd, sc, so, fi, wo) (Z k))) → ∀ (c j : Nat), zN (Z k) - j < c → j ≤ 100 → forgedN (n, w, se, sp, hr, lt, hd, sc, so, fi, wo) (Z k) = firstN (fun i => !(decide (i < n) && decide (zC (Z k) i = so i))) j (zN (Z k) - j) → e_E x 22 [some (.ref 0), some (.int (nI k)), some (.int u), some (.ref (14 + 2 * k)), some (.int (nI j))] [] (oH (n, w, se, sp, hr, lt, hd, sc, so, fi, wo) D T im Z be) := by
    intro k u hk hs hF c
    induction c with
    | zero => intro j hc; exact absurd hc (Nat.not_lt_zero _)
    | succ c ih =>
      intro j hc hj hv
      refine ei_iload X dX9_forged_22 rfl ?_
      refine ei_aload_n X dX9_forged_24 rfl rfl ?_
      refine ei_getf X fl_RX9_278 dX9_forged_25 (oH_sO _ _ _ _ _ _ hk) rfl ?_
      refine ei_icmpn_ge (tgt := 72) X dX9_forged_28 (by decide) (by first | omega | assumption) (by first | omega | assumption) (fun cq28 => ?_) (fun cq28 => ?_)
      · refine ei_bipush (v := -4) X dX9_forged_72 rfl ?_
        refine ei_ireturn X F dX9_forged_74 ?_
        exact ⟨by rw [hF, if_pos (by have hle : forgedN (n, w, se, sp, hr, lt, hd, sc, so, fi, wo) (Z k) ≤ zN (Z k) := Nat.le_trans (firstN_ge _ _ _).2 (by omega); have e : forgedN (n, w, se, sp, hr, lt, hd, sc, so, fi, wo) (Z k) = j := (by rw [hv, firstN_e (by omega)]); omega)], D, be, h_0, rfl⟩
      · refine ei_aload_n X dX9_forged_31 rfl rfl ?_
        refine ei_getf X fl_RX9_10 dX9_forged_32 rfl rfl ?_
        refine ei_iload X dX9_forged_35 rfl ?_
        refine ei_cv1 [1, 2, 3, 4] (oH_gN _ _ _ _ _ _) (oH_pN _ _ _ _ _ _ _) X ml_RX9_54 dX9_forged_37 (ct_X2_has _ _ _ _ _ _ _ _ _ _ _ (nI j)) rfl rfl (by decide) (by decide) rfl (Nat.le_of_ble_eq_true rfl) (by decide) ?_
        rw [show hasF n (nI j) = decide (j < n) from by unfold hasF; rw [decide_eq_true (nI_pos' (by omega)), Bool.true_and]; exact decide_eq_decide.mpr (nI_ltI (by omega) (by omega))]
        refine ei_ifz_eq (tgt := 63) X dX9_forged_40 (by decide) (fun cq40 => ?_) (fun cq40 => ?_)
        · refine ei_iload X dX9_forged_63 rfl ?_
          refine ei_ireturn X F dX9_forged_65 ?_
          exact ⟨by rw [hF, hv, firstN_t (by omega) (by rw [cq40]; rfl), if_neg (by omega)], D, be, h_0, rfl⟩
        · have hjn : j < n := of_decide_eq_true cq40
          refine ei_aload_n X dX9_forged_43 rfl rfl ?_
          refine ei_getf X fl_RX9_10 dX9_forged_44 rfl rfl ?_
          refine ei_getf X fl_RX9_58 dX9_forged_47 rfl rfl ?_
          refine ei_iload X dX9_forged_50 rfl ?_
          refine ei_iaload_n X dX9_forged_52 rfl (by first | omega | assumption) (by decide) ?_
          refine ei_aload_n X dX9_forged_53 rfl rfl ?_
          refine ei_getf X fl_RX9_281 dX9_forged_54 (oH_sO _ _ _ _ _ _ hk) rfl ?_
          refine ei_iload X dX9_forged_57 rfl ?_
          refine ei_iaload_n X dX9_forged_59 (oH_sC _ _ _ _ _ _ hk) (by first | omega | assumption) (by decide) ?_
          show e_E x _ _ [.int (zC (Z k) j), .int (so j)] _
          refine ei_icmp_eq (tgt := 66) X dX9_forged_60 (by decide) (fun cq60 => ?_) (fun cq60 => ?_)
          · refine ei_iinc_n X dX9_forged_66 rfl rfl ?_
            refine ei_goto (tgt := 22) X dX9_forged_69 (by decide) ?_
            exact ih (j + 1) (by omega) (by omega) (by rw [hv, firstN_f (by omega) (by rw [decide_eq_true hjn, decide_eq_true cq60.symm]; rfl)])
          · refine ei_iload X dX9_forged_63 rfl ?_
            refine ei_ireturn X F dX9_forged_65 ?_
            exact ⟨by rw [hF, hv, firstN_t (by omega) (by rw [decide_eq_true hjn, decide_eq_false (fun z => cq60 z.symm)]; rfl), if_neg (by omega)], D, be, h_0, rfl⟩
  refine ei_aload_n X dX9_forged_0 rfl rfl ?_
  refine ei_iload_n X dX9_forged_1 rfl rfl ?_
  refine ei_callI1 X ml_RX9_36 dX9_forged_2 (ct_X9_rowRefusal _ _ _ _ _ _ _ _ _ _ _ _ _ _ _ _ _) rfl rfl (by decide) (by decide) rfl (Nat.le_of_ble_eq_true rfl) ?_
  refine ei_istore_n X dX9_forged_5 rfl (Nat.le_of_ble_eq_true rfl) rfl ?_
  refine ei_iload_n X dX9_forged_6 rfl rfl ?_
  refine ei_if_eq (tgt := 12) X dX9_forged_7 (by decide) (fun cq7 => ?_) (fun cq7 => ?_)
  · obtain ⟨k, hk, ek, hz⟩ := wrongRow_0 cq7
    have hnc : nc d = k := (by rw [ek]; exact nc_nI (by omega))
    obtain ⟨hzn, hzk⟩ := okZ_n h_Z hk hz
    rw [ek]
    refine ei_aload_n X dX9_forged_12 rfl rfl ?_
    refine ei_getf X fl_RX9_24 dX9_forged_13 rfl rfl ?_
    refine ei_iload_n X dX9_forged_16 rfl rfl ?_
    refine ei_aaload_n X dX9_forged_17 rfl (by first | omega | assumption) (by decide) rfl ?_
    refine ei_astore_n X dX9_forged_18 rfl (Nat.le_of_ble_eq_true rfl) rfl ?_
    refine ei_iconst (v := nI 0) X dX9_forged_19 rfl ?_
    refine ei_istore X dX9_forged_20 (Nat.le_of_ble_eq_true rfl) rfl ?_
    have h0 := L k (wrongRowF Z d) hk hzn (by unfold forgedF; rw [if_pos cq7, hnc]) 101 0 (by omega) (by omega) rfl
    rw [ek] at h0
    exact h0
  · refine ei_iload_n X dX9_forged_10 rfl rfl ?_
    refine ei_ireturn X F dX9_forged_11 ?_
    exact ⟨by unfold forgedF; rw [if_neg cq7], D, be, h_0, rfl⟩
set_option maxRecDepth 100000 in
set_option maxHeartbeats 1000000 in
theorem ct_X9_judge (n : Nat) (w se sp hr lt hd sc : Int32) (so fi wo : Nat → Int32) (D T : St) (im : Bool) (Z : Nat → Sh) (be : Nat → Int32) (d : Int32) (h_S : Good (n, w, se, sp, hr, lt, hd, sc, so, fi, wo)) (h_Z : ∀ k, k < 8 → okZ (Z k)) (h_0 : dg0 be) : e_Ct yX9_judge cX9_judge 3 (some .int) 6 [.ref 0, .int d] (oH (n, w, se, sp, hr, lt, hd, sc, so, fi, wo) D T im Z be) (fP (.int (judgeF (n, w, se, sp, hr, lt, hd, sc, so, fi, wo) Z d)) (n, w, se, sp, hr, lt, hd, sc, so, fi, wo) T im Z) := by
  refine e_open RX9 rfl (by decide +kernel) rfl (fun _ => Nat.le_of_ble_eq_true rfl) (fun x X F => ?_)
  have hn : n ≤ 10 := h_S.1
  refine ei_aload_n X dX9_judge_0 rfl rfl ?_
  refine ei_iload_n X dX9_judge_1 rfl rfl ?_
  refine ei_callI1 X ml_RX9_36 dX9_judge_2 (ct_X9_rowRefusal _ _ _ _ _ _ _ _ _ _ _ _ _ _ _ _ _) rfl rfl (by decide) (by decide) rfl (Nat.le_of_ble_eq_true rfl) ?_
  refine ei_istore_n X dX9_judge_5 rfl (Nat.le_of_ble_eq_true rfl) rfl ?_
  refine ei_iload_n X dX9_judge_6 rfl rfl ?_
  refine ei_if_eq (tgt := 12) X dX9_judge_7 (by decide) (fun cq7 => ?_) (fun cq7 => ?_)
  · obtain ⟨k, hk, rfl, hz⟩ := wrongRow_0 cq7
    have hnc : nc (nI k) = k := nc_nI (by omega)
    obtain ⟨hzn, hzk⟩ := okZ_n h_Z hk hz
    refine ei_aload_n X dX9_judge_12 rfl rfl ?_
    refine ei_getf X fl_RX9_16 dX9_judge_13 rfl rfl ?_
    refine ei_aload_n X dX9_judge_16 rfl rfl ?_
    refine ei_getf X fl_RX9_10 dX9_judge_17 rfl rfl ?_
    refine ei_cv0 [5, 6, 7, 8, 1, 2, 3, 4] (oH_gDN _ _ _ _ _ _) (oH_pDN _ _ _ _ _ _ _) X ml_RX9_44 dX9_judge_20 (ct_X2_becomes _ _) rfl rfl (by decide) (by decide) rfl (Nat.le_of_ble_eq_true rfl) (by decide) ?_
    refine ei_aload_n X dX9_judge_23 rfl rfl ?_
    refine ei_getf X fl_RX9_16 dX9_judge_24 rfl rfl ?_
    refine ei_aload_n X dX9_judge_27 rfl rfl ?_
    refine ei_getf X fl_RX9_24 dX9_judge_28 rfl rfl ?_
    refine ei_iload_n X dX9_judge_31 rfl rfl ?_
    refine ei_aaload_n X dX9_judge_32 rfl (by first | omega | assumption) (by decide) rfl ?_
    refine ei_csR [5, 6, 7, 8, 14 + 2 * k, 14 + 2 * k + 1] (oH_gDZ _ _ _ _ _ _ hk) (fun D2 => oH_pDZ _ _ _ _ _ _ hk D2) X ml_RX9_284 dX9_judge_33 (ct_X0_firstMiscount _ _ _ _ _ _ _ _ _ _ _ (Z k) hzn h_S) rfl rfl (by decide) (by decide) (Nat.le_of_ble_eq_true rfl) (nd6 k) (fun D2 => ?_)
    refine ei_ireturn X F dX9_judge_36 ?_
    exact ⟨by unfold judgeF; rw [if_pos cq7, hnc], D2, be, h_0, rfl⟩
  · refine ei_iload_n X dX9_judge_10 rfl rfl ?_
    refine ei_ireturn X F dX9_judge_11 ?_
    exact ⟨by unfold judgeF; rw [if_neg cq7], D, be, h_0, rfl⟩

