set_option maxRecDepth 100000 in
set_option maxHeartbeats 1000000 in
theorem ct_X9_string (n : Nat) (w se sp hr lt hd sc : Int32) (so fi wo : Nat → Int32) (D T : St) (im : Bool) (Z : Nat → Sh) (be : Nat → Int32) (d : Int32) (h_S : Good (n, w, se, sp, hr, lt, hd, sc, so, fi, wo)) (h_Z : ∀ k, k < 8 → okZ (Z k)) (h_0 : dg0 be) : e_Ct yX9_string cX9_string 4 (some .int) 8 [.ref 0, .int d] (oH (n, w, se, sp, hr, lt, hd, sc, so, fi, wo) D T im Z be) (fP (.int (stringF (n, w, se, sp, hr, lt, hd, sc, so, fi, wo) Z d)) (stringS (n, w, se, sp, hr, lt, hd, sc, so, fi, wo) Z d) T im Z) := by
  refine e_open RX9 rfl (by decide +kernel) rfl (fun _ => Nat.le_of_ble_eq_true rfl) (fun x X F => ?_)
  have hn : n ≤ 10 := h_S.1
  refine ei_aload_n X dX9_string_0 rfl rfl ?_
  refine ei_iload_n X dX9_string_1 rfl rfl ?_
  refine ei_callI1 X ml_RX9_36 dX9_string_2 (ct_X9_rowRefusal _ _ _ _ _ _ _ _ _ _ _ _ _ _ _ _ _) rfl rfl (by decide) (by decide) rfl (Nat.le_of_ble_eq_true rfl) ?_
  refine ei_istore_n X dX9_string_5 rfl (Nat.le_of_ble_eq_true rfl) rfl ?_
  refine ei_iload_n X dX9_string_6 rfl rfl ?_
  refine ei_if_eq (tgt := 12) X dX9_string_7 (by decide) (fun cq7 => ?_) (fun cq7 => ?_)
  · obtain ⟨k, hk, rfl, hz⟩ := wrongRow_0 cq7
    have hnc : nc (nI k) = k := nc_nI (by omega)
    obtain ⟨hzn, hzk⟩ := okZ_n h_Z hk hz
    refine ei_aload_n X dX9_string_12 rfl rfl ?_
    refine ei_getf X fl_RX9_24 dX9_string_13 rfl rfl ?_
    refine ei_iload_n X dX9_string_16 rfl rfl ?_
    refine ei_aaload_n X dX9_string_17 rfl (by first | omega | assumption) (by decide) rfl ?_
    refine ei_getf X fl_RX9_40 dX9_string_18 (oH_sO _ _ _ _ _ _ hk) rfl ?_
    refine ei_if_eq (tgt := 27) X dX9_string_21 (by decide) (fun cq21 => ?_) (fun cq21 => ?_)
    · refine ei_aload_n X dX9_string_27 rfl rfl ?_
      refine ei_getf X fl_RX9_16 dX9_string_28 rfl rfl ?_
      refine ei_aload_n X dX9_string_31 rfl rfl ?_
      refine ei_getf X fl_RX9_10 dX9_string_32 rfl rfl ?_
      refine ei_cv0 [5, 6, 7, 8, 1, 2, 3, 4] (oH_gDN _ _ _ _ _ _) (oH_pDN _ _ _ _ _ _ _) X ml_RX9_44 dX9_string_35 (ct_X2_becomes _ _) rfl rfl (by decide) (by decide) rfl (Nat.le_of_ble_eq_true rfl) (by decide) ?_
      refine ei_aload_n X dX9_string_38 rfl rfl ?_
      refine ei_getf X fl_RX9_24 dX9_string_39 rfl rfl ?_
      refine ei_iload_n X dX9_string_42 rfl rfl ?_
      refine ei_aaload_n X dX9_string_43 rfl (by first | omega | assumption) (by decide) rfl ?_
      refine ei_aload_n X dX9_string_44 rfl rfl ?_
      refine ei_getf X fl_RX9_16 dX9_string_45 rfl rfl ?_
      refine ei_csP [5, 6, 7, 8, 14 + 2 * k, 14 + 2 * k + 1] (oH_gDZ _ _ _ _ _ _ hk) X ml_RX9_48 dX9_string_48 (ct_X6_comes _ _ _ _ _ _ _ _ _ _ _ (Z k) hzn h_S) rfl rfl (by decide) (by decide) (Nat.le_of_ble_eq_true rfl) (nd6 k) (fun r h2 hp => ?_)
      obtain ⟨rfl, S9, hS9, rfl⟩ := hp
      rw [oH_pDZ _ _ _ _ _ _ hk]
      show e_E x _ _ [.int (textF (n, w, se, sp, hr, lt, hd, sc, so, fi, wo) (Z k))] _
      refine ei_istore_n X dX9_string_51 rfl (Nat.le_of_ble_eq_true rfl) rfl ?_
      refine ei_iload_n X dX9_string_52 rfl rfl ?_
      refine ei_if_lt (tgt := 67) X dX9_string_53 (by decide) (fun cq53 => ?_) (fun cq53 => ?_)
      · refine ei_iload_n X dX9_string_67 rfl rfl ?_
        refine ei_ireturn X F dX9_string_68 ?_
        exact ⟨by unfold stringF; rw [if_pos cq7, hnc, if_pos cq21], _, be, h_0, by unfold stringS; rw [if_pos cq7, hnc, if_pos cq21]; unfold textS; rw [if_neg (Int32.not_le.mpr cq53)]⟩
      · refine ei_aload_n X dX9_string_56 rfl rfl ?_
        refine ei_getf X fl_RX9_10 dX9_string_57 rfl rfl ?_
        refine ei_aload_n X dX9_string_60 rfl rfl ?_
        refine ei_getf X fl_RX9_16 dX9_string_61 rfl rfl ?_
        refine ei_cv0 [1, 2, 3, 4, 5, 6, 7, 8] (oH_gND _ _ _ _ _ _) (oH_pND _ _ _ _ _ _ _) X ml_RX9_44 dX9_string_64 (ct_X2_becomes _ _) rfl rfl (by decide) (by decide) rfl (Nat.le_of_ble_eq_true rfl) (by decide) ?_
        refine ei_iload_n X dX9_string_67 rfl rfl ?_
        refine ei_ireturn X F dX9_string_68 ?_
        have cq53' := Int32.not_lt.mp cq53
        exact ⟨by unfold stringF; rw [if_pos cq7, hnc, if_pos cq21], _, be, h_0, by unfold stringS; rw [if_pos cq7, hnc, if_pos cq21]; unfold textS; rw [if_pos cq53', hS9 cq53']⟩
    · refine ei_bipush (v := -12) X dX9_string_24 rfl ?_
      refine ei_ireturn X F dX9_string_26 ?_
      exact ⟨by unfold stringF; rw [if_pos cq7, hnc, if_neg cq21], D, be, h_0, by unfold stringS; rw [if_pos cq7, hnc, if_neg cq21]⟩
  · refine ei_iload_n X dX9_string_10 rfl rfl ?_
    refine ei_ireturn X F dX9_string_11 ?_
    exact ⟨by unfold stringF; rw [if_neg cq7], D, be, h_0, by unfold stringS; rw [if_neg cq7]⟩
set_option maxRecDepth 100000 in
set_option maxHeartbeats 1000000 in
theorem ct_X9_then (n : Nat) (w se sp hr lt hd sc : Int32) (so fi wo : Nat → Int32) (D T : St) (im : Bool) (Z : Nat → Sh) (be : Nat → Int32) (m what : Int32) (h_S : Good (n, w, se, sp, hr, lt, hd, sc, so, fi, wo)) (h_0 : dg0 be) : e_Ct yX9_then cX9_then 3 (some .int) 6 [.ref 0, .int m, .int what] (oH (n, w, se, sp, hr, lt, hd, sc, so, fi, wo) D T im Z be) (fP (.int (thenF (n, w, se, sp, hr, lt, hd, sc, so, fi, wo) m what)) (n, w, se, sp, hr, lt, hd, sc, so, fi, wo) T im Z) := by
  refine e_open RX9 rfl (by decide +kernel) rfl (fun _ => Nat.le_of_ble_eq_true rfl) (fun x X F => ?_)
  have hn : n ≤ 10 := h_S.1
  refine ei_iload_n X dX9_then_0 rfl rfl ?_
  refine ei_iconst (v := 0) X dX9_then_1 rfl ?_
  refine ei_bipush (v := 60) X dX9_then_2 rfl ?_
  refine ei_callT1 X ml_RX9_112 dX9_then_4 (ct_X9_within _ _ _ _) rfl rfl (by decide) (by decide) (Nat.le_of_ble_eq_true rfl) ?_
  refine ei_ifz_eq (tgt := 19) X dX9_then_7 (by decide) (fun cq7 => ?_) (fun cq7 => ?_)
  · refine ei_iconst (v := -1) X dX9_then_19 rfl ?_
    refine ei_ireturn X F dX9_then_20 ?_
    exact ⟨by unfold thenF; rw [if_neg (fun z => Bool.false_ne_true (cq7.symm.trans z.1))], D, be, h_0, rfl⟩
  · obtain ⟨k, -, hk2, rfl⟩ := (inI_iff (lo := 0) (hi := 60) (by decide) (by decide)).mp cq7
    have hnc : nc (nI k) = k := nc_nI (by omega)
    refine ei_iload_n X dX9_then_10 rfl rfl ?_
    refine ei_iconst (v := 0) X dX9_then_11 rfl ?_
    refine ei_iconst (v := 2) X dX9_then_12 rfl ?_
    refine ei_callT1 X ml_RX9_112 dX9_then_13 (ct_X9_within _ _ _ _) rfl rfl (by decide) (by decide) (Nat.le_of_ble_eq_true rfl) ?_
    refine ei_ifz_ne (tgt := 21) X dX9_then_16 (by decide) (fun cq16 => ?_) (fun cq16 => ?_)
    · have hF : ∀ v, (if what = 0 then sW (hoursS (n, w, se, sp, hr, lt, hd, sc, so, fi, wo) k) else if what = 1 then sL (hoursS (n, w, se, sp, hr, lt, hd, sc, so, fi, wo) k) else wornAll n (sR (hoursS (n, w, se, sp, hr, lt, hd, sc, so, fi, wo) k))) = v → thenF (n, w, se, sp, hr, lt, hd, sc, so, fi, wo) (nI k) what = v := (fun v h => by unfold thenF; rw [if_pos ⟨cq7, cq16⟩, hnc]; exact h)
      refine ei_aload_n X dX9_then_21 rfl rfl ?_
      refine ei_getf X fl_RX9_16 dX9_then_22 rfl rfl ?_
      refine ei_aload_n X dX9_then_25 rfl rfl ?_
      refine ei_getf X fl_RX9_10 dX9_then_26 rfl rfl ?_
      refine ei_cv0 [5, 6, 7, 8, 1, 2, 3, 4] (oH_gDN _ _ _ _ _ _) (oH_pDN _ _ _ _ _ _ _) X ml_RX9_44 dX9_then_29 (ct_X2_becomes _ _) rfl rfl (by decide) (by decide) rfl (Nat.le_of_ble_eq_true rfl) (by decide) ?_
      refine ei_aload_n X dX9_then_32 rfl rfl ?_
      refine ei_getf X fl_RX9_16 dX9_then_33 rfl rfl ?_
      refine ei_iload_n X dX9_then_36 rfl rfl ?_
      refine ei_cv0 [5, 6, 7, 8] (oH_gD _ _ _ _ _ _) (oH_pD _ _ _ _ _ _ _) X ml_RX9_138 dX9_then_37 (ct_X2_pass _ _ _ _ _ _ _ _ _ _ _ k hn (by omega)) rfl rfl (by decide) (by decide) rfl (Nat.le_of_ble_eq_true rfl) (by decide) ?_
      obtain ⟨w2, se2, hr2, lt2, wo2, e2⟩ := hours_ex (n, w, se, sp, hr, lt, hd, sc, so, fi, wo) k
      simp only [sN, sW, sE, sP, sH, sL, sD, sC, sO, sG, sR] at e2
      rw [e2]
      refine ei_iload_n X dX9_then_40 rfl rfl ?_
      refine ei_if_ne (tgt := 52) X dX9_then_41 (by decide) (fun cq41 => ?_) (fun cq41 => ?_)
      · refine ei_iload_n X dX9_then_52 rfl rfl ?_
        refine ei_iconst (v := 1) X dX9_then_53 rfl ?_
        refine ei_icmp_ne (tgt := 67) X dX9_then_54 (by decide) (fun cq54 => ?_) (fun cq54 => ?_)
        · refine ei_aload_n X dX9_then_67 rfl rfl ?_
          refine ei_getf X fl_RX9_16 dX9_then_68 rfl rfl ?_
          refine ei_cv1 [5, 6, 7, 8] (oH_gD _ _ _ _ _ _) (oH_pD _ _ _ _ _ _ _) X ml_RX9_144 dX9_then_71 (ct_X2_wornOfAll _ _ _ _ _ _ _ _ _ _ _ (by first | omega | assumption)) rfl rfl (by decide) (by decide) rfl (Nat.le_of_ble_eq_true rfl) (by decide) ?_
          refine ei_ireturn X F dX9_then_74 ?_
          exact ⟨by rw [hF (wornAll n wo2) (by rw [if_neg cq41, if_neg cq54, e2])], _, be, h_0, rfl⟩
        · refine ei_aload_n X dX9_then_57 rfl rfl ?_
          refine ei_getf X fl_RX9_16 dX9_then_58 rfl rfl ?_
          refine ei_getf X fl_RX9_135 dX9_then_61 rfl rfl ?_
          refine ei_goto (tgt := 74) X dX9_then_64 (by decide) ?_
          refine ei_ireturn X F dX9_then_74 ?_
          exact ⟨by rw [hF lt2 (by rw [if_neg cq41, if_pos cq54, e2])], _, be, h_0, rfl⟩
      · refine ei_aload_n X dX9_then_44 rfl rfl ?_
        refine ei_getf X fl_RX9_16 dX9_then_45 rfl rfl ?_
        refine ei_getf X fl_RX9_141 dX9_then_48 rfl rfl ?_
        refine ei_ireturn X F dX9_then_51 ?_
        exact ⟨by rw [hF w2 (by rw [if_pos cq41, e2])], _, be, h_0, rfl⟩
    · refine ei_iconst (v := -1) X dX9_then_19 rfl ?_
      refine ei_ireturn X F dX9_then_20 ?_
      exact ⟨by unfold thenF; rw [if_neg (fun z => Bool.false_ne_true (cq16.symm.trans z.2))], D, be, h_0, rfl⟩
set_option maxRecDepth 100000 in
set_option maxHeartbeats 1000000 in
theorem ct_X9_wornThen (n : Nat) (w se sp hr lt hd sc : Int32) (so fi wo : Nat → Int32) (D T : St) (im : Bool) (Z : Nat → Sh) (be : Nat → Int32) (b m : Int32) (h_S : Good (n, w, se, sp, hr, lt, hd, sc, so, fi, wo)) (h_0 : dg0 be) : e_Ct yX9_wornThen cX9_wornThen 3 (some .int) 6 [.ref 0, .int b, .int m] (oH (n, w, se, sp, hr, lt, hd, sc, so, fi, wo) D T im Z be) (fP (.int (wornThenF (n, w, se, sp, hr, lt, hd, sc, so, fi, wo) b m)) (n, w, se, sp, hr, lt, hd, sc, so, fi, wo) T im Z) := by
  refine e_open RX9 rfl (by decide +kernel) rfl (fun _ => Nat.le_of_ble_eq_true rfl) (fun x X F => ?_)
  have hn : n ≤ 10 := h_S.1
  refine ei_aload_n X dX9_wornThen_0 rfl rfl ?_
  refine ei_getf X fl_RX9_10 dX9_wornThen_1 rfl rfl ?_
  refine ei_iload_n X dX9_wornThen_4 rfl rfl ?_
  refine ei_cv1 [1, 2, 3, 4] (oH_gN _ _ _ _ _ _) (oH_pN _ _ _ _ _ _ _) X ml_RX9_54 dX9_wornThen_5 (ct_X2_has _ _ _ _ _ _ _ _ _ _ _ _) rfl rfl (by decide) (by decide) rfl (Nat.le_of_ble_eq_true rfl) (by decide) ?_
  refine ei_ifz_eq (tgt := 21) X dX9_wornThen_8 (by decide) (fun cq8 => ?_) (fun cq8 => ?_)
  · refine ei_iconst (v := -1) X dX9_wornThen_21 rfl ?_
    refine ei_ireturn X F dX9_wornThen_22 ?_
    exact ⟨by unfold wornThenF; rw [if_neg (fun z => Bool.false_ne_true (cq8.symm.trans z.1))], D, be, h_0, rfl⟩
  · obtain ⟨j, hj, rfl⟩ := (hasF_iff (by omega)).mp cq8
    have hnb : nc (nI j) = j := nc_nI (by omega)
    refine ei_iload_n X dX9_wornThen_11 rfl rfl ?_
    refine ei_iconst (v := 0) X dX9_wornThen_12 rfl ?_
    refine ei_bipush (v := 60) X dX9_wornThen_13 rfl ?_
    refine ei_callT1 X ml_RX9_112 dX9_wornThen_15 (ct_X9_within _ _ _ _) rfl rfl (by decide) (by decide) (Nat.le_of_ble_eq_true rfl) ?_
    refine ei_ifz_ne (tgt := 23) X dX9_wornThen_18 (by decide) (fun cq18 => ?_) (fun cq18 => ?_)
    · obtain ⟨k, -, hk2, rfl⟩ := (inI_iff (lo := 0) (hi := 60) (by decide) (by decide)).mp cq18
      have hnc : nc (nI k) = k := nc_nI (by omega)
      refine ei_aload_n X dX9_wornThen_23 rfl rfl ?_
      refine ei_getf X fl_RX9_16 dX9_wornThen_24 rfl rfl ?_
      refine ei_aload_n X dX9_wornThen_27 rfl rfl ?_
      refine ei_getf X fl_RX9_10 dX9_wornThen_28 rfl rfl ?_
      refine ei_cv0 [5, 6, 7, 8, 1, 2, 3, 4] (oH_gDN _ _ _ _ _ _) (oH_pDN _ _ _ _ _ _ _) X ml_RX9_44 dX9_wornThen_31 (ct_X2_becomes _ _) rfl rfl (by decide) (by decide) rfl (Nat.le_of_ble_eq_true rfl) (by decide) ?_
      refine ei_aload_n X dX9_wornThen_34 rfl rfl ?_
      refine ei_getf X fl_RX9_16 dX9_wornThen_35 rfl rfl ?_
      refine ei_iload_n X dX9_wornThen_38 rfl rfl ?_
      refine ei_cv0 [5, 6, 7, 8] (oH_gD _ _ _ _ _ _) (oH_pD _ _ _ _ _ _ _) X ml_RX9_138 dX9_wornThen_39 (ct_X2_pass _ _ _ _ _ _ _ _ _ _ _ k hn (by omega)) rfl rfl (by decide) (by decide) rfl (Nat.le_of_ble_eq_true rfl) (by decide) ?_
      obtain ⟨w2, se2, hr2, lt2, wo2, e2⟩ := hours_ex (n, w, se, sp, hr, lt, hd, sc, so, fi, wo) k
      simp only [sN, sW, sE, sP, sH, sL, sD, sC, sO, sG, sR] at e2
      rw [e2]
      refine ei_aload_n X dX9_wornThen_42 rfl rfl ?_
      refine ei_getf X fl_RX9_16 dX9_wornThen_43 rfl rfl ?_
      refine ei_getf X fl_RX9_65 dX9_wornThen_46 rfl rfl ?_
      refine ei_iload_n X dX9_wornThen_49 rfl rfl ?_
      refine ei_iaload_n X dX9_wornThen_50 rfl (by first | omega | assumption) (by decide) ?_
      refine ei_ireturn X F dX9_wornThen_51 ?_
      exact ⟨by unfold wornThenF; rw [if_pos ⟨cq8, cq18⟩, hnc, hnb, e2], _, be, h_0, rfl⟩
    · refine ei_iconst (v := -1) X dX9_wornThen_21 rfl ?_
      refine ei_ireturn X F dX9_wornThen_22 ?_
      exact ⟨by unfold wornThenF; rw [if_neg (fun z => Bool.false_ne_true (cq18.symm.trans z.2))], D, be, h_0, rfl⟩
set_option maxRecDepth 100000 in
set_option maxHeartbeats 1000000 in
theorem ct_X9_goes (n : Nat) (w se sp hr lt hd sc : Int32) (so fi wo : Nat → Int32) (D T : St) (im : Bool) (Z : Nat → Sh) (be : Nat → Int32) (b : Int32) (h_S : Good (n, w, se, sp, hr, lt, hd, sc, so, fi, wo)) (h_0 : dg0 be) : e_Ct yX9_goes cX9_goes 2 (some .int) 6 [.ref 0, .int b] (oH (n, w, se, sp, hr, lt, hd, sc, so, fi, wo) D T im Z be) (fP (.int (goesF (n, w, se, sp, hr, lt, hd, sc, so, fi, wo) b)) (n, w, se, sp, hr, lt, hd, sc, so, fi, wo) T im Z) := by
  refine e_open RX9 rfl (by decide +kernel) rfl (fun _ => Nat.le_of_ble_eq_true rfl) (fun x X F => ?_)
  have hn : n ≤ 10 := h_S.1
  have E18 : (b = -1 ∨ hasF n b = true) → e_E x 18 [some (.ref 0), some (.int b)] [] (oH (n, w, se, sp, hr, lt, hd, sc, so, fi, wo) D T im Z be) := by
    intro hb
    refine ei_aload_n X dX9_goes_18 rfl rfl ?_
    refine ei_getf X fl_RX9_16 dX9_goes_19 rfl rfl ?_
    refine ei_aload_n X dX9_goes_22 rfl rfl ?_
    refine ei_getf X fl_RX9_10 dX9_goes_23 rfl rfl ?_
    refine ei_cv0 [5, 6, 7, 8, 1, 2, 3, 4] (oH_gDN _ _ _ _ _ _) (oH_pDN _ _ _ _ _ _ _) X ml_RX9_44 dX9_goes_26 (ct_X2_becomes _ _) rfl rfl (by decide) (by decide) rfl (Nat.le_of_ble_eq_true rfl) (by decide) ?_
    refine ei_iload_n X dX9_goes_29 rfl rfl ?_
    refine ei_iconst (v := -1) X dX9_goes_30 rfl ?_
    refine ei_icmp_ne (tgt := 44) X dX9_goes_31 (by decide) (fun cq31 => ?_) (fun cq31 => ?_)
    · refine ei_aload_n X dX9_goes_44 rfl rfl ?_
      refine ei_getf X fl_RX9_16 dX9_goes_45 rfl rfl ?_
      obtain ⟨k, hk, ek⟩ := (hasF_iff (by omega)).mp (hb.elim (fun z => absurd z cq31) (fun z => z))
      have hnc : nc b = k := (by rw [ek]; exact nc_nI (by omega))
      subst ek
      refine ei_iload_n X dX9_goes_48 rfl rfl ?_
      refine ei_csR [5, 6, 7, 8] (oH_gD _ _ _ _ _ _) (fun D2 => oH_pD _ _ _ _ _ _ D2) X ml_RX9_154 dX9_goes_49 (ct_X0_hoursTillOut _ _ _ _ _ _ _ _ _ _ _ k (by omega) h_S) rfl rfl (by decide) (by decide) (Nat.le_of_ble_eq_true rfl) (by decide) (fun D2 => ?_)
      refine ei_ireturn X F dX9_goes_52 ?_
      exact ⟨by unfold goesF; rw [if_neg cq31, if_pos (hb.elim (fun z => absurd z cq31) (fun z => z)), hnc], D2, be, h_0, rfl⟩
    · refine ei_aload_n X dX9_goes_34 rfl rfl ?_
      refine ei_getf X fl_RX9_16 dX9_goes_35 rfl rfl ?_
      refine ei_csR [5, 6, 7, 8] (oH_gD _ _ _ _ _ _) (fun D2 => oH_pD _ _ _ _ _ _ D2) X ml_RX9_148 dX9_goes_38 (ct_X0_nextOut _ _ _ _ _ _ _ _ _ _ _ h_S) rfl rfl (by decide) (by decide) (Nat.le_of_ble_eq_true rfl) (by decide) (fun D2 => ?_)
      refine ei_goto (tgt := 52) X dX9_goes_41 (by decide) ?_
      refine ei_ireturn X F dX9_goes_52 ?_
      exact ⟨by unfold goesF; rw [if_pos cq31], D2, be, h_0, rfl⟩
  refine ei_iload_n X dX9_goes_0 rfl rfl ?_
  refine ei_iconst (v := -1) X dX9_goes_1 rfl ?_
  refine ei_icmp_eq (tgt := 18) X dX9_goes_2 (by decide) (fun cq2 => ?_) (fun cq2 => ?_)
  · exact E18 (Or.inl cq2)
  · refine ei_aload_n X dX9_goes_5 rfl rfl ?_
    refine ei_getf X fl_RX9_10 dX9_goes_6 rfl rfl ?_
    refine ei_iload_n X dX9_goes_9 rfl rfl ?_
    refine ei_cv1 [1, 2, 3, 4] (oH_gN _ _ _ _ _ _) (oH_pN _ _ _ _ _ _ _) X ml_RX9_54 dX9_goes_10 (ct_X2_has _ _ _ _ _ _ _ _ _ _ _ _) rfl rfl (by decide) (by decide) rfl (Nat.le_of_ble_eq_true rfl) (by decide) ?_
    refine ei_ifz_ne (tgt := 18) X dX9_goes_13 (by decide) (fun cq13 => ?_) (fun cq13 => ?_)
    · exact E18 (Or.inr cq13)
    · refine ei_iconst (v := -1) X dX9_goes_16 rfl ?_
      refine ei_ireturn X F dX9_goes_17 ?_
      exact ⟨by unfold goesF; rw [if_neg cq2, if_neg (fun z => Bool.false_ne_true (cq13.symm.trans z))], D, be, h_0, rfl⟩
set_option maxRecDepth 100000 in
set_option maxHeartbeats 1000000 in
theorem ct_X9_dark (n : Nat) (w se sp hr lt hd sc : Int32) (so fi wo : Nat → Int32) (D T : St) (im : Bool) (Z : Nat → Sh) (be : Nat → Int32) (h_S : Good (n, w, se, sp, hr, lt, hd, sc, so, fi, wo)) (h_0 : dg0 be) : e_Ct yX9_dark cX9_dark 1 (some .int) 6 [.ref 0] (oH (n, w, se, sp, hr, lt, hd, sc, so, fi, wo) D T im Z be) (fP (.int (darkF (n, w, se, sp, hr, lt, hd, sc, so, fi, wo))) (n, w, se, sp, hr, lt, hd, sc, so, fi, wo) T im Z) := by
  refine e_open RX9 rfl (by decide +kernel) rfl (fun _ => Nat.le_of_ble_eq_true rfl) (fun x X F => ?_)
  refine ei_aload_n X dX9_dark_0 rfl rfl ?_
  refine ei_getf X fl_RX9_16 dX9_dark_1 rfl rfl ?_
  refine ei_aload_n X dX9_dark_4 rfl rfl ?_
  refine ei_getf X fl_RX9_10 dX9_dark_5 rfl rfl ?_
  refine ei_cv0 [5, 6, 7, 8, 1, 2, 3, 4] (oH_gDN _ _ _ _ _ _) (oH_pDN _ _ _ _ _ _ _) X ml_RX9_44 dX9_dark_8 (ct_X2_becomes _ _) rfl rfl (by decide) (by decide) rfl (Nat.le_of_ble_eq_true rfl) (by decide) ?_
  refine ei_aload_n X dX9_dark_11 rfl rfl ?_
  refine ei_getf X fl_RX9_16 dX9_dark_12 rfl rfl ?_
  refine ei_csR [5, 6, 7, 8] (oH_gD _ _ _ _ _ _) (fun D2 => oH_pD _ _ _ _ _ _ D2) X ml_RX9_158 dX9_dark_15 (ct_X0_firstDark _ _ _ _ _ _ _ _ _ _ _ h_S) rfl rfl (by decide) (by decide) (Nat.le_of_ble_eq_true rfl) (by decide) (fun D2 => ?_)
  refine ei_ireturn X F dX9_dark_18 ?_
  exact ⟨rfl, D2, be, h_0, rfl⟩
set_option maxRecDepth 100000 in
set_option maxHeartbeats 1000000 in
theorem ct_X9_lights (n : Nat) (w se sp hr lt hd sc : Int32) (so fi wo : Nat → Int32) (D T : St) (im : Bool) (Z : Nat → Sh) (be : Nat → Int32) (what : Int32) (h_S : Good (n, w, se, sp, hr, lt, hd, sc, so, fi, wo)) (h_0 : dg0 be) : e_Ct yX9_lights cX9_lights 2 (some .int) 6 [.ref 0, .int what] (oH (n, w, se, sp, hr, lt, hd, sc, so, fi, wo) D T im Z be) (fP (.int (lightsF (n, w, se, sp, hr, lt, hd, sc, so, fi, wo) what)) (n, w, se, sp, hr, lt, hd, sc, so, fi, wo) T im Z) := by
  refine e_open RX9 rfl (by decide +kernel) rfl (fun _ => Nat.le_of_ble_eq_true rfl) (fun x X F => ?_)
  have hn : n ≤ 10 := h_S.1
  refine ei_iload_n X dX9_lights_0 rfl rfl ?_
  refine ei_table [(0, 36), (1, 56), (2, 64), (3, 72), (4, 91)] 99 X dX9_lights_1 (by decide) (by decide) (by decide) ⟨fun cq1 => ?_, fun cq1 => ?_, fun cq1 => ?_, fun cq1 => ?_, fun cq1 => ?_, trivial⟩ (fun cq1 => ?_)
  · refine ei_aload_n X dX9_lights_36 rfl rfl ?_
    refine ei_getf X fl_RX9_10 dX9_lights_37 rfl rfl ?_
    refine ei_aload_n X dX9_lights_40 rfl rfl ?_
    refine ei_getf X fl_RX9_10 dX9_lights_41 rfl rfl ?_
    refine ei_getf X fl_RX9_87 dX9_lights_44 rfl rfl ?_
    refine ei_iconst (v := 1) X dX9_lights_47 rfl ?_
    refine ei_iadd X dX9_lights_48 ?_
    refine ei_cv1 [1, 2, 3, 4] (oH_gN _ _ _ _ _ _) (oH_pN _ _ _ _ _ _ _) X ml_RX9_161 dX9_lights_49 (ct_X2_burns _ _ _ _ _ _ _ _ _ _ _ _ (by first | omega | assumption)) rfl rfl (by decide) (by decide) rfl (Nat.le_of_ble_eq_true rfl) (by decide) ?_
    refine ei_callT1 X ml_RX9_71 dX9_lights_52 (ct_X9_bit _ _) rfl rfl (by decide) (by decide) (Nat.le_of_ble_eq_true rfl) ?_
    refine ei_ireturn X F dX9_lights_55 ?_
    exact ⟨by simp [lightsF, cq1], D, be, h_0, rfl⟩
  · refine ei_aload_n X dX9_lights_56 rfl rfl ?_
    refine ei_getf X fl_RX9_10 dX9_lights_57 rfl rfl ?_
    refine ei_cv1 [1, 2, 3, 4] (oH_gN _ _ _ _ _ _) (oH_pN _ _ _ _ _ _ _) X ml_RX9_164 dX9_lights_60 (ct_X2_faults _ _ _ _ _ _ _ _ _ _ _ (by first | omega | assumption)) rfl rfl (by decide) (by decide) rfl (Nat.le_of_ble_eq_true rfl) (by decide) ?_
    refine ei_ireturn X F dX9_lights_63 ?_
    exact ⟨by simp [lightsF, cq1], D, be, h_0, rfl⟩
  · refine ei_aload_n X dX9_lights_64 rfl rfl ?_
    refine ei_getf X fl_RX9_10 dX9_lights_65 rfl rfl ?_
    refine ei_cv1 [1, 2, 3, 4] (oH_gN _ _ _ _ _ _) (oH_pN _ _ _ _ _ _ _) X ml_RX9_167 dX9_lights_68 (ct_X2_brown _ _ _ _ _ _ _ _ _ _ _ (by first | omega | assumption)) rfl rfl (by decide) (by decide) rfl (Nat.le_of_ble_eq_true rfl) (by decide) ?_
    refine ei_ireturn X F dX9_lights_71 ?_
    exact ⟨by simp [lightsF, cq1], D, be, h_0, rfl⟩
  · refine ei_aload_n X dX9_lights_72 rfl rfl ?_
    refine ei_getf X fl_RX9_16 dX9_lights_73 rfl rfl ?_
    refine ei_aload_n X dX9_lights_76 rfl rfl ?_
    refine ei_getf X fl_RX9_10 dX9_lights_77 rfl rfl ?_
    refine ei_cv0 [5, 6, 7, 8, 1, 2, 3, 4] (oH_gDN _ _ _ _ _ _) (oH_pDN _ _ _ _ _ _ _) X ml_RX9_44 dX9_lights_80 (ct_X2_becomes _ _) rfl rfl (by decide) (by decide) rfl (Nat.le_of_ble_eq_true rfl) (by decide) ?_
    refine ei_aload_n X dX9_lights_83 rfl rfl ?_
    refine ei_getf X fl_RX9_16 dX9_lights_84 rfl rfl ?_
    refine ei_csR [5, 6, 7, 8] (oH_gD _ _ _ _ _ _) (fun D2 => oH_pD _ _ _ _ _ _ D2) X ml_RX9_170 dX9_lights_87 (ct_X0_longest _ _ _ _ _ _ _ _ _ _ _ h_S) rfl rfl (by decide) (by decide) (Nat.le_of_ble_eq_true rfl) (by decide) (fun D2 => ?_)
    refine ei_ireturn X F dX9_lights_90 ?_
    exact ⟨by simp [lightsF, cq1], D2, be, h_0, rfl⟩
  · refine ei_aload_n X dX9_lights_91 rfl rfl ?_
    refine ei_getf X fl_RX9_10 dX9_lights_92 rfl rfl ?_
    refine ei_cv1 [1, 2, 3, 4] (oH_gN _ _ _ _ _ _) (oH_pN _ _ _ _ _ _ _) X ml_RX9_173 dX9_lights_95 (ct_X2_weakest _ _ _ _ _ _ _ _ _ _ _ (by first | omega | assumption)) rfl rfl (by decide) (by decide) rfl (Nat.le_of_ble_eq_true rfl) (by decide) ?_
    refine ei_ireturn X F dX9_lights_98 ?_
    exact ⟨by simp [lightsF, cq1], D, be, h_0, rfl⟩
  · refine ei_iconst (v := -1) X dX9_lights_99 rfl ?_
    refine ei_ireturn X F dX9_lights_100 ?_
    exact ⟨by obtain ⟨a, b, c, d, e, -⟩ := cq1; simp [lightsF, a, b, c, d, e], D, be, h_0, rfl⟩
set_option maxRecDepth 100000 in
set_option maxHeartbeats 1000000 in
theorem ct_X9_tool (n : Nat) (w se sp hr lt hd sc : Int32) (so fi wo : Nat → Int32) (D T : St) (im : Bool) (Z : Nat → Sh) (be : Nat → Int32) (t i j what : Int32) (h_S : Good (n, w, se, sp, hr, lt, hd, sc, so, fi, wo)) (h_0 : dg0 be) : e_Ct yX9_tool cX9_tool 6 (some .int) 6 [.ref 0, .int t, .int i, .int j, .int what] (oH (n, w, se, sp, hr, lt, hd, sc, so, fi, wo) D T im Z be) (fP (.int (toolF (n, w, se, sp, hr, lt, hd, sc, so, fi, wo) t i j what)) (n, w, se, sp, hr, lt, hd, sc, so, fi, wo) T im Z) := by
  refine e_open RX9 rfl (by decide +kernel) rfl (fun _ => Nat.le_of_ble_eq_true rfl) (fun x X F => ?_)
  have hn : n ≤ 10 := h_S.1
  refine ei_aload_n X dX9_tool_0 rfl rfl ?_
  refine ei_getf X fl_RX9_10 dX9_tool_1 rfl rfl ?_
  refine ei_iload_n X dX9_tool_4 rfl rfl ?_
  refine ei_iload_n X dX9_tool_5 rfl rfl ?_
  refine ei_iload_n X dX9_tool_6 rfl rfl ?_
  refine ei_cv1 [1, 2, 3, 4] (oH_gN _ _ _ _ _ _) (oH_pN _ _ _ _ _ _ _) X ml_RX9_126 dX9_tool_7 (ct_X2_canUse _ _ _ _ _ _ _ _ _ _ _ _ _ _) rfl rfl (by decide) (by decide) rfl (Nat.le_of_ble_eq_true rfl) (by decide) ?_
  refine ei_ifz_eq (tgt := 23) X dX9_tool_10 (by decide) (fun cq10 => ?_) (fun cq10 => ?_)
  · refine ei_iconst (v := -1) X dX9_tool_23 rfl ?_
    refine ei_ireturn X F dX9_tool_24 ?_
    exact ⟨by unfold toolF; rw [if_neg (fun z => Bool.false_ne_true (cq10.symm.trans z.1))], D, be, h_0, rfl⟩
  · have hC : canU (sN (n, w, se, sp, hr, lt, hd, sc, so, fi, wo)) t i j = true := cq10
    obtain ⟨a, b, hab, hb, rfl, rfl⟩ := canU_iff hn hC
    have na : nc (nI a) = a := nc_nI (by omega)
    have nb : nc (nI b) = b := nc_nI (by omega)
    refine ei_iload X dX9_tool_13 rfl ?_
    refine ei_iconst (v := 0) X dX9_tool_15 rfl ?_
    refine ei_iconst (v := 2) X dX9_tool_16 rfl ?_
    refine ei_callT1 X ml_RX9_112 dX9_tool_17 (ct_X9_within _ _ _ _) rfl rfl (by decide) (by decide) (Nat.le_of_ble_eq_true rfl) ?_
    refine ei_ifz_ne (tgt := 25) X dX9_tool_20 (by decide) (fun cq20 => ?_) (fun cq20 => ?_)
    · refine ei_aload_n X dX9_tool_25 rfl rfl ?_
      refine ei_getf X fl_RX9_16 dX9_tool_26 rfl rfl ?_
      refine ei_aload_n X dX9_tool_29 rfl rfl ?_
      refine ei_getf X fl_RX9_10 dX9_tool_30 rfl rfl ?_
      refine ei_cv0 [5, 6, 7, 8, 1, 2, 3, 4] (oH_gDN _ _ _ _ _ _) (oH_pDN _ _ _ _ _ _ _) X ml_RX9_44 dX9_tool_33 (ct_X2_becomes _ _) rfl rfl (by decide) (by decide) rfl (Nat.le_of_ble_eq_true rfl) (by decide) ?_
      refine ei_aload_n X dX9_tool_36 rfl rfl ?_
      refine ei_getf X fl_RX9_16 dX9_tool_37 rfl rfl ?_
      refine ei_iload_n X dX9_tool_40 rfl rfl ?_
      refine ei_iload_n X dX9_tool_41 rfl rfl ?_
      refine ei_iload_n X dX9_tool_42 rfl rfl ?_
      refine ei_cv1 [5, 6, 7, 8] (oH_gD _ _ _ _ _ _) (oH_pD _ _ _ _ _ _ _) X ml_RX9_129 dX9_tool_43 (ct_X2_useTool _ _ _ _ _ _ _ _ _ _ _ _ _ _ (by first | omega | assumption) (by first | omega | assumption) (by first | omega | assumption)) rfl rfl (by decide) (by decide) rfl (Nat.le_of_ble_eq_true rfl) (by decide) ?_
      refine ei_istore X dX9_tool_46 (Nat.le_of_ble_eq_true rfl) rfl ?_
      refine ei_iload X dX9_tool_48 rfl ?_
      refine ei_if_ne (tgt := 59) X dX9_tool_50 (by decide) (fun cq50 => ?_) (fun cq50 => ?_)
      · refine ei_iload X dX9_tool_59 rfl ?_
        refine ei_iconst (v := 1) X dX9_tool_61 rfl ?_
        refine ei_icmp_ne (tgt := 78) X dX9_tool_62 (by decide) (fun cq62 => ?_) (fun cq62 => ?_)
        · refine ei_aload_n X dX9_tool_78 rfl rfl ?_
          refine ei_getf X fl_RX9_16 dX9_tool_79 rfl rfl ?_
          refine ei_getf X fl_RX9_180 dX9_tool_82 rfl rfl ?_
          refine ei_ireturn X F dX9_tool_85 ?_
          exact ⟨by unfold toolF; rw [if_pos ⟨hC, cq20⟩, if_neg cq50, if_neg cq62, na, nb]; rfl, _, be, h_0, rfl⟩
        · refine ei_aload_n X dX9_tool_65 rfl rfl ?_
          refine ei_getf X fl_RX9_10 dX9_tool_66 rfl rfl ?_
          refine ei_iload_n X dX9_tool_69 rfl rfl ?_
          refine ei_iload_n X dX9_tool_70 rfl rfl ?_
          refine ei_iload_n X dX9_tool_71 rfl rfl ?_
          refine ei_cv1 [1, 2, 3, 4] (oH_gN _ _ _ _ _ _) (oH_pN _ _ _ _ _ _ _) X ml_RX9_176 dX9_tool_72 (ct_X2_toolSeconds _ _ _ _ _ _ _ _ _ _ _ _ _ _) rfl rfl (by decide) (by decide) rfl (Nat.le_of_ble_eq_true rfl) (by decide) ?_
          refine ei_goto (tgt := 85) X dX9_tool_75 (by decide) ?_
          refine ei_ireturn X F dX9_tool_85 ?_
          exact ⟨by unfold toolF; rw [if_pos ⟨hC, cq20⟩, if_neg cq50, if_pos cq62], _, be, h_0, rfl⟩
      · refine ei_iload X dX9_tool_53 rfl ?_
        refine ei_callT1 X ml_RX9_71 dX9_tool_55 (ct_X9_bit _ _) rfl rfl (by decide) (by decide) (Nat.le_of_ble_eq_true rfl) ?_
        refine ei_ireturn X F dX9_tool_58 ?_
        exact ⟨by unfold toolF; rw [if_pos ⟨hC, cq20⟩, if_pos cq50, na, nb], _, be, h_0, rfl⟩
    · refine ei_iconst (v := -1) X dX9_tool_23 rfl ?_
      refine ei_ireturn X F dX9_tool_24 ?_
      exact ⟨by unfold toolF; rw [if_neg (fun z => Bool.false_ne_true (cq20.symm.trans z.2))], D, be, h_0, rfl⟩
set_option maxRecDepth 100000 in
set_option maxHeartbeats 1000000 in
theorem ct_X9_halves (n : Nat) (w se sp hr lt hd sc : Int32) (so fi wo : Nat → Int32) (D T : St) (im : Bool) (Z : Nat → Sh) (be : Nat → Int32) (a b what : Int32) (h_S : Good (n, w, se, sp, hr, lt, hd, sc, so, fi, wo)) (h_0 : dg0 be) : e_Ct yX9_halves cX9_halves 4 (some .int) 6 [.ref 0, .int a, .int b, .int what] (oH (n, w, se, sp, hr, lt, hd, sc, so, fi, wo) D T im Z be) (fP (.int (halvesF (n, w, se, sp, hr, lt, hd, sc, so, fi, wo) a b what)) (n, w, se, sp, hr, lt, hd, sc, so, fi, wo) T im Z) := by
  refine e_open RX9 rfl (by decide +kernel) rfl (fun _ => Nat.le_of_ble_eq_true rfl) (fun x X F => ?_)
  have hn : n ≤ 10 := h_S.1
  refine ei_aload_n X dX9_halves_0 rfl rfl ?_
  refine ei_getf X fl_RX9_10 dX9_halves_1 rfl rfl ?_
  refine ei_iload_n X dX9_halves_4 rfl rfl ?_
  refine ei_iload_n X dX9_halves_5 rfl rfl ?_
  refine ei_cv1 [1, 2, 3, 4] (oH_gN _ _ _ _ _ _) (oH_pN _ _ _ _ _ _ _) X ml_RX9_183 dX9_halves_6 (ct_X2_isStretch _ _ _ _ _ _ _ _ _ _ _ _ _) rfl rfl (by decide) (by decide) rfl (Nat.le_of_ble_eq_true rfl) (by decide) ?_
  refine ei_ifz_eq (tgt := 21) X dX9_halves_9 (by decide) (fun cq9 => ?_) (fun cq9 => ?_)
  · refine ei_iconst (v := -1) X dX9_halves_21 rfl ?_
    refine ei_ireturn X F dX9_halves_22 ?_
    exact ⟨by unfold halvesF; rw [if_neg (fun z => Bool.false_ne_true (cq9.symm.trans z.1))], D, be, h_0, rfl⟩
  · obtain ⟨i, j, hij, hjn, rfl, rfl⟩ := str_ex hn cq9
    have ni : nc (nI i) = i := nc_nI (by omega)
    have nj : nc (nI j) = j := nc_nI (by omega)
    refine ei_iload_n X dX9_halves_12 rfl rfl ?_
    refine ei_iconst (v := 0) X dX9_halves_13 rfl ?_
    refine ei_iconst (v := 1) X dX9_halves_14 rfl ?_
    refine ei_callT1 X ml_RX9_112 dX9_halves_15 (ct_X9_within _ _ _ _) rfl rfl (by decide) (by decide) (Nat.le_of_ble_eq_true rfl) ?_
    refine ei_ifz_ne (tgt := 23) X dX9_halves_18 (by decide) (fun cq18 => ?_) (fun cq18 => ?_)
    · refine ei_iload_n X dX9_halves_23 rfl rfl ?_
      refine ei_if_ne (tgt := 39) X dX9_halves_24 (by decide) (fun cq24 => ?_) (fun cq24 => ?_)
      · refine ei_aload_n X dX9_halves_39 rfl rfl ?_
        refine ei_getf X fl_RX9_31 dX9_halves_40 rfl rfl ?_
        refine ei_iload_n X dX9_halves_43 rfl rfl ?_
        refine ei_iload_n X dX9_halves_44 rfl rfl ?_
        refine ei_cvP [30, 31] (oH_gH _ _ _ _ _ _) X ml_RX9_189 dX9_halves_45 (ct_X1_cut be i j hij (by omega) h_0) rfl rfl (by decide) (by decide) rfl (Nat.le_of_ble_eq_true rfl) (by decide) (fun r h2 hp => ?_)
        obtain ⟨rfl, g, hg0, rfl⟩ := hp
        rw [oH_pH]
        show e_E x _ _ [.int (cutI i j)] _
        refine ei_ireturn X F dX9_halves_48 ?_
        exact ⟨by unfold halvesF; rw [if_pos ⟨cq9, cq18⟩, if_neg cq24, ni, nj], D, g, hg0, rfl⟩
      · refine ei_aload_n X dX9_halves_27 rfl rfl ?_
        refine ei_getf X fl_RX9_31 dX9_halves_28 rfl rfl ?_
        refine ei_iload_n X dX9_halves_31 rfl rfl ?_
        refine ei_iload_n X dX9_halves_32 rfl rfl ?_
        refine ei_cvP [30, 31] (oH_gH _ _ _ _ _ _) X ml_RX9_186 dX9_halves_33 (ct_X1_worst be i j hij (by omega) h_0) rfl rfl (by decide) (by decide) rfl (Nat.le_of_ble_eq_true rfl) (by decide) (fun r h2 hp => ?_)
        obtain ⟨rfl, g, hg0, hgt, rfl⟩ := hp
        rw [oH_pH]
        show e_E x _ _ [.int (nI (wW i j))] _
        refine ei_goto (tgt := 48) X dX9_halves_36 (by decide) ?_
        refine ei_ireturn X F dX9_halves_48 ?_
        exact ⟨by unfold halvesF; rw [if_pos ⟨cq9, cq18⟩, if_pos cq24, ni, nj], D, g, hg0, rfl⟩
    · refine ei_iconst (v := -1) X dX9_halves_21 rfl ?_
      refine ei_ireturn X F dX9_halves_22 ?_
      exact ⟨by unfold halvesF; rw [if_neg (fun z => Bool.false_ne_true (cq18.symm.trans z.2))], D, be, h_0, rfl⟩
theorem part01 {v : Int32} (h : inI v 0 1 = true) : v = 0 ∨ v = 1 := by
  obtain ⟨k, -, hk, rfl⟩ := (inI_iff (x := v) (lo := 0) (hi := 1) (by decide) (by decide)).mp h
  rcases (by omega : k = 0 ∨ k = 1) with rfl | rfl
  · exact Or.inl rfl
  · exact Or.inr rfl
theorem odN_pos {wo : Nat → Int32} (h : GdV wo 999) {i e : Nat} (he : e ≤ 10) (hi : i < e) : 0 < odN wo i e := by
  have key : ∀ (k i a : Nat), a ≤ itr (fun a b => a + (nc (wo b) + 1)) a i k := by
    intro k
    induction k with
    | zero => intro i a; exact Nat.le_refl _
    | succ k ih => intro i a; rw [itr_s]; exact Nat.le_trans (by omega) (ih (i + 1) _)
  unfold odN
  obtain ⟨m, hm⟩ : ∃ m, e - i = m + 1 := ⟨e - i - 1, by omega⟩
  rw [hm, itr_s]
  have := key m (i + 1) (0 + (nc (wo i) + 1))
  omega
set_option maxRecDepth 100000 in
set_option maxHeartbeats 1000000 in
theorem ct_X9_mean (n : Nat) (w se sp hr lt hd sc : Int32) (so fi wo : Nat → Int32) (D T : St) (im : Bool) (Z : Nat → Sh) (be : Nat → Int32) (a b part : Int32) (h_S : Good (n, w, se, sp, hr, lt, hd, sc, so, fi, wo)) (h_0 : dg0 be) : e_Ct yX9_mean cX9_mean 4 (some .long) 5 [.ref 0, .int a, .int b, .int part] (oH (n, w, se, sp, hr, lt, hd, sc, so, fi, wo) D T im Z be) (fP (.long (meanF (n, w, se, sp, hr, lt, hd, sc, so, fi, wo) a b part)) (n, w, se, sp, hr, lt, hd, sc, so, fi, wo) T im Z) := by
  refine e_open RX9 rfl (by decide +kernel) rfl (fun _ => Nat.le_of_ble_eq_true rfl) (fun x X F => ?_)
  have hn : n ≤ 10 := h_S.1
  refine ei_aload_n X dX9_mean_0 rfl rfl ?_
  refine ei_getf X fl_RX9_10 dX9_mean_1 rfl rfl ?_
  refine ei_iload_n X dX9_mean_4 rfl rfl ?_
  refine ei_iload_n X dX9_mean_5 rfl rfl ?_
  refine ei_cv1 [1, 2, 3, 4] (oH_gN _ _ _ _ _ _) (oH_pN _ _ _ _ _ _ _) X ml_RX9_183 dX9_mean_6 (ct_X2_isStretch _ _ _ _ _ _ _ _ _ _ _ _ _) rfl rfl (by decide) (by decide) rfl (Nat.le_of_ble_eq_true rfl) (by decide) ?_
  refine ei_ifz_eq (tgt := 19) X dX9_mean_9 (by decide) (fun cq9 => ?_) (fun cq9 => ?_)
  · refine ei_iconst (v := -1) X dX9_mean_19 rfl ?_
    refine ei_callT1 X ml_RX9_195 dX9_mean_20 (ct_X9_longRefusal _ _) rfl rfl (by decide) (by decide) (Nat.le_of_ble_eq_true rfl) ?_
    refine ei_lreturn X F dX9_mean_23 ?_
    exact ⟨by unfold meanF; rw [if_neg (fun z => Bool.false_ne_true (cq9.symm.trans z.1)), lRef], D, be, h_0, rfl⟩
  · obtain ⟨i, j, hij, hjn, rfl, rfl⟩ := str_ex hn cq9
    have ni : nc (nI i) = i := nc_nI (by omega)
    have nj : nc (nI j) = j := nc_nI (by omega)
    have ho1 := odN_le h_S.2.2.2.1 (i := i) (e := j + 1) (by omega)
    have hm1 := wM_le (odS_le h_S.2.2.2.1) (a := i) (b := j) (by omega)
    have ho0 := odN_pos h_S.2.2.2.1 (i := i) (e := j + 1) (by omega) (by omega)
    simp only [sN, sW, sE, sP, sH, sL, sD, sC, sO, sG, sR] at ho1 hm1 ho0
    refine ei_iload_n X dX9_mean_12 rfl rfl ?_
    refine ei_callT1 X ml_RX9_192 dX9_mean_13 (ct_X9_isPart _ _) rfl rfl (by decide) (by decide) (Nat.le_of_ble_eq_true rfl) ?_
    refine ei_ifz_ne (tgt := 24) X dX9_mean_16 (by decide) (fun cq16 => ?_) (fun cq16 => ?_)
    · refine ei_aload_n X dX9_mean_24 rfl rfl ?_
      refine ei_getf X fl_RX9_31 dX9_mean_25 rfl rfl ?_
      refine ei_aload_n X dX9_mean_28 rfl rfl ?_
      refine ei_getf X fl_RX9_10 dX9_mean_29 rfl rfl ?_
      refine ei_iload_n X dX9_mean_32 rfl rfl ?_
      refine ei_iload_n X dX9_mean_33 rfl rfl ?_
      refine ei_cvP [30, 31, 1, 2, 3, 4] (oH_gHN _ _ _ _ _ _) X ml_RX9_199 dX9_mean_34 (ct_X1_weighed be _ _ _ _ _ _ _ _ _ _ _ i j hij (by omega) h_S.2.2.2.1 h_0) rfl rfl (by decide) (by decide) rfl (Nat.le_of_ble_eq_true rfl) (by decide) (fun r h2 hp => ?_)
      obtain ⟨rfl, g, hg0, rfl⟩ := hp
      rw [oH_pHN]
      show e_E x _ _ [.int (nI (wM (odS wo) i j))] _
      refine ei_i2l X dX9_mean_37 ?_
      rw [nI_l (show wM (odS wo) i j < 2 ^ 31 by omega)]
      refine ei_aload_n X dX9_mean_38 rfl rfl ?_
      refine ei_getf X fl_RX9_10 dX9_mean_39 rfl rfl ?_
      refine ei_iload_n X dX9_mean_42 rfl rfl ?_
      refine ei_iload_n X dX9_mean_43 rfl rfl ?_
      refine ei_cv1 [1, 2, 3, 4] (oH_gN _ _ _ _ _ _) (oH_pN _ _ _ _ _ _ _) X ml_RX9_203 dX9_mean_44 (ct_X2_oddsOf_ _ _ _ _ _ _ _ _ _ _ _ _ _ (by first | omega | assumption) (by first | omega | assumption)) rfl rfl (by decide) (by decide) rfl (Nat.le_of_ble_eq_true rfl) (by decide) ?_
      rw [odds_nI h_S.2.2.2.1 (by omega) (by omega)]
      refine ei_i2l X dX9_mean_47 ?_
      rw [nI_l (by simp only [sN, sW, sE, sP, sH, sL, sD, sC, sO, sG, sR]; omega)]
      refine ei_iload_n X dX9_mean_48 rfl rfl ?_
      refine ei_callT1 X ml_RX9_206 dX9_mean_49 (ct_X3_leastTerms _ _ _ _ (by omega) (by simp only [sN, sW, sE, sP, sH, sL, sD, sC, sO, sG, sR]; omega) (part01 cq16) (fun z => by simp only [sN, sW, sE, sP, sH, sL, sD, sC, sO, sG, sR] at z; omega)) rfl rfl (by decide) (by decide) (Nat.le_of_ble_eq_true rfl) ?_
      refine ei_lreturn X F dX9_mean_52 ?_
      exact ⟨by unfold meanF; rw [if_pos ⟨cq9, cq16⟩, ni, nj], D, g, hg0, rfl⟩
    · refine ei_iconst (v := -1) X dX9_mean_19 rfl ?_
      refine ei_callT1 X ml_RX9_195 dX9_mean_20 (ct_X9_longRefusal _ _) rfl rfl (by decide) (by decide) (Nat.le_of_ble_eq_true rfl) ?_
      refine ei_lreturn X F dX9_mean_23 ?_
      exact ⟨by unfold meanF; rw [if_neg (fun z => Bool.false_ne_true (cq16.symm.trans z.2)), lRef], D, be, h_0, rfl⟩

