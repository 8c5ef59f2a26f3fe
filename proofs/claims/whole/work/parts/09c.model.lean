set_option maxRecDepth 100000 in
set_option maxHeartbeats 4000000 in
theorem ct_X10_then (n : Nat) (w se sp hr lt hd sc : Int32) (so fi wo : Nat → Int32) (I : Nat → Int32) (A : Nat → Nat → Int32) (B : Nat → Nat → Int64) (K : Value) (m what : Int32) (h_S : Good (n, w, se, sp, hr, lt, hd, sc, so, fi, wo)) (h_M : mI (I, A, B, K)) : e_Ct yX10_then cX10_then 4 (some .int) 7 [.ref 0, .int m, .int what] (mH (n, w, se, sp, hr, lt, hd, sc, so, fi, wo) (I, A, B, K)) (mP (some (.int (thenF (n, w, se, sp, hr, lt, hd, sc, so, fi, wo) m what))) (n, w, se, sp, hr, lt, hd, sc, so, fi, wo) (I, A, B, K)) := by
  refine e_open RX10 rfl (by decide +kernel) rfl (fun _ => Nat.le_of_ble_eq_true rfl) (fun x X F => ?_)
  obtain ⟨i11, i12⟩ := h_M
  simp only at i11 i12
  have hn : n ≤ 10 := h_S.1
  refine ei_aload_n X dX10_then_0 rfl rfl ?_
  refine ei_iconst (v := 0) X dX10_then_1 rfl ?_
  refine ei_puti X fp_RX10_78 dX10_then_2 rfl (Nat.le_of_ble_eq_true rfl) (pm_20 _ _ _ _ _ _ _ _ _ _ _ _ _ _ _ _) ?_
  refine ei_iload_n X dX10_then_5 rfl rfl ?_
  refine ei_i2l X dX10_then_6 ?_
  refine ei_lconst (v := 0) X dX10_then_7 rfl ?_
  refine ei_ldc2 X cw_RX10_202 dX10_then_8 ?_
  refine ei_callT1 X ml_RX10_84 dX10_then_11 (ct_X10_in _ _ _ _) rfl rfl (by decide) (by decide) (Nat.le_of_ble_eq_true rfl) ?_
  rw [in_0_60]
  refine ei_ifz_eq (tgt := 29) X dX10_then_14 (by decide) (fun cq14 => ?_) (fun cq14 => ?_)
  · refine ei_iconst (v := -1) X dX10_then_29 rfl ?_
    refine ei_ireturn X F dX10_then_30 ?_
    exact ⟨by simp only [thenF, cq14, Bool.false_eq_true, false_and, if_false], _, kM_20 _ _ _ _ 0, rfl⟩
  · refine ei_iload_n X dX10_then_17 rfl rfl ?_
    refine ei_i2l X dX10_then_18 ?_
    refine ei_lconst (v := 0) X dX10_then_19 rfl ?_
    refine ei_ldc2 X cw_RX10_267 dX10_then_20 ?_
    refine ei_callT1 X ml_RX10_84 dX10_then_23 (ct_X10_in _ _ _ _) rfl rfl (by decide) (by decide) (Nat.le_of_ble_eq_true rfl) ?_
    rw [in_0_2]
    refine ei_ifz_ne (tgt := 31) X dX10_then_26 (by decide) (fun cq26 => ?_) (fun cq26 => ?_)
    · obtain ⟨k, hk1, hk2, rfl⟩ := (inI_iff (lo := 0) (hi := 60) (by decide) (by decide)).mp cq14
      have hnc : nc (nI k) = k := nc_nI (by omega)
      refine ei_aload_n X dX10_then_31 rfl rfl ?_
      refine ei_callI X ml_RX10_225 dX10_then_32 (ct_X10_think _ _ _ _ _ _ _ _ _ _ _ _ _ _ _) rfl rfl (by decide) (by decide) rfl (Nat.le_of_ble_eq_true rfl) (fun r h2 hp => ?_)
      obtain ⟨rfl, J32, h32, rfl⟩ := hp
      refine ei_aload_n X dX10_then_35 rfl rfl ?_
      refine ei_iload_n X dX10_then_36 rfl rfl ?_
      refine ei_callI X ml_RX10_204 dX10_then_37 (ct_X10_goHours _ _ _ _ _ _ _ _ _ _ _ _ _ _ _ k h_S (by rw [h32 12 (by decide) (by decide), pk_un (by decide)]; exact i12) (by rw [h32 11 (by decide) (by decide), pk_un (by decide)]; exact i11) (by omega)) rfl rfl (by decide) (by decide) rfl (Nat.le_of_ble_eq_true rfl) (fun r h2 hp => ?_)
      obtain ⟨rfl, J36, h36, rfl⟩ := hp
      obtain ⟨w2, se2, hr2, lt2, wo2, e2⟩ := hours_ex (n, w, se, sp, hr, lt, hd, sc, so, fi, wo) k
      rw [e2]
      refine ei_iload_n X dX10_then_40 rfl rfl ?_
      refine ei_if_ne (tgt := 51) X dX10_then_41 (by decide) (fun cq41 => ?_) (fun cq41 => ?_)
      · refine ei_iload_n X dX10_then_51 rfl rfl ?_
        refine ei_iconst (v := 1) X dX10_then_52 rfl ?_
        refine ei_icmp_ne (tgt := 63) X dX10_then_53 (by decide) (fun cq53 => ?_) (fun cq53 => ?_)
        · refine ei_aload_n X dX10_then_63 rfl rfl ?_
          refine ei_callI1 X ml_RX10_269 dX10_then_64 (ct_X10_allWorn _ _ _ _ _ _ _ _ _ _ _ _ _ _ _ (by first | omega | assumption)) rfl rfl (by decide) (by decide) rfl (Nat.le_of_ble_eq_true rfl) ?_
          refine ei_istore_n X dX10_then_67 rfl (Nat.le_of_ble_eq_true rfl) rfl ?_
          refine ei_aload_n X dX10_then_68 rfl rfl ?_
          refine ei_callI X ml_RX10_231 dX10_then_69 (ct_X10_again _ _ _ _ _ _ _ _ _ _ _ n w se sp hr lt hd sc so fi wo _ _ _ _ updA_on) rfl rfl (by decide) (by decide) rfl (Nat.le_of_ble_eq_true rfl) (fun r h2 hp => ?_)
          obtain ⟨rfl, J69, h69, rfl⟩ := hp
          refine ei_iload_n X dX10_then_72 rfl rfl ?_
          refine ei_ireturn X F dX10_then_73 ?_
          exact ⟨by simp_all [thenF, sN, sW, sE, sP, sH, sL, sD, sC, sO, sG, sR], _, kM_13 (fun k hk => by rw [h69 k (by omega) (by omega), h36 k (by omega), h32 k (by omega) (by omega), pk_un (by omega)]), rfl⟩
        · refine ei_aload_n X dX10_then_56 rfl rfl ?_
          refine ei_getf X fl_RX10_131 dX10_then_57 rfl rfl ?_
          refine ei_goto (tgt := 67) X dX10_then_60 (by decide) ?_
          refine ei_istore_n X dX10_then_67 rfl (Nat.le_of_ble_eq_true rfl) rfl ?_
          refine ei_aload_n X dX10_then_68 rfl rfl ?_
          refine ei_callI X ml_RX10_231 dX10_then_69 (ct_X10_again _ _ _ _ _ _ _ _ _ _ _ n w se sp hr lt hd sc so fi wo _ _ _ _ updA_on) rfl rfl (by decide) (by decide) rfl (Nat.le_of_ble_eq_true rfl) (fun r h2 hp => ?_)
          obtain ⟨rfl, J69, h69, rfl⟩ := hp
          refine ei_iload_n X dX10_then_72 rfl rfl ?_
          refine ei_ireturn X F dX10_then_73 ?_
          exact ⟨by simp_all [thenF, sN, sW, sE, sP, sH, sL, sD, sC, sO, sG, sR], _, kM_13 (fun k hk => by rw [h69 k (by omega) (by omega), h36 k (by omega), h32 k (by omega) (by omega), pk_un (by omega)]), rfl⟩
      · refine ei_aload_n X dX10_then_44 rfl rfl ?_
        refine ei_getf X fl_RX10_88 dX10_then_45 rfl rfl ?_
        refine ei_goto (tgt := 67) X dX10_then_48 (by decide) ?_
        refine ei_istore_n X dX10_then_67 rfl (Nat.le_of_ble_eq_true rfl) rfl ?_
        refine ei_aload_n X dX10_then_68 rfl rfl ?_
        refine ei_callI X ml_RX10_231 dX10_then_69 (ct_X10_again _ _ _ _ _ _ _ _ _ _ _ n w se sp hr lt hd sc so fi wo _ _ _ _ updA_on) rfl rfl (by decide) (by decide) rfl (Nat.le_of_ble_eq_true rfl) (fun r h2 hp => ?_)
        obtain ⟨rfl, J69, h69, rfl⟩ := hp
        refine ei_iload_n X dX10_then_72 rfl rfl ?_
        refine ei_ireturn X F dX10_then_73 ?_
        exact ⟨by simp_all [thenF, sN, sW, sE, sP, sH, sL, sD, sC, sO, sG, sR], _, kM_13 (fun k hk => by rw [h69 k (by omega) (by omega), h36 k (by omega), h32 k (by omega) (by omega), pk_un (by omega)]), rfl⟩
    · refine ei_iconst (v := -1) X dX10_then_29 rfl ?_
      refine ei_ireturn X F dX10_then_30 ?_
      exact ⟨by simp only [thenF, cq26, Bool.false_eq_true, and_false, if_false], _, kM_20 _ _ _ _ 0, rfl⟩
set_option maxRecDepth 100000 in
set_option maxHeartbeats 4000000 in
theorem ct_X10_wornThen (n : Nat) (w se sp hr lt hd sc : Int32) (so fi wo : Nat → Int32) (I : Nat → Int32) (A : Nat → Nat → Int32) (B : Nat → Nat → Int64) (K : Value) (b m : Int32) (h_S : Good (n, w, se, sp, hr, lt, hd, sc, so, fi, wo)) (h_M : mI (I, A, B, K)) : e_Ct yX10_wornThen cX10_wornThen 4 (some .int) 7 [.ref 0, .int b, .int m] (mH (n, w, se, sp, hr, lt, hd, sc, so, fi, wo) (I, A, B, K)) (mP (some (.int (wornThenF (n, w, se, sp, hr, lt, hd, sc, so, fi, wo) b m))) (n, w, se, sp, hr, lt, hd, sc, so, fi, wo) (I, A, B, K)) := by
  refine e_open RX10 rfl (by decide +kernel) rfl (fun _ => Nat.le_of_ble_eq_true rfl) (fun x X F => ?_)
  obtain ⟨i11, i12⟩ := h_M
  simp only at i11 i12
  have hn : n ≤ 10 := h_S.1
  refine ei_aload_n X dX10_wornThen_0 rfl rfl ?_
  refine ei_iconst (v := 0) X dX10_wornThen_1 rfl ?_
  refine ei_puti X fp_RX10_78 dX10_wornThen_2 rfl (Nat.le_of_ble_eq_true rfl) (pm_20 _ _ _ _ _ _ _ _ _ _ _ _ _ _ _ _) ?_
  refine ei_aload_n X dX10_wornThen_5 rfl rfl ?_
  refine ei_iload_n X dX10_wornThen_6 rfl rfl ?_
  refine ei_callI1 X ml_RX10_193 dX10_wornThen_7 (ct_X10_isBulb _ _ _ _ _ _ _ _ _ _ _ _ _ _ _ _ (by first | omega | assumption)) rfl rfl (by decide) (by decide) rfl (Nat.le_of_ble_eq_true rfl) ?_
  refine ei_ifz_eq (tgt := 25) X dX10_wornThen_10 (by decide) (fun cq10 => ?_) (fun cq10 => ?_)
  · refine ei_iconst (v := -1) X dX10_wornThen_25 rfl ?_
    refine ei_ireturn X F dX10_wornThen_26 ?_
    exact ⟨by simp only [wornThenF, sN, sW, sE, sP, sH, sL, sD, sC, sO, sG, sR, cq10, Bool.false_eq_true, false_and, if_false], _, kM_20 _ _ _ _ 0, rfl⟩
  · refine ei_iload_n X dX10_wornThen_13 rfl rfl ?_
    refine ei_i2l X dX10_wornThen_14 ?_
    refine ei_lconst (v := 0) X dX10_wornThen_15 rfl ?_
    refine ei_ldc2 X cw_RX10_202 dX10_wornThen_16 ?_
    refine ei_callT1 X ml_RX10_84 dX10_wornThen_19 (ct_X10_in _ _ _ _) rfl rfl (by decide) (by decide) (Nat.le_of_ble_eq_true rfl) ?_
    rw [in_0_60]
    refine ei_ifz_ne (tgt := 27) X dX10_wornThen_22 (by decide) (fun cq22 => ?_) (fun cq22 => ?_)
    · obtain ⟨a, ha, rfl⟩ := (hasF_iff (by omega)).mp cq10
      have hna : nc (nI a) = a := nc_nI (by omega)
      obtain ⟨k, hk1, hk2, rfl⟩ := (inI_iff (lo := 0) (hi := 60) (by decide) (by decide)).mp cq22
      have hnc : nc (nI k) = k := nc_nI (by omega)
      refine ei_aload_n X dX10_wornThen_27 rfl rfl ?_
      refine ei_callI X ml_RX10_225 dX10_wornThen_28 (ct_X10_think _ _ _ _ _ _ _ _ _ _ _ _ _ _ _) rfl rfl (by decide) (by decide) rfl (Nat.le_of_ble_eq_true rfl) (fun r h2 hp => ?_)
      obtain ⟨rfl, J28, h28, rfl⟩ := hp
      refine ei_aload_n X dX10_wornThen_31 rfl rfl ?_
      refine ei_iload_n X dX10_wornThen_32 rfl rfl ?_
      refine ei_callI X ml_RX10_204 dX10_wornThen_33 (ct_X10_goHours _ _ _ _ _ _ _ _ _ _ _ _ _ _ _ k h_S (by rw [h28 12 (by decide) (by decide), pk_un (by decide)]; exact i12) (by rw [h28 11 (by decide) (by decide), pk_un (by decide)]; exact i11) (by omega)) rfl rfl (by decide) (by decide) rfl (Nat.le_of_ble_eq_true rfl) (fun r h2 hp => ?_)
      obtain ⟨rfl, J36, h36, rfl⟩ := hp
      obtain ⟨w2, se2, hr2, lt2, wo2, e2⟩ := hours_ex (n, w, se, sp, hr, lt, hd, sc, so, fi, wo) k
      rw [e2]
      refine ei_aload_n X dX10_wornThen_36 rfl rfl ?_
      refine ei_getf X fl_RX10_16 dX10_wornThen_37 rfl rfl ?_
      refine ei_iload_n X dX10_wornThen_40 rfl rfl ?_
      refine ei_iaload_n X dX10_wornThen_41 rfl (by first | omega | assumption) (by decide) ?_
      refine ei_istore_n X dX10_wornThen_42 rfl (Nat.le_of_ble_eq_true rfl) rfl ?_
      refine ei_aload_n X dX10_wornThen_43 rfl rfl ?_
      refine ei_callI X ml_RX10_231 dX10_wornThen_44 (ct_X10_again _ _ _ _ _ _ _ _ _ _ _ n w se sp hr lt hd sc so fi wo _ _ _ _ updA_on) rfl rfl (by decide) (by decide) rfl (Nat.le_of_ble_eq_true rfl) (fun r h2 hp => ?_)
      obtain ⟨rfl, J44, h44, rfl⟩ := hp
      refine ei_iload_n X dX10_wornThen_47 rfl rfl ?_
      refine ei_ireturn X F dX10_wornThen_48 ?_
      exact ⟨by simp only [wornThenF, sN, sW, sE, sP, sH, sL, sD, sC, sO, sG, sR, cq10, cq22, and_self, if_true, hna, hnc, e2], _, kM_13 (fun k hk => by rw [h44 k (by omega) (by omega), h36 k (by omega), h28 k (by omega) (by omega), pk_un (by omega)]), rfl⟩
    · refine ei_iconst (v := -1) X dX10_wornThen_25 rfl ?_
      refine ei_ireturn X F dX10_wornThen_26 ?_
      exact ⟨by simp only [wornThenF, cq22, Bool.false_eq_true, and_false, if_false], _, kM_20 _ _ _ _ 0, rfl⟩
set_option maxRecDepth 100000 in
set_option maxHeartbeats 4000000 in
theorem ct_X10_goesIn (n : Nat) (w se sp hr lt hd sc : Int32) (so fi wo : Nat → Int32) (I : Nat → Int32) (A : Nat → Nat → Int32) (B : Nat → Nat → Int64) (K : Value) (b : Nat) (h_b : b < 10) (h_S : Good (n, w, se, sp, hr, lt, hd, sc, so, fi, wo)) (h_12 : I 12 = 1) (h_11 : I 11 = 0) : e_Ct yX10_goesIn cX10_goesIn 4 (some .int) 6 [.ref 0, .int (nI b)] (mH (n, w, se, sp, hr, lt, hd, sc, so, fi, wo) (I, A, B, K)) (fun r h => r = some (.int (nI (tillN (n, w, se, sp, hr, lt, hd, sc, so, fi, wo) b))) ∧ ∃ J, (∀ k, k = 11 ∨ k = 12 ∨ k = 30 ∨ k = 20 → J k = I k) ∧ h = mH (n, w, se, sp, hr, lt, hd, sc, so, fi, wo) (J, updA A 13 (encF (n, w, se, sp, hr, lt, hd, sc, so, fi, wo)), B, .ref 13)) := by
  refine e_open RX10 rfl (by decide +kernel) rfl (fun _ => Nat.le_of_ble_eq_true rfl) (fun x X F => ?_)
  have L : ∀ (k j : Nat) (J : Nat → Int32), 61 - j < k → j ≤ 61 → (∀ k, k = 11 ∨ k = 12 ∨ k = 30 ∨ k = 20 → J k = I k) → tillN (n, w, se, sp, hr, lt, hd, sc, so, fi, wo) b = firstN (fun k => !hasB (sW (hoursS (n, w, se, sp, hr, lt, hd, sc, so, fi, wo) k)) b) j (61 - j) → e_E x 9 [some (.ref 0), some (.int (nI b)), some (.int (nI 61)), some (.int (nI j))] [] (mH (hoursS (n, w, se, sp, hr, lt, hd, sc, so, fi, wo) j) (J, updA A 13 (encF (n, w, se, sp, hr, lt, hd, sc, so, fi, wo)), B, .ref 13)) := by
    intro k
    induction k with
    | zero => intro j J hk; exact absurd hk (Nat.not_lt_zero _)
    | succ k ih =>
      intro j J hk hj hJ hv
      obtain ⟨w2, se2, hr2, lt2, wo2, e2⟩ := hours_ex (n, w, se, sp, hr, lt, hd, sc, so, fi, wo) j
      simp only [sN, sW, sE, sP, sH, sL, sD, sC, sO, sG, sR] at e2
      have e3 : hoursS (n, w, se, sp, hr, lt, hd, sc, so, fi, wo) (j + 1) = hourS (hoursS (n, w, se, sp, hr, lt, hd, sc, so, fi, wo) j) 1 := hours_s _ _
      have hg := good_at h_S j
      rw [e2] at e3 hg ⊢
      have j12 := (hJ 12 (by omega)).trans h_12
      have j11 := (hJ 11 (by omega)).trans h_11
      have R : ∀ (a : Nat) (S2 : St) (J2 : Nat → Int32), tillN (n, w, se, sp, hr, lt, hd, sc, so, fi, wo) b = a → a < 100 → (∀ k, k = 11 ∨ k = 12 ∨ k = 30 ∨ k = 20 → J2 k = I k) → e_E x 50 [some (.ref 0), some (.int (nI b)), some (.int (nI a)), none] [] (mH S2 (J2, updA A 13 (encF (n, w, se, sp, hr, lt, hd, sc, so, fi, wo)), B, .ref 13)) := by
        intro a S2 J2 ha ha2 hJ2
        obtain ⟨n3, w3, se3, sp3, hr3, lt3, hd3, sc3, so3, fi3, wo3⟩ := S2
        refine ei_aload_n X dX10_goesIn_50 rfl rfl ?_
        refine ei_callI X ml_RX10_231 dX10_goesIn_51 (ct_X10_again _ _ _ _ _ _ _ _ _ _ _ n w se sp hr lt hd sc so fi wo _ _ _ _ updA_on) rfl rfl (by decide) (by decide) rfl (Nat.le_of_ble_eq_true rfl) (fun r h2 hp => ?_)
        obtain ⟨rfl, J51, h51, rfl⟩ := hp
        refine ei_iload_n X dX10_goesIn_54 rfl rfl ?_
        refine ei_ireturn X F dX10_goesIn_55 ?_
        exact ⟨by rw [ha], J51, fun k hk => by rw [h51 k (by omega) (by omega)]; exact hJ2 k hk, rfl⟩
      have R9 : ∀ (a i : Nat) (S2 : St) (J2 : Nat → Int32), tillN (n, w, se, sp, hr, lt, hd, sc, so, fi, wo) b = a → a < 61 → i < 100 → (∀ k, k = 11 ∨ k = 12 ∨ k = 30 ∨ k = 20 → J2 k = I k) → e_E x 9 [some (.ref 0), some (.int (nI b)), some (.int (nI a)), some (.int (nI i))] [] (mH S2 (J2, updA A 13 (encF (n, w, se, sp, hr, lt, hd, sc, so, fi, wo)), B, .ref 13)) := by
        intro a i S2 J2 ha ha2 hi hJ2
        refine ei_iload_n X dX10_goesIn_9 rfl rfl ?_
        refine ei_bipush (v := nI 60) X dX10_goesIn_10 rfl ?_
        refine ei_icmpn_gt (tgt := 50) X dX10_goesIn_12 (by decide) (by first | omega | assumption) (by first | omega | assumption) (fun cq12 => ?_) (fun cq12 => ?_)
        · refine ei_drop 3 ?_
          exact R a _ _ ha (by omega) hJ2
        · refine ei_iload_n X dX10_goesIn_15 rfl rfl ?_
          refine ei_bipush (v := nI 61) X dX10_goesIn_16 rfl ?_
          refine ei_icmpn_ne (tgt := 50) X dX10_goesIn_18 (by decide) (by first | omega | assumption) (by first | omega | assumption) (fun cq18 => ?_) (fun cq18 => ?_)
          · refine ei_drop 3 ?_
            exact R a _ _ ha (by omega) hJ2
          · omega
      refine ei_iload_n X dX10_goesIn_9 rfl rfl ?_
      refine ei_bipush (v := nI 60) X dX10_goesIn_10 rfl ?_
      refine ei_icmpn_gt (tgt := 50) X dX10_goesIn_12 (by decide) (by first | omega | assumption) (by first | omega | assumption) (fun cq12 => ?_) (fun cq12 => ?_)
      · refine ei_drop 3 ?_
        exact R 61 _ _ (by rw [hv, firstN_e (by omega)]; omega) (by decide) hJ
      · refine ei_iload_n X dX10_goesIn_15 rfl rfl ?_
        refine ei_bipush (v := nI 61) X dX10_goesIn_16 rfl ?_
        refine ei_icmpn_ne (tgt := 50) X dX10_goesIn_18 (by decide) (by first | omega | assumption) (by first | omega | assumption) (fun cq18 => ?_) (fun cq18 => ?_)
        · exact absurd rfl cq18
        · refine ei_aload_n X dX10_goesIn_21 rfl rfl ?_
          refine ei_getf X fl_RX10_88 dX10_goesIn_22 rfl rfl ?_
          refine ei_iload_n X dX10_goesIn_25 rfl rfl ?_
          refine ei_callT1 X ml_RX10_91 dX10_goesIn_26 (ct_X10_hasBit _ _ _) rfl rfl (by decide) (by decide) (Nat.le_of_ble_eq_true rfl) ?_
          refine ei_ifz_eq (tgt := 37) X dX10_goesIn_29 (by decide) (fun cq29 => ?_) (fun cq29 => ?_)
          · refine ei_iload_n X dX10_goesIn_37 rfl rfl ?_
            refine ei_istore_n X dX10_goesIn_38 rfl (Nat.le_of_ble_eq_true rfl) rfl ?_
            refine ei_aload_n X dX10_goesIn_39 rfl rfl ?_
            refine ei_callI1 X ml_RX10_134 dX10_goesIn_40 (ct_X10_hourOn _ _ _ _ _ _ _ _ _ _ _ _ _ _ _ hg (Or.inl j12) j11) rfl rfl (by decide) (by decide) rfl (Nat.le_of_ble_eq_true rfl) ?_
            rw [j12]
            refine ei_pop X dX10_goesIn_43 rfl ?_
            refine ei_iinc_n X dX10_goesIn_44 rfl rfl ?_
            refine ei_goto (tgt := 9) X dX10_goesIn_47 (by decide) ?_
            exact R9 j (j + 1) _ _ (by rw [hv, firstN_t (by omega) (by rw [e2]; simp only [sN, sW, sE, sP, sH, sL, sD, sC, sO, sG, sR, cq29]; rfl)]) (by omega) (by omega) (fun k hk => by rw [burnI_off (by omega)]; exact hJ k hk)
          · refine ei_bipush (v := nI 61) X dX10_goesIn_32 rfl ?_
            refine ei_goto (tgt := 38) X dX10_goesIn_34 (by decide) ?_
            refine ei_istore_n X dX10_goesIn_38 rfl (Nat.le_of_ble_eq_true rfl) rfl ?_
            refine ei_aload_n X dX10_goesIn_39 rfl rfl ?_
            refine ei_callI1 X ml_RX10_134 dX10_goesIn_40 (ct_X10_hourOn _ _ _ _ _ _ _ _ _ _ _ _ _ _ _ hg (Or.inl j12) j11) rfl rfl (by decide) (by decide) rfl (Nat.le_of_ble_eq_true rfl) ?_
            rw [j12]
            refine ei_pop X dX10_goesIn_43 rfl ?_
            refine ei_iinc_n X dX10_goesIn_44 rfl rfl ?_
            refine ei_goto (tgt := 9) X dX10_goesIn_47 (by decide) ?_
            have h9 := ih (j + 1) (burnI J (hourB (n, w2, se2, sp, hr2, lt2, hd, sc, so, fi, wo2)) (wholeN w2 0 n)) (by omega) (by omega) (fun k hk => by rw [burnI_off (by omega)]; exact hJ k hk) (by rw [hv, firstN_f (by omega) (by rw [e2]; simp only [sN, sW, sE, sP, sH, sL, sD, sC, sO, sG, sR, cq29]; rfl)])
            rw [e3] at h9
            exact h9
  refine ei_bipush (v := nI 61) X dX10_goesIn_0 rfl ?_
  refine ei_istore_n X dX10_goesIn_2 rfl (Nat.le_of_ble_eq_true rfl) rfl ?_
  refine ei_aload_n X dX10_goesIn_3 rfl rfl ?_
  refine ei_callI X ml_RX10_225 dX10_goesIn_4 (ct_X10_think _ _ _ _ _ _ _ _ _ _ _ _ _ _ _) rfl rfl (by decide) (by decide) rfl (Nat.le_of_ble_eq_true rfl) (fun r h2 hp => ?_)
  obtain ⟨rfl, J4, h4, rfl⟩ := hp
  refine ei_iconst (v := nI 0) X dX10_goesIn_7 rfl ?_
  refine ei_istore_n X dX10_goesIn_8 rfl (Nat.le_of_ble_eq_true rfl) rfl ?_
  exact L 62 0 _ (by omega) (by omega) (fun k hk => h4 k (by omega) (by omega)) rfl
set_option maxRecDepth 100000 in
set_option maxHeartbeats 4000000 in
theorem ct_X10_faults (n : Nat) (w se sp hr lt hd sc : Int32) (so fi wo : Nat → Int32) (I : Nat → Int32) (A : Nat → Nat → Int32) (B : Nat → Nat → Int64) (K : Value) (h_S : Good (n, w, se, sp, hr, lt, hd, sc, so, fi, wo)) : e_Ct yX10_faults cX10_faults 3 (some .int) 3 [.ref 0] (mH (n, w, se, sp, hr, lt, hd, sc, so, fi, wo) (I, A, B, K)) (e_eq (some (.int (faultsF (n, w, se, sp, hr, lt, hd, sc, so, fi, wo)))) (mH (n, w, se, sp, hr, lt, hd, sc, so, fi, wo) (I, A, B, K))) := by
  refine e_open RX10 rfl (by decide +kernel) rfl (fun _ => Nat.le_of_ble_eq_true rfl) (fun x X F => ?_)
  have hn : n ≤ 10 := h_S.1
  have L : ∀ (k j : Nat) (a : Int32), n - j < k → j ≤ 10 → faultsF (n, w, se, sp, hr, lt, hd, sc, so, fi, wo) = itr (fun a b => if leadsF (n, w, se, sp, hr, lt, hd, sc, so, fi, wo) b (hr + 1) then a else a ||| bitI b) a j (n - j) → e_E x 4 [some (.ref 0), some (.int a), some (.int (nI j))] [] (mH (n, w, se, sp, hr, lt, hd, sc, so, fi, wo) (I, A, B, K)) := by
    intro k
    induction k with
    | zero => intro j a hk; exact absurd hk (Nat.not_lt_zero _)
    | succ k ih =>
      intro j a hk hj hv
      refine ei_iload_n X dX10_faults_4 rfl rfl ?_
      refine ei_aload_n X dX10_faults_5 rfl rfl ?_
      refine ei_getf X fl_RX10_81 dX10_faults_6 rfl rfl ?_
      refine ei_icmpn_ge (tgt := 42) X dX10_faults_9 (by decide) (by first | omega | assumption) (by first | omega | assumption) (fun cq9 => ?_) (fun cq9 => ?_)
      · refine ei_iload_n X dX10_faults_42 rfl rfl ?_
        refine ei_ireturn X F dX10_faults_43 ?_
        exact ⟨by rw [hv, itr_ge _ _ cq9], rfl⟩
      · refine ei_iload_n X dX10_faults_12 rfl rfl ?_
        refine ei_aload_n X dX10_faults_13 rfl rfl ?_
        refine ei_iload_n X dX10_faults_14 rfl rfl ?_
        refine ei_aload_n X dX10_faults_15 rfl rfl ?_
        refine ei_getf X fl_RX10_105 dX10_faults_16 rfl rfl ?_
        refine ei_iconst (v := 1) X dX10_faults_19 rfl ?_
        refine ei_iadd X dX10_faults_20 ?_
        refine ei_callI1 X ml_RX10_102 dX10_faults_21 (ct_X10_leads _ _ _ _ _ _ _ _ _ _ _ _ _ _ _ _ _ (by first | omega | assumption) (by first | omega | assumption)) rfl rfl (by decide) (by decide) rfl (Nat.le_of_ble_eq_true rfl) ?_
        refine ei_ifz_eq (tgt := 31) X dX10_faults_24 (by decide) (fun cq24 => ?_) (fun cq24 => ?_)
        · refine ei_iconst (v := 1) X dX10_faults_31 rfl ?_
          refine ei_iload_n X dX10_faults_32 rfl rfl ?_
          refine ei_ishl X dX10_faults_33 ?_
          refine ei_ior X dX10_faults_34 ?_
          refine ei_istore_n X dX10_faults_35 rfl (Nat.le_of_ble_eq_true rfl) rfl ?_
          refine ei_iinc_n X dX10_faults_36 rfl rfl ?_
          refine ei_goto (tgt := 4) X dX10_faults_39 (by decide) ?_
          exact ih (j + 1) _ (by omega) (by omega) (by rw [hv, itr_lt _ _ (by omega), if_neg (by rw [cq24]; exact Bool.false_ne_true)])
        · refine ei_iconst (v := 0) X dX10_faults_27 rfl ?_
          refine ei_goto (tgt := 34) X dX10_faults_28 (by decide) ?_
          refine ei_ior X dX10_faults_34 ?_
          refine ei_istore_n X dX10_faults_35 rfl (Nat.le_of_ble_eq_true rfl) rfl ?_
          refine ei_iinc_n X dX10_faults_36 rfl rfl ?_
          refine ei_goto (tgt := 4) X dX10_faults_39 (by decide) ?_
          rw [or_0]
          exact ih (j + 1) _ (by omega) (by omega) (by rw [hv, itr_lt _ _ (by omega), if_pos cq24])
  refine ei_iconst (v := 0) X dX10_faults_0 rfl ?_
  refine ei_istore_n X dX10_faults_1 rfl (Nat.le_of_ble_eq_true rfl) rfl ?_
  refine ei_iconst (v := 0) X dX10_faults_2 rfl ?_
  refine ei_istore_n X dX10_faults_3 rfl (Nat.le_of_ble_eq_true rfl) rfl ?_
  exact L (n + 1) 0 0 (by omega) (by omega) rfl
set_option maxRecDepth 100000 in
set_option maxHeartbeats 4000000 in
theorem ct_X10_browns (n : Nat) (w se sp hr lt hd sc : Int32) (so fi wo : Nat → Int32) (I : Nat → Int32) (A : Nat → Nat → Int32) (B : Nat → Nat → Int64) (K : Value) (h_S : Good (n, w, se, sp, hr, lt, hd, sc, so, fi, wo)) : e_Ct yX10_browns cX10_browns 3 (some .int) 3 [.ref 0] (mH (n, w, se, sp, hr, lt, hd, sc, so, fi, wo) (I, A, B, K)) (e_eq (some (.int (brownsF (n, w, se, sp, hr, lt, hd, sc, so, fi, wo)))) (mH (n, w, se, sp, hr, lt, hd, sc, so, fi, wo) (I, A, B, K))) := by
  refine e_open RX10 rfl (by decide +kernel) rfl (fun _ => Nat.le_of_ble_eq_true rfl) (fun x X F => ?_)
  have hn : n ≤ 10 := h_S.1
  have L : ∀ (k j : Nat) (a : Int32), n - j < k → j ≤ 10 → brownsF (n, w, se, sp, hr, lt, hd, sc, so, fi, wo) = itr (fun a b => if brownF (n, w, se, sp, hr, lt, hd, sc, so, fi, wo) b then a ||| bitI b else a) a j (n - j) → e_E x 4 [some (.ref 0), some (.int a), some (.int (nI j))] [] (mH (n, w, se, sp, hr, lt, hd, sc, so, fi, wo) (I, A, B, K)) := by
    intro k
    induction k with
    | zero => intro j a hk; exact absurd hk (Nat.not_lt_zero _)
    | succ k ih =>
      intro j a hk hj hv
      refine ei_iload_n X dX10_browns_4 rfl rfl ?_
      refine ei_aload_n X dX10_browns_5 rfl rfl ?_
      refine ei_getf X fl_RX10_81 dX10_browns_6 rfl rfl ?_
      refine ei_icmpn_ge (tgt := 36) X dX10_browns_9 (by decide) (by first | omega | assumption) (by first | omega | assumption) (fun cq9 => ?_) (fun cq9 => ?_)
      · refine ei_iload_n X dX10_browns_36 rfl rfl ?_
        refine ei_ireturn X F dX10_browns_37 ?_
        exact ⟨by rw [hv, itr_ge _ _ cq9], rfl⟩
      · refine ei_iload_n X dX10_browns_12 rfl rfl ?_
        refine ei_aload_n X dX10_browns_13 rfl rfl ?_
        refine ei_iload_n X dX10_browns_14 rfl rfl ?_
        refine ei_callI1 X ml_RX10_138 dX10_browns_15 (ct_X10_isBrown _ _ _ _ _ _ _ _ _ _ _ _ _ _ _ _ (by first | omega | assumption) (by first | omega | assumption)) rfl rfl (by decide) (by decide) rfl (Nat.le_of_ble_eq_true rfl) ?_
        refine ei_ifz_eq (tgt := 27) X dX10_browns_18 (by decide) (fun cq18 => ?_) (fun cq18 => ?_)
        · refine ei_iconst (v := 0) X dX10_browns_27 rfl ?_
          refine ei_ior X dX10_browns_28 ?_
          refine ei_istore_n X dX10_browns_29 rfl (Nat.le_of_ble_eq_true rfl) rfl ?_
          refine ei_iinc_n X dX10_browns_30 rfl rfl ?_
          refine ei_goto (tgt := 4) X dX10_browns_33 (by decide) ?_
          rw [or_0]
          exact ih (j + 1) _ (by omega) (by omega) (by rw [hv, itr_lt _ _ (by omega), if_neg (by rw [cq18]; exact Bool.false_ne_true)])
        · refine ei_iconst (v := 1) X dX10_browns_21 rfl ?_
          refine ei_iload_n X dX10_browns_22 rfl rfl ?_
          refine ei_ishl X dX10_browns_23 ?_
          refine ei_goto (tgt := 28) X dX10_browns_24 (by decide) ?_
          refine ei_ior X dX10_browns_28 ?_
          refine ei_istore_n X dX10_browns_29 rfl (Nat.le_of_ble_eq_true rfl) rfl ?_
          refine ei_iinc_n X dX10_browns_30 rfl rfl ?_
          refine ei_goto (tgt := 4) X dX10_browns_33 (by decide) ?_
          exact ih (j + 1) _ (by omega) (by omega) (by rw [hv, itr_lt _ _ (by omega), if_pos cq18])
  refine ei_iconst (v := 0) X dX10_browns_0 rfl ?_
  refine ei_istore_n X dX10_browns_1 rfl (Nat.le_of_ble_eq_true rfl) rfl ?_
  refine ei_iconst (v := 0) X dX10_browns_2 rfl ?_
  refine ei_istore_n X dX10_browns_3 rfl (Nat.le_of_ble_eq_true rfl) rfl ?_
  exact L (n + 1) 0 0 (by omega) (by omega) rfl
set_option maxRecDepth 100000 in
set_option maxHeartbeats 4000000 in
theorem ct_X10_dark (n : Nat) (w se sp hr lt hd sc : Int32) (so fi wo : Nat → Int32) (I : Nat → Int32) (A : Nat → Nat → Int32) (B : Nat → Nat → Int64) (K : Value) (h_S : Good (n, w, se, sp, hr, lt, hd, sc, so, fi, wo)) (h_M : mI (I, A, B, K)) : e_Ct yX10_dark cX10_dark 3 (some .int) 6 [.ref 0] (mH (n, w, se, sp, hr, lt, hd, sc, so, fi, wo) (I, A, B, K)) (mP (some (.int (darkF (n, w, se, sp, hr, lt, hd, sc, so, fi, wo)))) (n, w, se, sp, hr, lt, hd, sc, so, fi, wo) (I, A, B, K)) := by
  refine e_open RX10 rfl (by decide +kernel) rfl (fun _ => Nat.le_of_ble_eq_true rfl) (fun x X F => ?_)
  obtain ⟨i11, i12⟩ := h_M
  simp only at i11 i12
  have R : ∀ (v : Int32) (S2 : St) (J2 : Nat → Int32), darkF (n, w, se, sp, hr, lt, hd, sc, so, fi, wo) = v → (∀ k, k = 11 ∨ k = 12 ∨ k = 30 → J2 k = I k) → e_E x 44 [some (.ref 0), some (.int v), none] [] (mH S2 (J2, updA A 13 (encF (n, w, se, sp, hr, lt, hd, sc, so, fi, wo)), B, .ref 13)) := by
    intro v S2 J2 hv hJ2
    obtain ⟨n3, w3, se3, sp3, hr3, lt3, hd3, sc3, so3, fi3, wo3⟩ := S2
    refine ei_aload_n X dX10_dark_44 rfl rfl ?_
    refine ei_callI X ml_RX10_231 dX10_dark_45 (ct_X10_again _ _ _ _ _ _ _ _ _ _ _ n w se sp hr lt hd sc so fi wo _ _ _ _ updA_on) rfl rfl (by decide) (by decide) rfl (Nat.le_of_ble_eq_true rfl) (fun r h2 hp => ?_)
    obtain ⟨rfl, J45, h45, rfl⟩ := hp
    refine ei_iload_n X dX10_dark_48 rfl rfl ?_
    refine ei_ireturn X F dX10_dark_49 ?_
    exact ⟨by rw [hv], (J45, updA A 13 (encF (n, w, se, sp, hr, lt, hd, sc, so, fi, wo)), B, .ref 13), kM_13 (fun k hk => by rw [h45 k (by omega) (by omega)]; exact hJ2 k hk), rfl⟩
  have R9 : ∀ (a i : Nat) (S2 : St) (J2 : Nat → Int32), darkF (n, w, se, sp, hr, lt, hd, sc, so, fi, wo) = nI a → a < 100 → i < 100 → (∀ k, k = 11 ∨ k = 12 ∨ k = 30 → J2 k = I k) → e_E x 14 [some (.ref 0), some (.int (nI a)), some (.int (nI i))] [] (mH S2 (J2, updA A 13 (encF (n, w, se, sp, hr, lt, hd, sc, so, fi, wo)), B, .ref 13)) := by
    intro a i S2 J2 ha ha2 hi hJ2
    refine ei_iload_n X dX10_dark_14 rfl rfl ?_
    refine ei_bipush (v := nI 60) X dX10_dark_15 rfl ?_
    refine ei_icmpn_gt (tgt := 44) X dX10_dark_17 (by decide) (by first | omega | assumption) (by first | omega | assumption) (fun cq17 => ?_) (fun cq17 => ?_)
    · refine ei_drop 2 ?_
      exact R _ _ _ ha hJ2
    · refine ei_iload_n X dX10_dark_20 rfl rfl ?_
      refine ei_if_ge (tgt := 44) X dX10_dark_21 (by decide) (fun cq21 => ?_) (fun cq21 => ?_)
      · refine ei_drop 2 ?_
        exact R _ _ _ ha hJ2
      · exact absurd (nI_pos' (by omega)) cq21
  have L : ∀ (k j : Nat) (J : Nat → Int32), 61 - j < k → 1 ≤ j → j ≤ 61 → (∀ k, k = 11 ∨ k = 12 ∨ k = 30 → J k = I k) → darkN (n, w, se, sp, hr, lt, hd, sc, so, fi, wo) = firstN (fun k => !hourB (hoursS (n, w, se, sp, hr, lt, hd, sc, so, fi, wo) k)) (j - 1) (60 - (j - 1)) → e_E x 14 [some (.ref 0), some (.int (-4)), some (.int (nI j))] [] (mH (hoursS (n, w, se, sp, hr, lt, hd, sc, so, fi, wo) (j - 1)) (J, updA A 13 (encF (n, w, se, sp, hr, lt, hd, sc, so, fi, wo)), B, .ref 13)) := by
    intro k
    induction k with
    | zero => intro j J hk; exact absurd hk (Nat.not_lt_zero _)
    | succ k ih =>
      intro j J hk hj1 hj hJ hv
      obtain ⟨w2, se2, hr2, lt2, wo2, e2⟩ := hours_ex (n, w, se, sp, hr, lt, hd, sc, so, fi, wo) (j - 1)
      simp only [sN, sW, sE, sP, sH, sL, sD, sC, sO, sG, sR] at e2
      have e3 : hoursS (n, w, se, sp, hr, lt, hd, sc, so, fi, wo) (j + 1 - 1) = hourS (hoursS (n, w, se, sp, hr, lt, hd, sc, so, fi, wo) (j - 1)) 1 := by rw [show j + 1 - 1 = (j - 1) + 1 by omega]; exact hours_s _ _
      have hg := good_at h_S (j - 1)
      have e4 : j - 1 + 1 = j := by omega
      have j12 := (hJ 12 (by omega)).trans i12
      have j11 := (hJ 11 (by omega)).trans i11
      have hx := e2
      rw [e2] at e3 hg ⊢
      refine ei_iload_n X dX10_dark_14 rfl rfl ?_
      refine ei_bipush (v := nI 60) X dX10_dark_15 rfl ?_
      refine ei_icmpn_gt (tgt := 44) X dX10_dark_17 (by decide) (by first | omega | assumption) (by first | omega | assumption) (fun cq17 => ?_) (fun cq17 => ?_)
      · refine ei_drop 2 ?_
        exact R (-4) _ _ (by unfold darkF; rw [hv, firstN_e (by omega), if_pos (by omega)]) hJ
      · refine ei_iload_n X dX10_dark_20 rfl rfl ?_
        refine ei_if_ge (tgt := 44) X dX10_dark_21 (by decide) (fun cq21 => ?_) (fun cq21 => ?_)
        · exact absurd cq21 (by decide)
        · refine ei_aload_n X dX10_dark_24 rfl rfl ?_
          refine ei_callI1 X ml_RX10_134 dX10_dark_25 (ct_X10_hourOn _ _ _ _ _ _ _ _ _ _ _ _ _ _ _ hg (Or.inl j12) j11) rfl rfl (by decide) (by decide) rfl (Nat.le_of_ble_eq_true rfl) ?_
          rw [j12]
          refine ei_ifz_eq (tgt := 36) X dX10_dark_28 (by decide) (fun cq28 => ?_) (fun cq28 => ?_)
          · refine ei_iload_n X dX10_dark_36 rfl rfl ?_
            refine ei_istore_n X dX10_dark_37 rfl (Nat.le_of_ble_eq_true rfl) rfl ?_
            refine ei_iinc_n X dX10_dark_38 rfl rfl ?_
            refine ei_goto (tgt := 14) X dX10_dark_41 (by decide) ?_
            exact R9 j (j + 1) _ _ (by unfold darkF; rw [hv, firstN_t (by omega) (by rw [hx, cq28]; rfl), if_neg (by omega), e4]) (by omega) (by omega) (fun k hk => by rw [burnI_off (by omega)]; exact hJ k hk)
          · refine ei_bipush (v := -4) X dX10_dark_31 rfl ?_
            refine ei_goto (tgt := 37) X dX10_dark_33 (by decide) ?_
            refine ei_istore_n X dX10_dark_37 rfl (Nat.le_of_ble_eq_true rfl) rfl ?_
            refine ei_iinc_n X dX10_dark_38 rfl rfl ?_
            refine ei_goto (tgt := 14) X dX10_dark_41 (by decide) ?_
            have h9 := ih (j + 1) (burnI J (hourB (n, w2, se2, sp, hr2, lt2, hd, sc, so, fi, wo2)) (wholeN w2 0 n)) (by omega) (by omega) (by omega) (fun k hk => by rw [burnI_off (by omega)]; exact hJ k hk) (by rw [hv, firstN_f (by omega) (by rw [hx, cq28]; rfl)]; congr 1; omega)
            rw [e3] at h9
            exact h9
  refine ei_aload_n X dX10_dark_0 rfl rfl ?_
  refine ei_iconst (v := 0) X dX10_dark_1 rfl ?_
  refine ei_puti X fp_RX10_78 dX10_dark_2 rfl (Nat.le_of_ble_eq_true rfl) (pm_20 _ _ _ _ _ _ _ _ _ _ _ _ _ _ _ _) ?_
  refine ei_bipush (v := -4) X dX10_dark_5 rfl ?_
  refine ei_istore_n X dX10_dark_7 rfl (Nat.le_of_ble_eq_true rfl) rfl ?_
  refine ei_aload_n X dX10_dark_8 rfl rfl ?_
  refine ei_callI X ml_RX10_225 dX10_dark_9 (ct_X10_think _ _ _ _ _ _ _ _ _ _ _ _ _ _ _) rfl rfl (by decide) (by decide) rfl (Nat.le_of_ble_eq_true rfl) (fun r h2 hp => ?_)
  obtain ⟨rfl, J9, h9, rfl⟩ := hp
  refine ei_iconst (v := nI 1) X dX10_dark_12 rfl ?_
  refine ei_istore_n X dX10_dark_13 rfl (Nat.le_of_ble_eq_true rfl) rfl ?_
  exact L 61 1 _ (by omega) (by omega) (by omega) (fun k hk => by rw [h9 k (by omega) (by omega), pk_un (by omega)]) rfl
set_option maxRecDepth 100000 in
set_option maxHeartbeats 4000000 in
theorem ct_X10_longest (n : Nat) (w se sp hr lt hd sc : Int32) (so fi wo : Nat → Int32) (I : Nat → Int32) (A : Nat → Nat → Int32) (B : Nat → Nat → Int64) (K : Value) (h_S : Good (n, w, se, sp, hr, lt, hd, sc, so, fi, wo)) (h_12 : I 12 = 1) (h_11 : I 11 = 0) : e_Ct yX10_longest cX10_longest 4 (some .int) 6 [.ref 0] (mH (n, w, se, sp, hr, lt, hd, sc, so, fi, wo) (I, A, B, K)) (fun r h => r = some (.int (longF (n, w, se, sp, hr, lt, hd, sc, so, fi, wo))) ∧ ∃ J, (∀ k, k = 11 ∨ k = 12 ∨ k = 30 ∨ k = 20 → J k = I k) ∧ h = mH (n, w, se, sp, hr, lt, hd, sc, so, fi, wo) (J, updA A 13 (encF (n, w, se, sp, hr, lt, hd, sc, so, fi, wo)), B, .ref 13)) := by
  refine e_open RX10 rfl (by decide +kernel) rfl (fun _ => Nat.le_of_ble_eq_true rfl) (fun x X F => ?_)
  have L : ∀ (k j : Nat) (a b : Int32) (J : Nat → Int32), 60 - j < k → j ≤ 60 → (∀ k, k = 11 ∨ k = 12 ∨ k = 30 ∨ k = 20 → J k = I k) → longF (n, w, se, sp, hr, lt, hd, sc, so, fi, wo) = (itr (long1 (n, w, se, sp, hr, lt, hd, sc, so, fi, wo)) (b, a) j (60 - j)).2 → e_E x 10 [some (.ref 0), some (.int a), some (.int b), some (.int (nI j))] [] (mH (hoursS (n, w, se, sp, hr, lt, hd, sc, so, fi, wo) j) (J, updA A 13 (encF (n, w, se, sp, hr, lt, hd, sc, so, fi, wo)), B, .ref 13)) := by
    intro k
    induction k with
    | zero => intro j a b J hk; exact absurd hk (Nat.not_lt_zero _)
    | succ k ih =>
      intro j a b J hk hj hJ hv
      obtain ⟨w2, se2, hr2, lt2, wo2, e2⟩ := hours_ex (n, w, se, sp, hr, lt, hd, sc, so, fi, wo) j
      simp only [sN, sW, sE, sP, sH, sL, sD, sC, sO, sG, sR] at e2
      have e3 : hoursS (n, w, se, sp, hr, lt, hd, sc, so, fi, wo) (j + 1) = hourS (hoursS (n, w, se, sp, hr, lt, hd, sc, so, fi, wo) j) 1 := hours_s _ _
      have hg := good_at h_S j
      have hx := e2
      have j12 := (hJ 12 (by omega)).trans h_12
      have j11 := (hJ 11 (by omega)).trans h_11
      rw [e2] at e3 hg ⊢
      refine ei_iload_n X dX10_longest_10 rfl rfl ?_
      refine ei_bipush (v := nI 60) X dX10_longest_11 rfl ?_
      refine ei_icmpn_ge (tgt := 48) X dX10_longest_13 (by decide) (by first | omega | assumption) (by first | omega | assumption) (fun cq13 => ?_) (fun cq13 => ?_)
      · refine ei_aload_n X dX10_longest_48 rfl rfl ?_
        refine ei_callI X ml_RX10_231 dX10_longest_49 (ct_X10_again _ _ _ _ _ _ _ _ _ _ _ n w se sp hr lt hd sc so fi wo _ _ _ _ updA_on) rfl rfl (by decide) (by decide) rfl (Nat.le_of_ble_eq_true rfl) (fun r h2 hp => ?_)
        obtain ⟨rfl, J49, h49, rfl⟩ := hp
        refine ei_iload_n X dX10_longest_52 rfl rfl ?_
        refine ei_ireturn X F dX10_longest_53 ?_
        exact ⟨by rw [hv, itr_ge _ _ cq13], J49, fun k hk => by rw [h49 k (by omega) (by omega)]; exact hJ k hk, rfl⟩
      · refine ei_aload_n X dX10_longest_16 rfl rfl ?_
        refine ei_callI1 X ml_RX10_134 dX10_longest_17 (ct_X10_hourOn _ _ _ _ _ _ _ _ _ _ _ _ _ _ _ hg (Or.inl j12) j11) rfl rfl (by decide) (by decide) rfl (Nat.le_of_ble_eq_true rfl) ?_
        rw [j12]
        refine ei_ifz_eq (tgt := 29) X dX10_longest_20 (by decide) (fun cq20 => ?_) (fun cq20 => ?_)
        · refine ei_iconst (v := 0) X dX10_longest_29 rfl ?_
          refine ei_istore_n X dX10_longest_30 rfl (Nat.le_of_ble_eq_true rfl) rfl ?_
          refine ei_iload_n X dX10_longest_31 rfl rfl ?_
          refine ei_iload_n X dX10_longest_32 rfl rfl ?_
          refine ei_icmp_le (tgt := 40) X dX10_longest_33 (by decide) (fun cq33 => ?_) (fun cq33 => ?_)
          · refine ei_iload_n X dX10_longest_40 rfl rfl ?_
            refine ei_istore_n X dX10_longest_41 rfl (Nat.le_of_ble_eq_true rfl) rfl ?_
            refine ei_iinc_n X dX10_longest_42 rfl rfl ?_
            refine ei_goto (tgt := 10) X dX10_longest_45 (by decide) ?_
            have h9 := ih (j + 1) a 0 (burnI J (hourB (n, w2, se2, sp, hr2, lt2, hd, sc, so, fi, wo2)) (wholeN w2 0 n)) (by omega) (by omega) (fun k hk => by rw [burnI_off (by omega)]; exact hJ k hk) (by rw [hv, itr_lt _ _ (by omega)]; congr 2; simp only [long1, hx, cq20, Bool.false_eq_true, if_false]; rw [if_neg (Int32.not_lt.mpr cq33)])
            rw [e3] at h9
            exact h9
          · refine ei_iload_n X dX10_longest_36 rfl rfl ?_
            refine ei_goto (tgt := 41) X dX10_longest_37 (by decide) ?_
            refine ei_istore_n X dX10_longest_41 rfl (Nat.le_of_ble_eq_true rfl) rfl ?_
            refine ei_iinc_n X dX10_longest_42 rfl rfl ?_
            refine ei_goto (tgt := 10) X dX10_longest_45 (by decide) ?_
            have h9 := ih (j + 1) 0 0 (burnI J (hourB (n, w2, se2, sp, hr2, lt2, hd, sc, so, fi, wo2)) (wholeN w2 0 n)) (by omega) (by omega) (fun k hk => by rw [burnI_off (by omega)]; exact hJ k hk) (by rw [hv, itr_lt _ _ (by omega)]; congr 2; simp only [long1, hx, cq20, Bool.false_eq_true, if_false]; rw [if_pos (Int32.not_le.mp cq33)])
            rw [e3] at h9
            exact h9
        · refine ei_iload_n X dX10_longest_23 rfl rfl ?_
          refine ei_iconst (v := 1) X dX10_longest_24 rfl ?_
          refine ei_iadd X dX10_longest_25 ?_
          refine ei_goto (tgt := 30) X dX10_longest_26 (by decide) ?_
          refine ei_istore_n X dX10_longest_30 rfl (Nat.le_of_ble_eq_true rfl) rfl ?_
          refine ei_iload_n X dX10_longest_31 rfl rfl ?_
          refine ei_iload_n X dX10_longest_32 rfl rfl ?_
          refine ei_icmp_le (tgt := 40) X dX10_longest_33 (by decide) (fun cq33 => ?_) (fun cq33 => ?_)
          · refine ei_iload_n X dX10_longest_40 rfl rfl ?_
            refine ei_istore_n X dX10_longest_41 rfl (Nat.le_of_ble_eq_true rfl) rfl ?_
            refine ei_iinc_n X dX10_longest_42 rfl rfl ?_
            refine ei_goto (tgt := 10) X dX10_longest_45 (by decide) ?_
            have h9 := ih (j + 1) a (b + 1) (burnI J (hourB (n, w2, se2, sp, hr2, lt2, hd, sc, so, fi, wo2)) (wholeN w2 0 n)) (by omega) (by omega) (fun k hk => by rw [burnI_off (by omega)]; exact hJ k hk) (by rw [hv, itr_lt _ _ (by omega)]; congr 2; simp only [long1, hx, cq20, if_true]; rw [if_neg (Int32.not_lt.mpr cq33)])
            rw [e3] at h9
            exact h9
          · refine ei_iload_n X dX10_longest_36 rfl rfl ?_
            refine ei_goto (tgt := 41) X dX10_longest_37 (by decide) ?_
            refine ei_istore_n X dX10_longest_41 rfl (Nat.le_of_ble_eq_true rfl) rfl ?_
            refine ei_iinc_n X dX10_longest_42 rfl rfl ?_
            refine ei_goto (tgt := 10) X dX10_longest_45 (by decide) ?_
            have h9 := ih (j + 1) (b + 1) (b + 1) (burnI J (hourB (n, w2, se2, sp, hr2, lt2, hd, sc, so, fi, wo2)) (wholeN w2 0 n)) (by omega) (by omega) (fun k hk => by rw [burnI_off (by omega)]; exact hJ k hk) (by rw [hv, itr_lt _ _ (by omega)]; congr 2; simp only [long1, hx, cq20, if_true]; rw [if_pos (Int32.not_le.mp cq33)])
            rw [e3] at h9
            exact h9
  refine ei_iconst (v := 0) X dX10_longest_0 rfl ?_
  refine ei_istore_n X dX10_longest_1 rfl (Nat.le_of_ble_eq_true rfl) rfl ?_
  refine ei_iconst (v := 0) X dX10_longest_2 rfl ?_
  refine ei_istore_n X dX10_longest_3 rfl (Nat.le_of_ble_eq_true rfl) rfl ?_
  refine ei_aload_n X dX10_longest_4 rfl rfl ?_
  refine ei_callI X ml_RX10_225 dX10_longest_5 (ct_X10_think _ _ _ _ _ _ _ _ _ _ _ _ _ _ _) rfl rfl (by decide) (by decide) rfl (Nat.le_of_ble_eq_true rfl) (fun r h2 hp => ?_)
  obtain ⟨rfl, J5, h5, rfl⟩ := hp
  refine ei_iconst (v := 0) X dX10_longest_8 rfl ?_
  refine ei_istore_n X dX10_longest_9 rfl (Nat.le_of_ble_eq_true rfl) rfl ?_
  exact L 61 0 0 0 _ (by omega) (by omega) (fun k hk => h5 k (by omega) (by omega)) rfl
set_option maxRecDepth 100000 in
set_option maxHeartbeats 4000000 in
theorem ct_X10_weakest (n : Nat) (w se sp hr lt hd sc : Int32) (so fi wo : Nat → Int32) (I : Nat → Int32) (A : Nat → Nat → Int32) (B : Nat → Nat → Int64) (K : Value) (h_S : Good (n, w, se, sp, hr, lt, hd, sc, so, fi, wo)) : e_Ct yX10_weakest cX10_weakest 3 (some .int) 2 [.ref 0] (mH (n, w, se, sp, hr, lt, hd, sc, so, fi, wo) (I, A, B, K)) (e_eq (some (.int (weakF (n, w, se, sp, hr, lt, hd, sc, so, fi, wo)))) (mH (n, w, se, sp, hr, lt, hd, sc, so, fi, wo) (I, A, B, K))) := by
  refine e_open RX10 rfl (by decide +kernel) rfl (fun _ => Nat.le_of_ble_eq_true rfl) (fun x X F => ?_)
  have hn : n ≤ 10 := h_S.1
  have L : ∀ (k j : Nat) (q : Int32 × Int32), n - j < k → j ≤ 10 → (q.1 = -4 ∨ ∃ a, a < n ∧ q.1 = nI a ∧ q.2 = lifeS (n, w, se, sp, hr, lt, hd, sc, so, fi, wo) a - wo a) → weakF (n, w, se, sp, hr, lt, hd, sc, so, fi, wo) = (itr (weak1 (n, w, se, sp, hr, lt, hd, sc, so, fi, wo)) q j (n - j)).1 → e_E x 5 [some (.ref 0), some (.int q.1), some (.int (nI j))] [] (mH (n, w, se, sp, hr, lt, hd, sc, so, fi, wo) (I, A, B, K)) := by
    intro k
    induction k with
    | zero => intro j q hk; exact absurd hk (Nat.not_lt_zero _)
    | succ k ih =>
      intro j q hk hj hq hv
      refine ei_iload_n X dX10_weakest_5 rfl rfl ?_
      refine ei_aload_n X dX10_weakest_6 rfl rfl ?_
      refine ei_getf X fl_RX10_81 dX10_weakest_7 rfl rfl ?_
      refine ei_icmpn_ge (tgt := 67) X dX10_weakest_10 (by decide) (by first | omega | assumption) (by first | omega | assumption) (fun cq10 => ?_) (fun cq10 => ?_)
      · refine ei_iload_n X dX10_weakest_67 rfl rfl ?_
        refine ei_ireturn X F dX10_weakest_68 ?_
        exact ⟨by rw [hv, itr_ge _ _ cq10], rfl⟩
      · refine ei_aload_n X dX10_weakest_13 rfl rfl ?_
        refine ei_getf X fl_RX10_88 dX10_weakest_14 rfl rfl ?_
        refine ei_iload_n X dX10_weakest_17 rfl rfl ?_
        refine ei_callT1 X ml_RX10_91 dX10_weakest_18 (ct_X10_hasBit _ _ _) rfl rfl (by decide) (by decide) (Nat.le_of_ble_eq_true rfl) ?_
        refine ei_ifz_eq (tgt := 59) X dX10_weakest_21 (by decide) (fun cq21 => ?_) (fun cq21 => ?_)
        · refine ei_iload_n X dX10_weakest_59 rfl rfl ?_
          refine ei_istore_n X dX10_weakest_60 rfl (Nat.le_of_ble_eq_true rfl) rfl ?_
          refine ei_iinc_n X dX10_weakest_61 rfl rfl ?_
          refine ei_goto (tgt := 5) X dX10_weakest_64 (by decide) ?_
          exact ih (j + 1) q (by omega) (by omega) hq (by rw [hv, itr_lt _ _ (by omega), show weak1 (n, w, se, sp, hr, lt, hd, sc, so, fi, wo) q j = q from by simp [weak1, sN, sW, sE, sP, sH, sL, sD, sC, sO, sG, sR, cq21]])
        · refine ei_iload_n X dX10_weakest_24 rfl rfl ?_
          refine ei_if_lt (tgt := 55) X dX10_weakest_25 (by decide) (fun cq25 => ?_) (fun cq25 => ?_)
          · refine ei_iload_n X dX10_weakest_55 rfl rfl ?_
            refine ei_goto (tgt := 60) X dX10_weakest_56 (by decide) ?_
            refine ei_istore_n X dX10_weakest_60 rfl (Nat.le_of_ble_eq_true rfl) rfl ?_
            refine ei_iinc_n X dX10_weakest_61 rfl rfl ?_
            refine ei_goto (tgt := 5) X dX10_weakest_64 (by decide) ?_
            exact ih (j + 1) (nI j, lifeS (n, w, se, sp, hr, lt, hd, sc, so, fi, wo) j - wo j) (by omega) (by omega) (Or.inr ⟨j, by omega, rfl, rfl⟩) (by rw [hv, itr_lt _ _ (by omega), show weak1 (n, w, se, sp, hr, lt, hd, sc, so, fi, wo) q j = (nI j, lifeS (n, w, se, sp, hr, lt, hd, sc, so, fi, wo) j - wo j) from by have h1 : q.1 = -4 := hq.resolve_right (fun ⟨a, ha, hqa, _⟩ => Int32.not_lt.mpr (nI_pos' (by omega) : 0 ≤ nI a) (hqa ▸ cq25)); simp [weak1, sN, sW, sE, sP, sH, sL, sD, sC, sO, sG, sR, cq21, h1]])
          · obtain ⟨a, ha, hqa, hqb⟩ : ∃ a, a < n ∧ q.1 = nI a ∧ q.2 = lifeS (n, w, se, sp, hr, lt, hd, sc, so, fi, wo) a - wo a := hq.resolve_left (fun z => cq25 (by rw [z]; decide))
            rw [hqa]
            refine ei_aload_n X dX10_weakest_28 rfl rfl ?_
            refine ei_iload_n X dX10_weakest_29 rfl rfl ?_
            refine ei_callI1 X ml_RX10_98 dX10_weakest_30 (ct_X10_lifeOf _ _ _ _ _ _ _ _ _ _ _ _ _ _ _ _ (by first | omega | assumption) (by first | omega | assumption)) rfl rfl (by decide) (by decide) rfl (Nat.le_of_ble_eq_true rfl) ?_
            refine ei_aload_n X dX10_weakest_33 rfl rfl ?_
            refine ei_getf X fl_RX10_16 dX10_weakest_34 rfl rfl ?_
            refine ei_iload_n X dX10_weakest_37 rfl rfl ?_
            refine ei_iaload_n X dX10_weakest_38 rfl (by first | omega | assumption) (by decide) ?_
            refine ei_isub X dX10_weakest_39 ?_
            refine ei_aload_n X dX10_weakest_40 rfl rfl ?_
            refine ei_iload_n X dX10_weakest_41 rfl rfl ?_
            refine ei_callI1 X ml_RX10_98 dX10_weakest_42 (ct_X10_lifeOf _ _ _ _ _ _ _ _ _ _ _ _ _ _ _ _ (by first | omega | assumption) (by first | omega | assumption)) rfl rfl (by decide) (by decide) rfl (Nat.le_of_ble_eq_true rfl) ?_
            refine ei_aload_n X dX10_weakest_45 rfl rfl ?_
            refine ei_getf X fl_RX10_16 dX10_weakest_46 rfl rfl ?_
            refine ei_iload_n X dX10_weakest_49 rfl rfl ?_
            refine ei_iaload_n X dX10_weakest_50 rfl (by first | omega | assumption) (by decide) ?_
            refine ei_isub X dX10_weakest_51 ?_
            refine ei_icmp_ge (tgt := 59) X dX10_weakest_52 (by decide) (fun cq52 => ?_) (fun cq52 => ?_)
            · refine ei_iload_n X dX10_weakest_59 rfl rfl ?_
              refine ei_istore_n X dX10_weakest_60 rfl (Nat.le_of_ble_eq_true rfl) rfl ?_
              refine ei_iinc_n X dX10_weakest_61 rfl rfl ?_
              refine ei_goto (tgt := 5) X dX10_weakest_64 (by decide) ?_
              rw [← hqa]
              exact ih (j + 1) q (by omega) (by omega) hq (by rw [hv, itr_lt _ _ (by omega), show weak1 (n, w, se, sp, hr, lt, hd, sc, so, fi, wo) q j = q from by have h1 : ¬ q.1 = -4 := (fun z => cq25 (by rw [z]; decide)); have h2 : ¬ lifeS (n, w, se, sp, hr, lt, hd, sc, so, fi, wo) j - sR (n, w, se, sp, hr, lt, hd, sc, so, fi, wo) j < q.2 := (by rw [hqb]; exact Int32.not_lt.mpr cq52); simp only [weak1]; rw [if_neg]; rintro ⟨-, z | z⟩; exact h1 z; exact h2 z])
            · refine ei_iload_n X dX10_weakest_55 rfl rfl ?_
              refine ei_goto (tgt := 60) X dX10_weakest_56 (by decide) ?_
              refine ei_istore_n X dX10_weakest_60 rfl (Nat.le_of_ble_eq_true rfl) rfl ?_
              refine ei_iinc_n X dX10_weakest_61 rfl rfl ?_
              refine ei_goto (tgt := 5) X dX10_weakest_64 (by decide) ?_
              exact ih (j + 1) (nI j, lifeS (n, w, se, sp, hr, lt, hd, sc, so, fi, wo) j - wo j) (by omega) (by omega) (Or.inr ⟨j, by omega, rfl, rfl⟩) (by rw [hv, itr_lt _ _ (by omega), show weak1 (n, w, se, sp, hr, lt, hd, sc, so, fi, wo) q j = (nI j, lifeS (n, w, se, sp, hr, lt, hd, sc, so, fi, wo) j - wo j) from by have h2 : lifeS (n, w, se, sp, hr, lt, hd, sc, so, fi, wo) j - sR (n, w, se, sp, hr, lt, hd, sc, so, fi, wo) j < q.2 := (by rw [hqb]; exact Int32.not_le.mp cq52); simp only [weak1]; rw [if_pos ⟨cq21, Or.inr h2⟩]])
  refine ei_bipush (v := -4) X dX10_weakest_0 rfl ?_
  refine ei_istore_n X dX10_weakest_2 rfl (Nat.le_of_ble_eq_true rfl) rfl ?_
  refine ei_iconst (v := 0) X dX10_weakest_3 rfl ?_
  refine ei_istore_n X dX10_weakest_4 rfl (Nat.le_of_ble_eq_true rfl) rfl ?_
  exact L (n + 1) 0 (-4, 0) (by omega) (by omega) (Or.inl rfl) rfl
set_option maxRecDepth 100000 in
set_option maxHeartbeats 4000000 in
theorem ct_X10_lights (n : Nat) (w se sp hr lt hd sc : Int32) (so fi wo : Nat → Int32) (I : Nat → Int32) (A : Nat → Nat → Int32) (B : Nat → Nat → Int64) (K : Value) (what : Int32) (h_S : Good (n, w, se, sp, hr, lt, hd, sc, so, fi, wo)) (h_M : mI (I, A, B, K)) : e_Ct yX10_lights cX10_lights 2 (some .int) 7 [.ref 0, .int what] (mH (n, w, se, sp, hr, lt, hd, sc, so, fi, wo) (I, A, B, K)) (mP (some (.int (lightsF (n, w, se, sp, hr, lt, hd, sc, so, fi, wo) what))) (n, w, se, sp, hr, lt, hd, sc, so, fi, wo) (I, A, B, K)) := by
  refine e_open RX10 rfl (by decide +kernel) rfl (fun _ => Nat.le_of_ble_eq_true rfl) (fun x X F => ?_)
  obtain ⟨i11, i12⟩ := h_M
  simp only at i11 i12
  have hn : n ≤ 10 := h_S.1
  have e4 : nI n ≤ 0 ↔ n = 0 := nI_le0 (by omega)
  have e0 := faults_0 (S := (n, w, se, sp, hr, lt, hd, sc, so, fi, wo)) hn
  refine ei_aload_n X dX10_lights_0 rfl rfl ?_
  refine ei_iconst (v := 0) X dX10_lights_1 rfl ?_
  refine ei_puti X fp_RX10_78 dX10_lights_2 rfl (Nat.le_of_ble_eq_true rfl) (pm_20 _ _ _ _ _ _ _ _ _ _ _ _ _ _ _ _) ?_
  refine ei_iload_n X dX10_lights_5 rfl rfl ?_
  refine ei_table [(0, 40), (1, 60), (2, 65), (3, 70), (4, 75)] 80 X dX10_lights_6 (by decide) (by decide) (by decide) ⟨fun cq6 => ?_, fun cq6 => ?_, fun cq6 => ?_, fun cq6 => ?_, fun cq6 => ?_, trivial⟩ (fun cq6 => ?_)
  · refine ei_aload_n X dX10_lights_40 rfl rfl ?_
    refine ei_getf X fl_RX10_81 dX10_lights_41 rfl rfl ?_
    refine ei_if_le (tgt := 58) X dX10_lights_44 (by decide) (fun cq44 => ?_) (fun cq44 => ?_)
    · refine ei_iconst (v := 0) X dX10_lights_58 rfl ?_
      refine ei_ireturn X F dX10_lights_59 ?_
      exact ⟨by have h0 := e4.mp cq44; rw [show lightsF (n, w, se, sp, hr, lt, hd, sc, so, fi, wo) what = bz (burnsF (n, w, se, sp, hr, lt, hd, sc, so, fi, wo) (hr + 1)) from by simp [lightsF, cq6, sN, sW, sE, sP, sH, sL, sD, sC, sO, sG, sR], show burnsF (n, w, se, sp, hr, lt, hd, sc, so, fi, wo) (hr + 1) = false from by simp [burnsF, sN, sW, sE, sP, sH, sL, sD, sC, sO, sG, sR, h0]]; rfl, _, kM_20 _ _ _ _ 0, rfl⟩
    · refine ei_aload_n X dX10_lights_47 rfl rfl ?_
      refine ei_callI1 X ml_RX10_277 dX10_lights_48 (ct_X10_faults _ _ _ _ _ _ _ _ _ _ _ _ _ _ _ (by first | omega | assumption)) rfl rfl (by decide) (by decide) rfl (Nat.le_of_ble_eq_true rfl) ?_
      refine ei_if_ne (tgt := 58) X dX10_lights_51 (by decide) (fun cq51 => ?_) (fun cq51 => ?_)
      · refine ei_iconst (v := 0) X dX10_lights_58 rfl ?_
        refine ei_ireturn X F dX10_lights_59 ?_
        exact ⟨by rw [show lightsF (n, w, se, sp, hr, lt, hd, sc, so, fi, wo) what = bz (burnsF (n, w, se, sp, hr, lt, hd, sc, so, fi, wo) (hr + 1)) from by simp [lightsF, cq6, sN, sW, sE, sP, sH, sL, sD, sC, sO, sG, sR], show burnsF (n, w, se, sp, hr, lt, hd, sc, so, fi, wo) (hr + 1) = false from by (have h1 : ¬ leadAll (n, w, se, sp, hr, lt, hd, sc, so, fi, wo) 0 n (hr + 1) = true := fun z => cq51 (e0.mpr z)); simp [burnsF, sN, sW, sE, sP, sH, sL, sD, sC, sO, sG, sR, h1]]; rfl, _, kM_20 _ _ _ _ 0, rfl⟩
      · refine ei_iconst (v := 1) X dX10_lights_54 rfl ?_
        refine ei_goto (tgt := 59) X dX10_lights_55 (by decide) ?_
        refine ei_ireturn X F dX10_lights_59 ?_
        exact ⟨by rw [show lightsF (n, w, se, sp, hr, lt, hd, sc, so, fi, wo) what = bz (burnsF (n, w, se, sp, hr, lt, hd, sc, so, fi, wo) (hr + 1)) from by simp [lightsF, cq6, sN, sW, sE, sP, sH, sL, sD, sC, sO, sG, sR], show burnsF (n, w, se, sp, hr, lt, hd, sc, so, fi, wo) (hr + 1) = true from by (have h1 : leadAll (n, w, se, sp, hr, lt, hd, sc, so, fi, wo) 0 n (hr + 1) = true := e0.mp cq51); (have h2 : 0 < n := Nat.pos_of_ne_zero (fun z => cq44 (e4.mpr z))); simp [burnsF, sN, sW, sE, sP, sH, sL, sD, sC, sO, sG, sR, h1, h2]]; rfl, _, kM_20 _ _ _ _ 0, rfl⟩
  · refine ei_aload_n X dX10_lights_60 rfl rfl ?_
    refine ei_callI1 X ml_RX10_277 dX10_lights_61 (ct_X10_faults _ _ _ _ _ _ _ _ _ _ _ _ _ _ _ (by first | omega | assumption)) rfl rfl (by decide) (by decide) rfl (Nat.le_of_ble_eq_true rfl) ?_
    refine ei_ireturn X F dX10_lights_64 ?_
    exact ⟨by simp [lightsF, cq6], _, kM_20 _ _ _ _ 0, rfl⟩
  · refine ei_aload_n X dX10_lights_65 rfl rfl ?_
    refine ei_callI1 X ml_RX10_280 dX10_lights_66 (ct_X10_browns _ _ _ _ _ _ _ _ _ _ _ _ _ _ _ (by first | omega | assumption)) rfl rfl (by decide) (by decide) rfl (Nat.le_of_ble_eq_true rfl) ?_
    refine ei_ireturn X F dX10_lights_69 ?_
    exact ⟨by simp [lightsF, cq6], _, kM_20 _ _ _ _ 0, rfl⟩
  · refine ei_aload_n X dX10_lights_70 rfl rfl ?_
    refine ei_callI X ml_RX10_283 dX10_lights_71 (ct_X10_longest _ _ _ _ _ _ _ _ _ _ _ _ _ _ _ h_S (by rw [pk_un (by decide)]; exact i12) (by rw [pk_un (by decide)]; exact i11)) rfl rfl (by decide) (by decide) rfl (Nat.le_of_ble_eq_true rfl) (fun r h2 hp => ?_)
    obtain ⟨rfl, J, hJ, rfl⟩ := hp
    refine ei_ireturn X F dX10_lights_74 ?_
    exact ⟨by simp [lightsF, cq6], (J, updA A 13 (encF (n, w, se, sp, hr, lt, hd, sc, so, fi, wo)), B, .ref 13), kM_13 (fun k hk => by rw [hJ k (by omega), pk_un (by omega)]), rfl⟩
  · refine ei_aload_n X dX10_lights_75 rfl rfl ?_
    refine ei_callI1 X ml_RX10_286 dX10_lights_76 (ct_X10_weakest _ _ _ _ _ _ _ _ _ _ _ _ _ _ _ (by first | omega | assumption)) rfl rfl (by decide) (by decide) rfl (Nat.le_of_ble_eq_true rfl) ?_
    refine ei_ireturn X F dX10_lights_79 ?_
    exact ⟨by simp [lightsF, cq6], _, kM_20 _ _ _ _ 0, rfl⟩
  · refine ei_iconst (v := -1) X dX10_lights_80 rfl ?_
    refine ei_ireturn X F dX10_lights_81 ?_
    exact ⟨by obtain ⟨a, b, c, d, e, -⟩ := cq6; simp [lightsF, a, b, c, d, e], _, kM_20 _ _ _ _ 0, rfl⟩
set_option maxRecDepth 100000 in
set_option maxHeartbeats 4000000 in
theorem ct_X10_tool (n : Nat) (w se sp hr lt hd sc : Int32) (so fi wo : Nat → Int32) (I : Nat → Int32) (A : Nat → Nat → Int32) (B : Nat → Nat → Int64) (K : Value) (t i j what : Int32) (h_S : Good (n, w, se, sp, hr, lt, hd, sc, so, fi, wo)) : e_Ct yX10_tool cX10_tool 8 (some .int) 6 [.ref 0, .int t, .int i, .int j, .int what] (mH (n, w, se, sp, hr, lt, hd, sc, so, fi, wo) (I, A, B, K)) (mP (some (.int (toolF (n, w, se, sp, hr, lt, hd, sc, so, fi, wo) t i j what))) (n, w, se, sp, hr, lt, hd, sc, so, fi, wo) (I, A, B, K)) := by
  refine e_open RX10 rfl (by decide +kernel) rfl (fun _ => Nat.le_of_ble_eq_true rfl) (fun x X F => ?_)
  have hn : n ≤ 10 := h_S.1
  refine ei_aload_n X dX10_tool_0 rfl rfl ?_
  refine ei_iconst (v := 0) X dX10_tool_1 rfl ?_
  refine ei_puti X fp_RX10_78 dX10_tool_2 rfl (Nat.le_of_ble_eq_true rfl) (pm_20 _ _ _ _ _ _ _ _ _ _ _ _ _ _ _ _) ?_
  refine ei_aload_n X dX10_tool_5 rfl rfl ?_
  refine ei_iload_n X dX10_tool_6 rfl rfl ?_
  refine ei_iload_n X dX10_tool_7 rfl rfl ?_
  refine ei_iload_n X dX10_tool_8 rfl rfl ?_
  refine ei_callI1 X ml_RX10_264 dX10_tool_9 (ct_X10_isUse _ _ _ _ _ _ _ _ _ _ _ _ _ _ _ _ _ _ (by first | omega | assumption)) rfl rfl (by decide) (by decide) rfl (Nat.le_of_ble_eq_true rfl) ?_
  refine ei_ifz_eq (tgt := 28) X dX10_tool_12 (by decide) (fun cq12 => ?_) (fun cq12 => ?_)
  · refine ei_iconst (v := -1) X dX10_tool_28 rfl ?_
    refine ei_ireturn X F dX10_tool_29 ?_
    exact ⟨by simp only [toolF, sN, sW, sE, sP, sH, sL, sD, sC, sO, sG, sR, cq12, Bool.false_eq_true, false_and, if_false], _, kM_20 _ _ _ _ 0, rfl⟩
  · refine ei_iload X dX10_tool_15 rfl ?_
    refine ei_i2l X dX10_tool_17 ?_
    refine ei_lconst (v := 0) X dX10_tool_18 rfl ?_
    refine ei_ldc2 X cw_RX10_267 dX10_tool_19 ?_
    refine ei_callT1 X ml_RX10_84 dX10_tool_22 (ct_X10_in _ _ _ _) rfl rfl (by decide) (by decide) (Nat.le_of_ble_eq_true rfl) ?_
    rw [in_0_2]
    refine ei_ifz_ne (tgt := 30) X dX10_tool_25 (by decide) (fun cq25 => ?_) (fun cq25 => ?_)
    · obtain ⟨a, b, hab, hb, rfl, rfl⟩ := canU_iff hn cq12
      have na : nc (nI a) = a := nc_nI (by omega)
      have nb : nc (nI b) = b := nc_nI (by omega)
      have e1 := took_alt hd t hab (by omega) h_S.2.2.2.2.2.2.2.1 0
      rw [Int32.zero_add, Int32.zero_add] at e1
      refine ei_iload_n X dX10_tool_30 rfl rfl ?_
      refine ei_iload_n X dX10_tool_31 rfl rfl ?_
      refine ei_iload_n X dX10_tool_32 rfl rfl ?_
      refine ei_callT1 X ml_RX10_145 dX10_tool_33 (ct_X10_tookBy _ _ _ _) rfl rfl (by decide) (by decide) (Nat.le_of_ble_eq_true rfl) ?_
      refine ei_aload_n X dX10_tool_36 rfl rfl ?_
      refine ei_getf X fl_RX10_149 dX10_tool_37 rfl rfl ?_
      refine ei_iload_n X dX10_tool_40 rfl rfl ?_
      refine ei_callT1 X ml_RX10_152 dX10_tool_41 (ct_X10_far _ _ _) rfl rfl (by decide) (by decide) (Nat.le_of_ble_eq_true rfl) ?_
      refine ei_iadd X dX10_tool_44 ?_
      rw [e1]
      refine ei_istore X dX10_tool_45 (Nat.le_of_ble_eq_true rfl) rfl ?_
      refine ei_aload_n X dX10_tool_47 rfl rfl ?_
      refine ei_callI X ml_RX10_225 dX10_tool_48 (ct_X10_think _ _ _ _ _ _ _ _ _ _ _ _ _ _ _) rfl rfl (by decide) (by decide) rfl (Nat.le_of_ble_eq_true rfl) (fun r h2 hp => ?_)
      obtain ⟨rfl, J48, h48, rfl⟩ := hp
      refine ei_aload_n X dX10_tool_51 rfl rfl ?_
      refine ei_iload_n X dX10_tool_52 rfl rfl ?_
      refine ei_iload_n X dX10_tool_53 rfl rfl ?_
      refine ei_iload_n X dX10_tool_54 rfl rfl ?_
      refine ei_callI1 X ml_RX10_199 dX10_tool_55 (ct_X10_usedOn _ _ _ _ _ _ _ _ _ _ _ _ _ _ _ _ _ _ (by first | omega | assumption) (by first | omega | assumption) (by first | omega | assumption)) rfl rfl (by decide) (by decide) rfl (Nat.le_of_ble_eq_true rfl) ?_
      refine ei_istore X dX10_tool_58 (Nat.le_of_ble_eq_true rfl) rfl ?_
      refine ei_aload_n X dX10_tool_60 rfl rfl ?_
      refine ei_getf X fl_RX10_149 dX10_tool_61 rfl rfl ?_
      refine ei_istore X dX10_tool_64 (Nat.le_of_ble_eq_true rfl) rfl ?_
      refine ei_aload_n X dX10_tool_66 rfl rfl ?_
      refine ei_callI X ml_RX10_231 dX10_tool_67 (ct_X10_again _ _ _ _ _ _ _ _ _ _ _ n w se sp hr lt hd sc so fi wo _ _ _ _ updA_on) rfl rfl (by decide) (by decide) rfl (Nat.le_of_ble_eq_true rfl) (fun r h2 hp => ?_)
      obtain ⟨rfl, J67, h67, rfl⟩ := hp
      refine ei_iload X dX10_tool_70 rfl ?_
      refine ei_if_ne (tgt := 80) X dX10_tool_72 (by decide) (fun cq72 => ?_) (fun cq72 => ?_)
      · refine ei_iload X dX10_tool_80 rfl ?_
        refine ei_iconst (v := 1) X dX10_tool_82 rfl ?_
        refine ei_icmp_ne (tgt := 91) X dX10_tool_83 (by decide) (fun cq83 => ?_) (fun cq83 => ?_)
        · refine ei_iload X dX10_tool_91 rfl ?_
          refine ei_ireturn X F dX10_tool_93 ?_
          exact ⟨by simp only [toolF, sN, sW, sE, sP, sH, sL, sD, sC, sO, sG, sR, cq12, cq25, and_self, if_true, if_neg cq72, if_neg cq83, na, nb], (J67, updA A 13 (encF (n, w, se, sp, hr, lt, hd, sc, so, fi, wo)), B, .ref 13), kM_13 (fun k hk => by rw [h67 k (by omega) (by omega), h48 k (by omega) (by omega), pk_un (by omega)]), rfl⟩
        · refine ei_iload X dX10_tool_86 rfl ?_
          refine ei_goto (tgt := 93) X dX10_tool_88 (by decide) ?_
          refine ei_ireturn X F dX10_tool_93 ?_
          exact ⟨by simp only [toolF, sN, sW, sE, sP, sH, sL, sD, sC, sO, sG, sR, cq12, cq25, and_self, if_true, if_neg cq72, if_pos cq83], (J67, updA A 13 (encF (n, w, se, sp, hr, lt, hd, sc, so, fi, wo)), B, .ref 13), kM_13 (fun k hk => by rw [h67 k (by omega) (by omega), h48 k (by omega) (by omega), pk_un (by omega)]), rfl⟩
      · refine ei_iload X dX10_tool_75 rfl ?_
        refine ei_goto (tgt := 93) X dX10_tool_77 (by decide) ?_
        refine ei_ireturn X F dX10_tool_93 ?_
        exact ⟨by simp only [toolF, sN, sW, sE, sP, sH, sL, sD, sC, sO, sG, sR, cq12, cq25, and_self, if_true, if_pos cq72, na, nb], (J67, updA A 13 (encF (n, w, se, sp, hr, lt, hd, sc, so, fi, wo)), B, .ref 13), kM_13 (fun k hk => by rw [h67 k (by omega) (by omega), h48 k (by omega) (by omega), pk_un (by omega)]), rfl⟩
    · refine ei_iconst (v := -1) X dX10_tool_28 rfl ?_
      refine ei_ireturn X F dX10_tool_29 ?_
      exact ⟨by simp only [toolF, cq25, Bool.false_eq_true, and_false, if_false], _, kM_20 _ _ _ _ 0, rfl⟩
set_option maxRecDepth 100000 in
set_option maxHeartbeats 4000000 in
theorem ct_X10_goes (n : Nat) (w se sp hr lt hd sc : Int32) (so fi wo : Nat → Int32) (I : Nat → Int32) (A : Nat → Nat → Int32) (B : Nat → Nat → Int64) (K : Value) (b : Int32) (h_S : Good (n, w, se, sp, hr, lt, hd, sc, so, fi, wo)) (h_M : mI (I, A, B, K)) : e_Ct yX10_goes cX10_goes 6 (some .int) 7 [.ref 0, .int b] (mH (n, w, se, sp, hr, lt, hd, sc, so, fi, wo) (I, A, B, K)) (mP (some (.int (goesF (n, w, se, sp, hr, lt, hd, sc, so, fi, wo) b))) (n, w, se, sp, hr, lt, hd, sc, so, fi, wo) (I, A, B, K)) := by
  refine e_open RX10 rfl (by decide +kernel) rfl (fun _ => Nat.le_of_ble_eq_true rfl) (fun x X F => ?_)
  obtain ⟨i11, i12⟩ := h_M
  simp only at i11 i12
  have hn : n ≤ 10 := h_S.1
  have hin : inF b.toInt64 (-1) (nI n - 1).toInt64 = (decide (b = -1) || hasF n b) := by
    rw [show inF b.toInt64 (-1) (nI n - 1).toInt64 = inI b (-1) (nI n - 1) from inF_I b (-1) (nI n - 1), Bool.eq_iff_iff, Bool.or_eq_true, decide_eq_true_eq, hasF_iff (by omega)]
    unfold inI
    rw [Bool.and_eq_true, decide_eq_true_eq, decide_eq_true_eq, Int32.le_iff_toInt_le, Int32.le_iff_toInt_le, nI_m1 (by omega), show (-1 : Int32).toInt = -1 from rfl, ← Int32.toInt_inj, show (-1 : Int32).toInt = -1 from rfl]
    constructor
    · rintro ⟨h1, h2⟩
      by_cases q : b.toInt = -1
      · exact Or.inl q
      · obtain ⟨k, hk, rfl⟩ := nI_of (x := b) (by rw [Int32.lt_iff_toInt_lt, Int32.toInt_zero]; omega)
        rw [nI_toInt hk] at h2
        exact Or.inr ⟨k, by omega, rfl⟩
    · rintro (h | ⟨k, hk, rfl⟩)
      · omega
      · rw [nI_toInt (by omega)]; omega
  have L : ∀ (k j : Nat) (q : Int32 × Nat) (J : Nat → Int32) (A2 : Nat → Nat → Int32) (K2 : Value), n - j < k → j ≤ 10 → q.2 ≤ 61 → kM (I, A, B, K) (J, A2, B, K2) → nextF (n, w, se, sp, hr, lt, hd, sc, so, fi, wo) = (itr (next1 (n, w, se, sp, hr, lt, hd, sc, so, fi, wo)) q j (n - j)).1 → b = -1 → e_E x 57 [some (.ref 0), some (.int b), some (.int q.1), some (.int (nI q.2)), some (.int (nI j)), none] [] (mH (n, w, se, sp, hr, lt, hd, sc, so, fi, wo) (J, A2, B, K2)) := by
    intro k
    induction k with
    | zero => intro j q J A2 K2 hk; exact absurd hk (Nat.not_lt_zero _)
    | succ k ih =>
      intro j q J A2 K2 hk hj hq hM hv hb
      have j12 : J 12 = 1 := (hM.1 12 (by omega)).trans i12
      have j11 : J 11 = 0 := (hM.1 11 (by omega)).trans i11
      have N : ∀ (t : Nat) (J : Nat → Int32) (A2 : Nat → Nat → Int32) (K2 : Value), t ≤ 61 → t = (if hasB w j then tillN (n, w, se, sp, hr, lt, hd, sc, so, fi, wo) j else 61) → kM (I, A, B, K) (J, A2, B, K2) → ¬ n ≤ j → e_E x 91 [some (.ref 0), some (.int b), some (.int q.1), some (.int (nI q.2)), some (.int (nI j)), some (.int (nI t))] [] (mH (n, w, se, sp, hr, lt, hd, sc, so, fi, wo) (J, A2, B, K2)) := by
        intro t J A2 K2 ht hte hM hnj
        refine ei_iload X dX10_goes_91 rfl ?_
        refine ei_iload_n X dX10_goes_93 rfl rfl ?_
        refine ei_icmpn_ge (tgt := 102) X dX10_goes_94 (by decide) (by first | omega | assumption) (by first | omega | assumption) (fun cq94 => ?_) (fun cq94 => ?_)
        · refine ei_iload_n X dX10_goes_102 rfl rfl ?_
          refine ei_istore_n X dX10_goes_103 rfl (Nat.le_of_ble_eq_true rfl) rfl ?_
          refine ei_iload X dX10_goes_104 rfl ?_
          refine ei_iload_n X dX10_goes_106 rfl rfl ?_
          refine ei_icmpn_ge (tgt := 115) X dX10_goes_107 (by decide) (by first | omega | assumption) (by first | omega | assumption) (fun cq107 => ?_) (fun cq107 => ?_)
          · refine ei_iload_n X dX10_goes_115 rfl rfl ?_
            refine ei_istore_n X dX10_goes_116 rfl (Nat.le_of_ble_eq_true rfl) rfl ?_
            refine ei_iinc_n X dX10_goes_117 rfl rfl ?_
            refine ei_goto (tgt := 57) X dX10_goes_120 (by decide) ?_
            refine ei_drop 5 ?_
            exact ih (j + 1) q J A2 K2 (by omega) (by omega) hq hM (by rw [hv, itr_lt _ _ (by omega), show next1 (n, w, se, sp, hr, lt, hd, sc, so, fi, wo) q j = q from by unfold next1; rw [← hte, if_neg (by omega)]]) hb
          · refine ei_iload X dX10_goes_110 rfl ?_
            refine ei_goto (tgt := 116) X dX10_goes_112 (by decide) ?_
            refine ei_istore_n X dX10_goes_116 rfl (Nat.le_of_ble_eq_true rfl) rfl ?_
            refine ei_iinc_n X dX10_goes_117 rfl rfl ?_
            refine ei_goto (tgt := 57) X dX10_goes_120 (by decide) ?_
            exact absurd cq94 (by omega)
        · refine ei_iload X dX10_goes_97 rfl ?_
          refine ei_goto (tgt := 103) X dX10_goes_99 (by decide) ?_
          refine ei_istore_n X dX10_goes_103 rfl (Nat.le_of_ble_eq_true rfl) rfl ?_
          refine ei_iload X dX10_goes_104 rfl ?_
          refine ei_iload_n X dX10_goes_106 rfl rfl ?_
          refine ei_icmpn_ge (tgt := 115) X dX10_goes_107 (by decide) (by first | omega | assumption) (by first | omega | assumption) (fun cq107 => ?_) (fun cq107 => ?_)
          · refine ei_iload_n X dX10_goes_115 rfl rfl ?_
            refine ei_istore_n X dX10_goes_116 rfl (Nat.le_of_ble_eq_true rfl) rfl ?_
            refine ei_iinc_n X dX10_goes_117 rfl rfl ?_
            refine ei_goto (tgt := 57) X dX10_goes_120 (by decide) ?_
            exact absurd cq94 (by omega)
          · refine ei_iload X dX10_goes_110 rfl ?_
            refine ei_goto (tgt := 116) X dX10_goes_112 (by decide) ?_
            refine ei_istore_n X dX10_goes_116 rfl (Nat.le_of_ble_eq_true rfl) rfl ?_
            refine ei_iinc_n X dX10_goes_117 rfl rfl ?_
            refine ei_goto (tgt := 57) X dX10_goes_120 (by decide) ?_
            refine ei_drop 5 ?_
            exact ih (j + 1) (nI j, t) J A2 K2 (by omega) (by omega) ht hM (by rw [hv, itr_lt _ _ (by omega), show next1 (n, w, se, sp, hr, lt, hd, sc, so, fi, wo) q j = (nI j, t) from by unfold next1; rw [← hte, if_pos (by omega)]]) hb
      refine ei_iload X dX10_goes_57 rfl ?_
      refine ei_aload_n X dX10_goes_59 rfl rfl ?_
      refine ei_getf X fl_RX10_81 dX10_goes_60 rfl rfl ?_
      refine ei_icmpn_ge (tgt := 123) X dX10_goes_63 (by decide) (by first | omega | assumption) (by first | omega | assumption) (fun cq63 => ?_) (fun cq63 => ?_)
      · refine ei_iload_n X dX10_goes_123 rfl rfl ?_
        refine ei_ireturn X F dX10_goes_124 ?_
        exact ⟨by rw [hb]; unfold goesF; rw [if_pos rfl, hv, itr_ge _ _ cq63], _, hM, rfl⟩
      · refine ei_aload_n X dX10_goes_66 rfl rfl ?_
        refine ei_getf X fl_RX10_88 dX10_goes_67 rfl rfl ?_
        refine ei_iload X dX10_goes_70 rfl ?_
        refine ei_callT1 X ml_RX10_91 dX10_goes_72 (ct_X10_hasBit _ _ _) rfl rfl (by decide) (by decide) (Nat.le_of_ble_eq_true rfl) ?_
        refine ei_ifz_eq (tgt := 87) X dX10_goes_75 (by decide) (fun cq75 => ?_) (fun cq75 => ?_)
        · refine ei_bipush (v := nI 61) X dX10_goes_87 rfl ?_
          refine ei_istore X dX10_goes_89 (Nat.le_of_ble_eq_true rfl) rfl ?_
          exact N 61 J A2 K2 (by omega) (by rw [cq75]; rfl) hM cq63
        · refine ei_aload_n X dX10_goes_78 rfl rfl ?_
          refine ei_iload X dX10_goes_79 rfl ?_
          refine ei_callI X ml_RX10_274 dX10_goes_81 (ct_X10_goesIn _ _ _ _ _ _ _ _ _ _ _ _ _ _ _ j (by omega) h_S j12 j11) rfl rfl (by decide) (by decide) rfl (Nat.le_of_ble_eq_true rfl) (fun r h2 hp => ?_)
          obtain ⟨rfl, J8, h8, rfl⟩ := hp
          refine ei_goto (tgt := 89) X dX10_goes_84 (by decide) ?_
          refine ei_istore X dX10_goes_89 (Nat.le_of_ble_eq_true rfl) rfl ?_
          exact N (tillN (n, w, se, sp, hr, lt, hd, sc, so, fi, wo) j) J8 _ _ (by have := firstN_ge (fun k => !hasB (sW (hoursS (n, w, se, sp, hr, lt, hd, sc, so, fi, wo) k)) j) 61 0; unfold tillN; omega) (by rw [cq75]; rfl) (kM_tr hM (kM_13 fun k hk => h8 k (by omega))) cq63
  refine ei_aload_n X dX10_goes_0 rfl rfl ?_
  refine ei_iconst (v := 0) X dX10_goes_1 rfl ?_
  refine ei_puti X fp_RX10_78 dX10_goes_2 rfl (Nat.le_of_ble_eq_true rfl) (pm_20 _ _ _ _ _ _ _ _ _ _ _ _ _ _ _ _) ?_
  refine ei_iload_n X dX10_goes_5 rfl rfl ?_
  refine ei_i2l X dX10_goes_6 ?_
  refine ei_ldc2 X cw_RX10_272 dX10_goes_7 ?_
  refine ei_aload_n X dX10_goes_10 rfl rfl ?_
  refine ei_getf X fl_RX10_81 dX10_goes_11 rfl rfl ?_
  refine ei_iconst (v := 1) X dX10_goes_14 rfl ?_
  refine ei_isub X dX10_goes_15 ?_
  refine ei_i2l X dX10_goes_16 ?_
  refine ei_callT1 X ml_RX10_84 dX10_goes_17 (ct_X10_in _ _ _ _) rfl rfl (by decide) (by decide) (Nat.le_of_ble_eq_true rfl) ?_
  rw [hin]
  refine ei_ifz_ne (tgt := 25) X dX10_goes_20 (by decide) (fun cq20 => ?_) (fun cq20 => ?_)
  · refine ei_iload_n X dX10_goes_25 rfl rfl ?_
    refine ei_if_lt (tgt := 48) X dX10_goes_26 (by decide) (fun cq26 => ?_) (fun cq26 => ?_)
    · refine ei_bipush (v := -4) X dX10_goes_48 rfl ?_
      refine ei_istore_n X dX10_goes_50 rfl (Nat.le_of_ble_eq_true rfl) rfl ?_
      refine ei_bipush (v := 61) X dX10_goes_51 rfl ?_
      refine ei_istore_n X dX10_goes_53 rfl (Nat.le_of_ble_eq_true rfl) rfl ?_
      refine ei_iconst (v := 0) X dX10_goes_54 rfl ?_
      refine ei_istore X dX10_goes_55 (Nat.le_of_ble_eq_true rfl) rfl ?_
      exact L (n + 1) 0 (-4, 61) _ _ _ (by omega) (by omega) (by decide) (kM_20 _ _ _ _ 0) rfl (by (rcases Bool.or_eq_true _ _ ▸ cq20 with z | z); (exact of_decide_eq_true z); (obtain ⟨a, ha, rfl⟩ := (hasF_iff (by omega)).mp z; exact absurd cq26 (nI_pos (by omega))))
    · obtain ⟨a, ha, rfl⟩ : ∃ a, a < n ∧ b = nI a := by (rcases Bool.or_eq_true _ _ ▸ cq20 with z | z); (exact absurd (of_decide_eq_true z) (fun z => cq26 (by rw [z]; decide))); (exact (hasF_iff (by omega)).mp z)
      refine ei_aload_n X dX10_goes_29 rfl rfl ?_
      refine ei_iload_n X dX10_goes_30 rfl rfl ?_
      refine ei_callI X ml_RX10_274 dX10_goes_31 (ct_X10_goesIn _ _ _ _ _ _ _ _ _ _ _ _ _ _ _ a (by omega) h_S (by rw [pk_un (by decide)]; exact i12) (by rw [pk_un (by decide)]; exact i11)) rfl rfl (by decide) (by decide) rfl (Nat.le_of_ble_eq_true rfl) (fun r h2 hp => ?_)
      obtain ⟨rfl, J8, h8, rfl⟩ := hp
      have ht : tillN (n, w, se, sp, hr, lt, hd, sc, so, fi, wo) a ≤ 61 := by (have := firstN_ge (fun k => !hasB (sW (hoursS (n, w, se, sp, hr, lt, hd, sc, so, fi, wo) k)) a) 61 0; unfold tillN; omega)
      refine ei_istore_n X dX10_goes_34 rfl (Nat.le_of_ble_eq_true rfl) rfl ?_
      have hne : ¬ nI a = -1 := (fun z => by have := congrArg Int32.toInt z; rw [nI_toInt (by omega), show (-1 : Int32).toInt = -1 from rfl] at this; omega)
      have hh : hasF n (nI a) = true := (hasF_iff (by omega)).mpr ⟨a, ha, rfl⟩
      have hnc : nc (nI a) = a := nc_nI (by omega)
      have hg : goesF (n, w, se, sp, hr, lt, hd, sc, so, fi, wo) (nI a) = tillF (n, w, se, sp, hr, lt, hd, sc, so, fi, wo) a := by unfold goesF; rw [if_neg hne]; simp only [sN, sW, sE, sP, sH, sL, sD, sC, sO, sG, sR, hh, if_true, hnc]
      refine ei_iload_n X dX10_goes_35 rfl rfl ?_
      refine ei_bipush (v := nI 61) X dX10_goes_36 rfl ?_
      refine ei_icmpn_ne (tgt := 46) X dX10_goes_38 (by decide) (by first | omega | assumption) (by first | omega | assumption) (fun cq38 => ?_) (fun cq38 => ?_)
      · refine ei_iload_n X dX10_goes_46 rfl rfl ?_
        refine ei_ireturn X F dX10_goes_47 ?_
        exact ⟨by rw [hg]; unfold tillF; rw [if_neg cq38], (J8, updA A 13 (encF (n, w, se, sp, hr, lt, hd, sc, so, fi, wo)), B, .ref 13), kM_13 (fun k hk => by rw [h8 k (by omega), pk_un (by omega)]), rfl⟩
      · refine ei_bipush (v := -4) X dX10_goes_41 rfl ?_
        refine ei_goto (tgt := 47) X dX10_goes_43 (by decide) ?_
        refine ei_ireturn X F dX10_goes_47 ?_
        exact ⟨by rw [hg]; unfold tillF; rw [if_pos cq38], (J8, updA A 13 (encF (n, w, se, sp, hr, lt, hd, sc, so, fi, wo)), B, .ref 13), kM_13 (fun k hk => by rw [h8 k (by omega), pk_un (by omega)]), rfl⟩
  · refine ei_iconst (v := -1) X dX10_goes_23 rfl ?_
    refine ei_ireturn X F dX10_goes_24 ?_
    exact ⟨by (have z := Bool.or_eq_false_iff.mp cq20); unfold goesF; rw [if_neg (of_decide_eq_false z.1)]; simp only [sN, sW, sE, sP, sH, sL, sD, sC, sO, sG, sR, z.2, Bool.false_eq_true, if_false], _, kM_20 _ _ _ _ 0, rfl⟩

