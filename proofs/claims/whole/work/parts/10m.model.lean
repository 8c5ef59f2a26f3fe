/-! ===== thrown, odds, a forged row ===== -/
set_option maxRecDepth 100000 in
set_option maxHeartbeats 4000000 in
theorem ct_X10_thrown (n : Nat) (w se sp hr lt hd sc : Int32) (so fi wo : Nat → Int32) (I : Nat → Int32) (A : Nat → Nat → Int32) (B : Nat → Nat → Int64) (K : Value) : e_Ct yX10_thrown cX10_thrown 1 (some .int) 1 [.ref 0] (mH (n, w, se, sp, hr, lt, hd, sc, so, fi, wo) (I, A, B, K)) (e_eq (some (.int (I 20))) (mH (n, w, se, sp, hr, lt, hd, sc, so, fi, wo) (I, A, B, K))) := by
  refine e_open RX10 rfl (by decide +kernel) rfl (fun _ => Nat.le_of_ble_eq_true rfl) (fun x X F => ?_)
  refine ei_aload_n X dX10_thrown_0 rfl rfl ?_
  refine ei_getf X fl_RX10_78 dX10_thrown_1 rfl rfl ?_
  refine ei_ireturn X F dX10_thrown_4 ?_
  exact ⟨rfl, rfl⟩
set_option maxRecDepth 100000 in
set_option maxHeartbeats 4000000 in
theorem ct_X10_oddsOf (n : Nat) (w se sp hr lt hd sc : Int32) (so fi wo : Nat → Int32) (I : Nat → Int32) (A : Nat → Nat → Int32) (B : Nat → Nat → Int64) (K : Value) (i e : Nat) (h_i : i ≤ 10) (h_e : e < 10) : e_Ct yX10_oddsOf cX10_oddsOf 5 (some .int) 1 [.ref 0, .int (nI i), .int (nI e)] (mH (n, w, se, sp, hr, lt, hd, sc, so, fi, wo) (I, A, B, K)) (e_eq (some (.int (oddsF wo i (e + 1)))) (mH (n, w, se, sp, hr, lt, hd, sc, so, fi, wo) (I, A, B, K))) := by
  refine e_open RX10 rfl (by decide +kernel) rfl (fun _ => Nat.le_of_ble_eq_true rfl) (fun x X F => ?_)
  have L : ∀ (k j : Nat) (a : Int32), e + 1 - j < k → j ≤ 10 → oddsF wo i (e + 1) = itr (fun a b => a + (wo b + 1)) a j (e + 1 - j) → e_E x 5 [some (.ref 0), some (.int (nI i)), some (.int (nI e)), some (.int a), some (.int (nI j))] [] (mH (n, w, se, sp, hr, lt, hd, sc, so, fi, wo) (I, A, B, K)) := by
    intro k
    induction k with
    | zero => intro j a hk; exact absurd hk (Nat.not_lt_zero _)
    | succ k ih =>
      intro j a hk hj hv
      refine ei_iload X dX10_oddsOf_5 rfl ?_
      refine ei_iload_n X dX10_oddsOf_7 rfl rfl ?_
      refine ei_icmpn_gt (tgt := 29) X dX10_oddsOf_8 (by decide) (by first | omega | assumption) (by first | omega | assumption) (fun cq8 => ?_) (fun cq8 => ?_)
      · refine ei_iload_n X dX10_oddsOf_29 rfl rfl ?_
        refine ei_ireturn X F dX10_oddsOf_30 ?_
        exact ⟨by rw [hv, itr_ge _ _ (by omega)], rfl⟩
      · refine ei_iload_n X dX10_oddsOf_11 rfl rfl ?_
        refine ei_aload_n X dX10_oddsOf_12 rfl rfl ?_
        refine ei_getf X fl_RX10_16 dX10_oddsOf_13 rfl rfl ?_
        refine ei_iload X dX10_oddsOf_16 rfl ?_
        refine ei_iaload_n X dX10_oddsOf_18 rfl (by first | omega | assumption) (by decide) ?_
        refine ei_iconst (v := 1) X dX10_oddsOf_19 rfl ?_
        refine ei_iadd X dX10_oddsOf_20 ?_
        refine ei_iadd X dX10_oddsOf_21 ?_
        refine ei_istore_n X dX10_oddsOf_22 rfl (Nat.le_of_ble_eq_true rfl) rfl ?_
        refine ei_iinc_n X dX10_oddsOf_23 rfl rfl ?_
        refine ei_goto (tgt := 5) X dX10_oddsOf_26 (by decide) ?_
        exact ih (j + 1) _ (by omega) (by omega) (by rw [hv, itr_lt _ _ (by omega)])
  refine ei_iconst (v := 0) X dX10_oddsOf_0 rfl ?_
  refine ei_istore_n X dX10_oddsOf_1 rfl (Nat.le_of_ble_eq_true rfl) rfl ?_
  refine ei_iload_n X dX10_oddsOf_2 rfl rfl ?_
  refine ei_istore X dX10_oddsOf_3 (Nat.le_of_ble_eq_true rfl) rfl ?_
  exact L (e + 1 - i + 1) i 0 (by omega) h_i rfl
set_option maxRecDepth 100000 in
set_option maxHeartbeats 4000000 in
theorem ct_X10_isStretch (n : Nat) (w se sp hr lt hd sc : Int32) (so fi wo : Nat → Int32) (I : Nat → Int32) (A : Nat → Nat → Int32) (B : Nat → Nat → Int64) (K : Value) (a b : Int32) (h_n : n ≤ 10) : e_Ct yX10_isStretch cX10_isStretch 3 (some .boolean) 3 [.ref 0, .int a, .int b] (mH (n, w, se, sp, hr, lt, hd, sc, so, fi, wo) (I, A, B, K)) (e_eq (some (.int (bz (strF n a b)))) (mH (n, w, se, sp, hr, lt, hd, sc, so, fi, wo) (I, A, B, K))) := by
  refine e_open RX10 rfl (by decide +kernel) rfl (fun _ => Nat.le_of_ble_eq_true rfl) (fun x X F => ?_)
  refine ei_aload_n X dX10_isStretch_0 rfl rfl ?_
  refine ei_iload_n X dX10_isStretch_1 rfl rfl ?_
  refine ei_callI1 X ml_RX10_193 dX10_isStretch_2 (ct_X10_isBulb _ _ _ _ _ _ _ _ _ _ _ _ _ _ _ _ (by first | omega | assumption)) rfl rfl (by decide) (by decide) rfl (Nat.le_of_ble_eq_true rfl) ?_
  refine ei_ifz_eq (tgt := 25) X dX10_isStretch_5 (by decide) (fun cq5 => ?_) (fun cq5 => ?_)
  · refine ei_iconst (v := 0) X dX10_isStretch_25 rfl ?_
    refine ei_zreturn X F dX10_isStretch_26 (by decide) ?_
    exact ⟨by simp [strF, bz, cq5], rfl⟩
  · refine ei_aload_n X dX10_isStretch_8 rfl rfl ?_
    refine ei_iload_n X dX10_isStretch_9 rfl rfl ?_
    refine ei_callI1 X ml_RX10_193 dX10_isStretch_10 (ct_X10_isBulb _ _ _ _ _ _ _ _ _ _ _ _ _ _ _ _ (by first | omega | assumption)) rfl rfl (by decide) (by decide) rfl (Nat.le_of_ble_eq_true rfl) ?_
    refine ei_ifz_eq (tgt := 25) X dX10_isStretch_13 (by decide) (fun cq13 => ?_) (fun cq13 => ?_)
    · refine ei_iconst (v := 0) X dX10_isStretch_25 rfl ?_
      refine ei_zreturn X F dX10_isStretch_26 (by decide) ?_
      exact ⟨by simp [strF, bz, cq5, cq13], rfl⟩
    · refine ei_iload_n X dX10_isStretch_16 rfl rfl ?_
      refine ei_iload_n X dX10_isStretch_17 rfl rfl ?_
      refine ei_icmp_gt (tgt := 25) X dX10_isStretch_18 (by decide) (fun cq18 => ?_) (fun cq18 => ?_)
      · refine ei_iconst (v := 0) X dX10_isStretch_25 rfl ?_
        refine ei_zreturn X F dX10_isStretch_26 (by decide) ?_
        exact ⟨by have h1 := Int32.not_le.mpr cq18; simp only [strF, cq5, cq13, decide_eq_false h1]; rfl, rfl⟩
      · refine ei_iconst (v := 1) X dX10_isStretch_21 rfl ?_
        refine ei_goto (tgt := 26) X dX10_isStretch_22 (by decide) ?_
        refine ei_zreturn X F dX10_isStretch_26 (by decide) ?_
        exact ⟨by have h1 := Int32.not_lt.mp cq18; simp only [strF, cq5, cq13, decide_eq_true h1]; rfl, rfl⟩
set_option maxRecDepth 100000 in
set_option maxHeartbeats 4000000 in
theorem ct_X10_forged (n : Nat) (w se sp hr lt hd sc : Int32) (so fi wo : Nat → Int32) (I : Nat → Int32) (A : Nat → Nat → Int32) (B : Nat → Nat → Int64) (K : Value) (Z : Nat → Sh) (d : Int32) (h_R : RS Z (I, A, B, K)) (h_S : Good (n, w, se, sp, hr, lt, hd, sc, so, fi, wo)) : e_Ct yX10_forged cX10_forged 4 (some .int) 3 [.ref 0, .int d] (mH (n, w, se, sp, hr, lt, hd, sc, so, fi, wo) (I, A, B, K)) (mP (some (.int (forgedF (n, w, se, sp, hr, lt, hd, sc, so, fi, wo) Z d))) (n, w, se, sp, hr, lt, hd, sc, so, fi, wo) (I, A, B, K)) := by
  refine e_open RX10 rfl (by decide +kernel) rfl (fun _ => Nat.le_of_ble_eq_true rfl) (fun x X F => ?_)
  have hR := RS_20 _ _ _ _ h_R 0
  have hn : n ≤ 10 := h_S.1
  have L : ∀ (k : Nat) (u : Int32), k < 8 → zN (Z k) ≤ 100 → A 8 k = nI (zN (Z k)) → (∀ j, j < 100 → B 9 (100 * k + j) = (zC (Z k) j).toInt64) → forgedF (n, w, se, sp, hr, lt, hd, sc, so, fi, wo) Z d = (if forgedN (n, w, se, sp, hr, lt, hd, sc, so, fi, wo) (Z k) = zN (Z k) then -4 else nI (forgedN (n, w, se, sp, hr, lt, hd, sc, so, fi, wo) (Z k))) → ∀ (c j : Nat), zN (Z k) - j < c → j ≤ 100 → forgedN (n, w, se, sp, hr, lt, hd, sc, so, fi, wo) (Z k) = firstN (fun i => !(decide (i < n) && decide (zC (Z k) i = so i))) j (zN (Z k) - j) → e_E x 19 [some (.ref 0), some (.int (nI k)), some (.int u), some (.int (nI j))] [] (mH (n, w, se, sp, hr, lt, hd, sc, so, fi, wo) (upd I 20 0, A, B, K)) := by
    intro k u hk hs z8 z9 hF c
    induction c with
    | zero => intro j hc; exact absurd hc (Nat.not_lt_zero _)
    | succ c ih =>
      intro j hc hj hv
      refine ei_iload_n X dX10_forged_19 rfl rfl ?_
      refine ei_aload_n X dX10_forged_20 rfl rfl ?_
      refine ei_getf X fl_RX10_38 dX10_forged_21 rfl rfl ?_
      refine ei_iload_n X dX10_forged_24 rfl rfl ?_
      refine ei_iaload_n X dX10_forged_25 rfl (by first | omega | assumption) (by decide) ?_
      rw [z8]
      refine ei_icmpn_ge (tgt := 67) X dX10_forged_26 (by decide) (by first | omega | assumption) (by first | omega | assumption) (fun cq26 => ?_) (fun cq26 => ?_)
      · refine ei_bipush (v := -4) X dX10_forged_67 rfl ?_
        refine ei_ireturn X F dX10_forged_69 ?_
        exact ⟨by rw [hF, if_pos (by have hle : forgedN (n, w, se, sp, hr, lt, hd, sc, so, fi, wo) (Z k) ≤ zN (Z k) := Nat.le_trans (firstN_ge _ _ _).2 (by omega); have e : forgedN (n, w, se, sp, hr, lt, hd, sc, so, fi, wo) (Z k) = j := (by rw [hv, firstN_e (by omega)]); omega)], _, kM_20 _ _ _ _ 0, rfl⟩
      · refine ei_iload_n X dX10_forged_29 rfl rfl ?_
        refine ei_aload_n X dX10_forged_30 rfl rfl ?_
        refine ei_getf X fl_RX10_81 dX10_forged_31 rfl rfl ?_
        refine ei_icmpn_ge (tgt := 59) X dX10_forged_34 (by decide) (by first | omega | assumption) (by first | omega | assumption) (fun cq34 => ?_) (fun cq34 => ?_)
        · refine ei_iload_n X dX10_forged_59 rfl rfl ?_
          refine ei_ireturn X F dX10_forged_60 ?_
          exact ⟨by rw [hF, hv, firstN_t (by omega) (by rw [decide_eq_false (show ¬ j < n by omega)]; rfl), if_neg (by omega)], _, kM_20 _ _ _ _ 0, rfl⟩
        · refine ei_aload_n X dX10_forged_37 rfl rfl ?_
          refine ei_getf X fl_RX10_41 dX10_forged_38 rfl rfl ?_
          refine ei_bipush (v := nI 100) X dX10_forged_41 rfl ?_
          refine ei_iload_n X dX10_forged_43 rfl rfl ?_
          refine ei_imul X dX10_forged_44 ?_
          rw [nI_mul]
          refine ei_iload_n X dX10_forged_45 rfl rfl ?_
          refine ei_iadd X dX10_forged_46 ?_
          rw [nI_add]
          refine ei_laload_n X dX10_forged_47 rfl (by first | omega | assumption) (by decide) ?_
          rw [z9 j (by omega)]
          refine ei_aload_n X dX10_forged_48 rfl rfl ?_
          refine ei_getf X fl_RX10_7 dX10_forged_49 rfl rfl ?_
          refine ei_iload_n X dX10_forged_52 rfl rfl ?_
          refine ei_iaload_n X dX10_forged_53 rfl (by first | omega | assumption) (by decide) ?_
          refine ei_i2l X dX10_forged_54 ?_
          refine ei_lcmp X dX10_forged_55 ?_
          refine ei_ifc_eq (tgt := 61) X dX10_forged_56 (by decide) (fun cq56 => ?_) (fun cq56 => ?_)
          · refine ei_iinc_n X dX10_forged_61 rfl rfl ?_
            refine ei_goto (tgt := 19) X dX10_forged_64 (by decide) ?_
            exact ih (j + 1) (by omega) (by omega) (by rw [hv, firstN_f (by omega) (by rw [decide_eq_true (show j < n by omega), decide_eq_true ((i64_eq _ _).mp cq56)]; rfl)])
          · refine ei_iload_n X dX10_forged_59 rfl rfl ?_
            refine ei_ireturn X F dX10_forged_60 ?_
            exact ⟨by rw [hF, hv, firstN_t (by omega) (by rw [decide_eq_true (show j < n by omega), decide_eq_false (fun z => cq56 ((i64_eq _ _).mpr z))]; rfl), if_neg (by omega)], _, kM_20 _ _ _ _ 0, rfl⟩
  refine ei_aload_n X dX10_forged_0 rfl rfl ?_
  refine ei_iconst (v := 0) X dX10_forged_1 rfl ?_
  refine ei_puti X fp_RX10_78 dX10_forged_2 rfl (Nat.le_of_ble_eq_true rfl) (pm_20 _ _ _ _ _ _ _ _ _ _ _ _ _ _ _ _) ?_
  refine ei_aload_n X dX10_forged_5 rfl rfl ?_
  refine ei_iload_n X dX10_forged_6 rfl rfl ?_
  refine ei_callI1 X ml_RX10_219 dX10_forged_7 (ct_X10_wrongRow _ _ _ _ _ _ _ _ _ _ _ _ _ _ _ Z _ hR) rfl rfl (by decide) (by decide) rfl (Nat.le_of_ble_eq_true rfl) ?_
  refine ei_istore_n X dX10_forged_10 rfl (Nat.le_of_ble_eq_true rfl) rfl ?_
  refine ei_iload_n X dX10_forged_11 rfl rfl ?_
  refine ei_if_ge (tgt := 17) X dX10_forged_12 (by decide) (fun cq12 => ?_) (fun cq12 => ?_)
  · have w0 := wrongRow_ge.mp cq12
    obtain ⟨k, hk, rfl, hz⟩ := wrongRow_0 w0
    have hnc : nc (nI k) = k := nc_nI (by omega)
    obtain ⟨o1, o2, o3, o4⟩ := h_R k hk
    obtain ⟨z7, z8, z9⟩ := o4 hz
    obtain ⟨hkk, hs⟩ := o1.2.2 hz
    simp only at z7 z8 z9
    refine ei_iconst (v := 0) X dX10_forged_17 rfl ?_
    refine ei_istore_n X dX10_forged_18 rfl (Nat.le_of_ble_eq_true rfl) rfl ?_
    exact L k _ hk hs z8 z9 (by unfold forgedF; rw [if_pos w0, hnc]) 101 0 (by omega) (by omega) rfl
  · refine ei_iload_n X dX10_forged_15 rfl rfl ?_
    refine ei_ireturn X F dX10_forged_16 ?_
    exact ⟨by unfold forgedF; rw [if_neg (fun z => cq12 (wrongRow_ge.mpr z))], _, kM_20 _ _ _ _ 0, rfl⟩

