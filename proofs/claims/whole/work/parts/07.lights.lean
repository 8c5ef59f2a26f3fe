set_option maxRecDepth 100000 in
set_option maxHeartbeats 4000000 in
theorem ct_X2_allLead (n : Nat) (w se sp hr lt hd sc : Int32) (so fi wo : Nat → Int32) (i e : Nat) (h : Int32) (h_i : i ≤ 10) (h_e : e ≤ 10) : e_Ct yX2_allLead cX2_allLead 5 (some .boolean) 3 [.ref 0, .int (nI i), .int (nI e), .int h] (lH (n, w, se, sp, hr, lt, hd, sc, so, fi, wo)) (e_eq (some (.int (bz (leadAll (n, w, se, sp, hr, lt, hd, sc, so, fi, wo) i e h)))) (lH (n, w, se, sp, hr, lt, hd, sc, so, fi, wo))) := by
  refine e_open RX2 rfl (by decide +kernel) rfl (fun _ => Nat.le_of_ble_eq_true rfl) (fun x X F => ?_)
  have L : ∀ (k j : Nat), e - j < k → j ≤ 10 → leadAll (n, w, se, sp, hr, lt, hd, sc, so, fi, wo) i e h = leadAll (n, w, se, sp, hr, lt, hd, sc, so, fi, wo) j e h → e_E x 3 [some (.ref 0), some (.int (nI i)), some (.int (nI e)), some (.int h), some (.int (nI j))] [] (lH (n, w, se, sp, hr, lt, hd, sc, so, fi, wo)) := by
    intro k
    induction k with
    | zero => intro j hk; exact absurd hk (Nat.not_lt_zero _)
    | succ k ih =>
      intro j hk hj hv
      refine ei_iload X dX2_allLead_3 rfl ?_
      refine ei_iload_n X dX2_allLead_5 rfl rfl ?_
      refine ei_icmpn_ge (tgt := 27) X dX2_allLead_6 (by decide) (by first | omega | assumption) (by first | omega | assumption) (fun cq6 => ?_) (fun cq6 => ?_)
      · refine ei_iconst (v := 1) X dX2_allLead_27 rfl ?_
        refine ei_zreturn X F dX2_allLead_28 (by decide) ?_
        exact ⟨by rw [hv, leadAll_ge cq6]; rfl, rfl⟩
      · refine ei_aload_n X dX2_allLead_9 rfl rfl ?_
        refine ei_iload X dX2_allLead_10 rfl ?_
        refine ei_iload_n X dX2_allLead_12 rfl rfl ?_
        refine ei_callI1 X ml_RX2_105 dX2_allLead_13 (ct_X2_leads _ _ _ _ _ _ _ _ _ _ _ _ _ (by first | omega | assumption)) rfl rfl (by decide) (by decide) rfl (Nat.le_of_ble_eq_true rfl) ?_
        refine ei_ifz_ne (tgt := 21) X dX2_allLead_16 (by decide) (fun cq16 => ?_) (fun cq16 => ?_)
        · refine ei_iinc_n X dX2_allLead_21 rfl rfl ?_
          refine ei_goto (tgt := 3) X dX2_allLead_24 (by decide) ?_
          exact ih (j + 1) (by omega) (by omega) (by rw [hv, leadAll_lt (by omega), cq16]; rfl)
        · refine ei_iconst (v := 0) X dX2_allLead_19 rfl ?_
          refine ei_zreturn X F dX2_allLead_20 (by decide) ?_
          exact ⟨by rw [hv, leadAll_lt (by omega), cq16]; rfl, rfl⟩
  refine ei_iload_n X dX2_allLead_0 rfl rfl ?_
  refine ei_istore X dX2_allLead_1 (Nat.le_of_ble_eq_true rfl) rfl ?_
  exact L (e - i + 1) i (by omega) h_i rfl
set_option maxRecDepth 100000 in
set_option maxHeartbeats 4000000 in
theorem ct_X2_burns (n : Nat) (w se sp hr lt hd sc : Int32) (so fi wo : Nat → Int32) (h : Int32) (h_n : n ≤ 10) : e_Ct yX2_burns cX2_burns 2 (some .boolean) 4 [.ref 0, .int h] (lH (n, w, se, sp, hr, lt, hd, sc, so, fi, wo)) (e_eq (some (.int (bz (burnsF (n, w, se, sp, hr, lt, hd, sc, so, fi, wo) h)))) (lH (n, w, se, sp, hr, lt, hd, sc, so, fi, wo))) := by
  refine e_open RX2 rfl (by decide +kernel) rfl (fun _ => Nat.le_of_ble_eq_true rfl) (fun x X F => ?_)
  have e4 : nI n ≤ 0 ↔ n = 0 := nI_le0 (by omega)
  refine ei_aload_n X dX2_burns_0 rfl rfl ?_
  refine ei_getf X fl_RX2_31 dX2_burns_1 rfl rfl ?_
  refine ei_if_le (tgt := 24) X dX2_burns_4 (by decide) (fun cq4 => ?_) (fun cq4 => ?_)
  · refine ei_iconst (v := 0) X dX2_burns_24 rfl ?_
    refine ei_zreturn X F dX2_burns_25 (by decide) ?_
    exact ⟨by simp_all [burnsF, bz, Nat.pos_iff_ne_zero, sN, sW, sE, sP, sH, sL, sD, sC, sO, sG, sR], rfl⟩
  · refine ei_aload_n X dX2_burns_7 rfl rfl ?_
    refine ei_iconst (v := 0) X dX2_burns_8 rfl ?_
    refine ei_aload_n X dX2_burns_9 rfl rfl ?_
    refine ei_getf X fl_RX2_31 dX2_burns_10 rfl rfl ?_
    refine ei_iload_n X dX2_burns_13 rfl rfl ?_
    refine ei_callI1 X ml_RX2_108 dX2_burns_14 (ct_X2_allLead _ _ _ _ _ _ _ _ _ _ _ 0 _ _ (by omega) (by omega)) rfl rfl (by decide) (by decide) rfl (Nat.le_of_ble_eq_true rfl) ?_
    refine ei_ifz_eq (tgt := 24) X dX2_burns_17 (by decide) (fun cq17 => ?_) (fun cq17 => ?_)
    · refine ei_iconst (v := 0) X dX2_burns_24 rfl ?_
      refine ei_zreturn X F dX2_burns_25 (by decide) ?_
      exact ⟨by simp_all [burnsF, bz, Nat.pos_iff_ne_zero, sN, sW, sE, sP, sH, sL, sD, sC, sO, sG, sR], rfl⟩
    · refine ei_iconst (v := 1) X dX2_burns_20 rfl ?_
      refine ei_goto (tgt := 25) X dX2_burns_21 (by decide) ?_
      refine ei_zreturn X F dX2_burns_25 (by decide) ?_
      exact ⟨by simp_all [burnsF, bz, Nat.pos_iff_ne_zero, sN, sW, sE, sP, sH, sL, sD, sC, sO, sG, sR], rfl⟩
set_option maxRecDepth 100000 in
set_option maxHeartbeats 4000000 in
theorem ct_X2_wholeOnes (n : Nat) (w se sp hr lt hd sc : Int32) (so fi wo : Nat → Int32) (i e : Nat) (h_i : i ≤ 10) (h_e : e ≤ 10) : e_Ct yX2_wholeOnes cX2_wholeOnes 5 (some .int) 2 [.ref 0, .int (nI i), .int (nI e)] (lH (n, w, se, sp, hr, lt, hd, sc, so, fi, wo)) (e_eq (some (.int (wholeN w i e))) (lH (n, w, se, sp, hr, lt, hd, sc, so, fi, wo))) := by
  refine e_open RX2 rfl (by decide +kernel) rfl (fun _ => Nat.le_of_ble_eq_true rfl) (fun x X F => ?_)
  have L : ∀ (k j : Nat) (a : Int32), e - j < k → j ≤ 10 → wholeN w i e = cntF (fun b => hasB w b) a j e → e_E x 5 [some (.ref 0), some (.int (nI i)), some (.int (nI e)), some (.int a), some (.int (nI j))] [] (lH (n, w, se, sp, hr, lt, hd, sc, so, fi, wo)) := by
    intro k
    induction k with
    | zero => intro j a hk; exact absurd hk (Nat.not_lt_zero _)
    | succ k ih =>
      intro j a hk hj hv
      refine ei_iload X dX2_wholeOnes_5 rfl ?_
      refine ei_iload_n X dX2_wholeOnes_7 rfl rfl ?_
      refine ei_icmpn_ge (tgt := 29) X dX2_wholeOnes_8 (by decide) (by first | omega | assumption) (by first | omega | assumption) (fun cq8 => ?_) (fun cq8 => ?_)
      · refine ei_iload_n X dX2_wholeOnes_29 rfl rfl ?_
        refine ei_ireturn X F dX2_wholeOnes_30 ?_
        exact ⟨by rw [hv, cntF_ge cq8], rfl⟩
      · refine ei_aload_n X dX2_wholeOnes_11 rfl rfl ?_
        refine ei_iload X dX2_wholeOnes_12 rfl ?_
        refine ei_callI1 X ml_RX2_95 dX2_wholeOnes_14 (ct_X2_isWhole _ _ _ _ _ _ _ _ _ _ _ _) rfl rfl (by decide) (by decide) rfl (Nat.le_of_ble_eq_true rfl) ?_
        refine ei_ifz_eq (tgt := 23) X dX2_wholeOnes_17 (by decide) (fun cq17 => ?_) (fun cq17 => ?_)
        · refine ei_iinc_n X dX2_wholeOnes_23 rfl rfl ?_
          refine ei_goto (tgt := 5) X dX2_wholeOnes_26 (by decide) ?_
          exact ih (j + 1) _ (by omega) (by omega) (by rw [hv, cntF_lt (by omega), cq17]; rfl)
        · refine ei_iinc (v := _ + 1) X dX2_wholeOnes_20 rfl rfl rfl ?_
          refine ei_iinc_n X dX2_wholeOnes_23 rfl rfl ?_
          refine ei_goto (tgt := 5) X dX2_wholeOnes_26 (by decide) ?_
          exact ih (j + 1) _ (by omega) (by omega) (by rw [hv, cntF_lt (by omega), cq17]; rfl)
  refine ei_iconst (v := 0) X dX2_wholeOnes_0 rfl ?_
  refine ei_istore_n X dX2_wholeOnes_1 rfl (Nat.le_of_ble_eq_true rfl) rfl ?_
  refine ei_iload_n X dX2_wholeOnes_2 rfl rfl ?_
  refine ei_istore X dX2_wholeOnes_3 (Nat.le_of_ble_eq_true rfl) rfl ?_
  exact L (e - i + 1) i 0 (by omega) h_i rfl
set_option maxRecDepth 100000 in
set_option maxHeartbeats 4000000 in
theorem ct_X2_breakOrMend (n : Nat) (w se sp hr lt hd sc : Int32) (so fi wo : Nat → Int32) (b : Nat) : e_Ct yX2_breakOrMend cX2_breakOrMend 2 none 1 [.ref 0, .int (nI b)] (lH (n, w, se, sp, hr, lt, hd, sc, so, fi, wo)) (e_eq none (lH (n, w ^^^ bitI b, se, sp, hr, lt, hd, sc, so, fi, wo))) := by
  refine e_open RX2 rfl (by decide +kernel) rfl (fun _ => Nat.le_of_ble_eq_true rfl) (fun x X F => ?_)
  refine ei_aload_n X dX2_breakOrMend_0 rfl rfl ?_
  refine ei_dup X dX2_breakOrMend_1 rfl ?_
  refine ei_getf X fl_RX2_34 dX2_breakOrMend_2 rfl rfl ?_
  refine ei_iconst (v := 1) X dX2_breakOrMend_5 rfl ?_
  refine ei_iload_n X dX2_breakOrMend_6 rfl rfl ?_
  refine ei_ishl X dX2_breakOrMend_7 ?_
  refine ei_ixor X dX2_breakOrMend_8 ?_
  refine ei_puti X fp_RX2_34 dX2_breakOrMend_9 rfl (Nat.le_of_ble_eq_true rfl) (pl_1_4 _ _ _ _ _ _ _ _ _ _ _ _) ?_
  refine ei_vreturn X F dX2_breakOrMend_12 ?_
  exact ⟨rfl, rfl⟩
set_option maxRecDepth 100000 in
set_option maxHeartbeats 4000000 in
theorem ct_X2_wear (n : Nat) (w se sp hr lt hd sc : Int32) (so fi wo : Nat → Int32) (i e : Nat) (t : Int32) (h_i : i ≤ 10) (h_e : e ≤ 10) : e_Ct yX2_wear cX2_wear 7 none 3 [.ref 0, .int (nI i), .int (nI e), .int t] (lH (n, w, se, sp, hr, lt, hd, sc, so, fi, wo)) (e_eq none (lH (n, (wearV (n, w, se, sp, hr, lt, hd, sc, so, fi, wo) i e t).1, se, sp, hr, lt, hd, sc, so, fi, (wearV (n, w, se, sp, hr, lt, hd, sc, so, fi, wo) i e t).2))) := by
  refine e_open RX2 rfl (by decide +kernel) rfl (fun _ => Nat.le_of_ble_eq_true rfl) (fun x X F => ?_)
  have L : ∀ (vo : Int32) (k j : Nat) (w2 : Int32) (r : Nat → Int32), e - j < k → j ≤ 10 → wearV (n, w, se, sp, hr, lt, hd, sc, so, fi, wo) i e t = itr (wear1 so fi vo) (w2, r) j (e - j) → e_E x 29 [some (.ref 0), some (.int (nI i)), some (.int (nI e)), some (.int t), some (.int (wholeN w i e)), some (.int vo), some (.int (nI j))] [] (lH (n, w2, se, sp, hr, lt, hd, sc, so, fi, r)) := by
    intro vo k
    induction k with
    | zero => intro j w2 r hk; exact absurd hk (Nat.not_lt_zero _)
    | succ k ih =>
      intro j w2 r hk hj hv
      refine ei_iload X dX2_wear_29 rfl ?_
      refine ei_iload_n X dX2_wear_31 rfl rfl ?_
      refine ei_icmpn_ge (tgt := 116) X dX2_wear_32 (by decide) (by first | omega | assumption) (by first | omega | assumption) (fun cq32 => ?_) (fun cq32 => ?_)
      · refine ei_vreturn X F dX2_wear_116 ?_
        exact ⟨rfl, by rw [hv, itr_ge _ _ cq32]⟩
      · refine ei_aload_n X dX2_wear_35 rfl rfl ?_
        refine ei_iload X dX2_wear_36 rfl ?_
        refine ei_callI1 X ml_RX2_95 dX2_wear_38 (ct_X2_isWhole _ _ _ _ _ _ _ _ _ _ _ _) rfl rfl (by decide) (by decide) rfl (Nat.le_of_ble_eq_true rfl) ?_
        refine ei_ifz_ne (tgt := 47) X dX2_wear_41 (by decide) (fun cq41 => ?_) (fun cq41 => ?_)
        · refine ei_aload_n X dX2_wear_47 rfl rfl ?_
          refine ei_getf X fl_RX2_18 dX2_wear_48 rfl rfl ?_
          refine ei_iload X dX2_wear_51 rfl ?_
          refine ei_aload_n X dX2_wear_53 rfl rfl ?_
          refine ei_getf X fl_RX2_18 dX2_wear_54 rfl rfl ?_
          refine ei_iload X dX2_wear_57 rfl ?_
          refine ei_iaload_n X dX2_wear_59 rfl (by first | omega | assumption) (by decide) ?_
          refine ei_aload_n X dX2_wear_60 rfl rfl ?_
          refine ei_getf X fl_RX2_9 dX2_wear_61 rfl rfl ?_
          refine ei_iload X dX2_wear_64 rfl ?_
          refine ei_iaload_n X dX2_wear_66 rfl (by first | omega | assumption) (by decide) ?_
          refine ei_aload_n X dX2_wear_67 rfl rfl ?_
          refine ei_getf X fl_RX2_15 dX2_wear_68 rfl rfl ?_
          refine ei_iload X dX2_wear_71 rfl ?_
          refine ei_iaload_n X dX2_wear_73 rfl (by first | omega | assumption) (by decide) ?_
          refine ei_callT1 X ml_RX2_115 dX2_wear_74 (ct_X5_glow _ _ _) rfl rfl (by decide) (by decide) (Nat.le_of_ble_eq_true rfl) ?_
          refine ei_iadd X dX2_wear_77 ?_
          refine ei_iload X dX2_wear_78 rfl ?_
          refine ei_iadd X dX2_wear_80 ?_
          refine ei_sipush (v := 999) X dX2_wear_81 rfl ?_
          refine ei_mmin X ml_RX2_92 dX2_wear_84 (Nat.le_of_ble_eq_true rfl) ?_
          refine ei_iastore_n X dX2_wear_87 rfl (by first | omega | assumption) (by decide) (pl_r3 _ _ _ _ _ _ _ _ _ _ _ _) ?_
          refine ei_aload_n X dX2_wear_88 rfl rfl ?_
          refine ei_getf X fl_RX2_18 dX2_wear_89 rfl rfl ?_
          refine ei_iload X dX2_wear_92 rfl ?_
          refine ei_iaload_n X dX2_wear_94 rfl (by first | omega | assumption) (by decide) ?_
          refine ei_aload_n X dX2_wear_95 rfl rfl ?_
          refine ei_iload X dX2_wear_96 rfl ?_
          refine ei_callI1 X ml_RX2_62 dX2_wear_98 (ct_X2_lifeOf _ _ _ _ _ _ _ _ _ _ _ _ (by first | omega | assumption)) rfl rfl (by decide) (by decide) rfl (Nat.le_of_ble_eq_true rfl) ?_
          rw [pk_us]
          refine ei_icmp_lt (tgt := 110) X dX2_wear_101 (by decide) (fun cq101 => ?_) (fun cq101 => ?_)
          · refine ei_iinc_n X dX2_wear_110 rfl rfl ?_
            refine ei_goto (tgt := 29) X dX2_wear_113 (by decide) ?_
            exact ih (j + 1) _ _ (by omega) (by omega) (by rw [hv, itr_lt _ _ (by omega)]; congr 1; have h1 : ¬ lifeF (so j) (fi j) ≤ min9 (r j + glowF (so j) (fi j) + vo) 999 := Int32.not_le.mpr cq101; simp only [wear1, cq41, if_true, if_neg h1])
          · refine ei_aload_n X dX2_wear_104 rfl rfl ?_
            refine ei_iload X dX2_wear_105 rfl ?_
            refine ei_callI0 X ml_RX2_118 dX2_wear_107 (ct_X2_breakOrMend _ _ _ _ _ _ _ _ _ _ _ _) rfl rfl (by decide) (by decide) rfl (Nat.le_of_ble_eq_true rfl) ?_
            refine ei_iinc_n X dX2_wear_110 rfl rfl ?_
            refine ei_goto (tgt := 29) X dX2_wear_113 (by decide) ?_
            exact ih (j + 1) _ _ (by omega) (by omega) (by rw [hv, itr_lt _ _ (by omega)]; congr 1; have h1 : lifeF (so j) (fi j) ≤ min9 (r j + glowF (so j) (fi j) + vo) 999 := Int32.not_lt.mp cq101; simp only [wear1, cq41, if_true, if_pos h1])
        · refine ei_goto (tgt := 110) X dX2_wear_44 (by decide) ?_
          refine ei_iinc_n X dX2_wear_110 rfl rfl ?_
          refine ei_goto (tgt := 29) X dX2_wear_113 (by decide) ?_
          exact ih (j + 1) _ _ (by omega) (by omega) (by rw [hv, itr_lt _ _ (by omega)]; congr 1; simp [wear1, cq41])
  refine ei_aload_n X dX2_wear_0 rfl rfl ?_
  refine ei_iload_n X dX2_wear_1 rfl rfl ?_
  refine ei_iload_n X dX2_wear_2 rfl rfl ?_
  refine ei_callI1 X ml_RX2_112 dX2_wear_3 (ct_X2_wholeOnes _ _ _ _ _ _ _ _ _ _ _ _ _ (by first | omega | assumption) (by first | omega | assumption)) rfl rfl (by decide) (by decide) rfl (Nat.le_of_ble_eq_true rfl) ?_
  refine ei_istore X dX2_wear_6 (Nat.le_of_ble_eq_true rfl) rfl ?_
  refine ei_iload X dX2_wear_8 rfl ?_
  refine ei_if_le (tgt := 23) X dX2_wear_10 (by decide) (fun cq10 => ?_) (fun cq10 => ?_)
  · refine ei_iconst (v := 0) X dX2_wear_23 rfl ?_
    refine ei_istore X dX2_wear_24 (Nat.le_of_ble_eq_true rfl) rfl ?_
    refine ei_iload_n X dX2_wear_26 rfl rfl ?_
    refine ei_istore X dX2_wear_27 (Nat.le_of_ble_eq_true rfl) rfl ?_
    exact L _ (e - i + 1) i w wo (by omega) h_i (by unfold wearV; rw [show voltsF (wholeN (sW (n, w, se, sp, hr, lt, hd, sc, so, fi, wo)) i e) t = 0 from by simp [voltsF, cq10]])
  · refine ei_bipush (v := 60) X dX2_wear_13 rfl ?_
    refine ei_iload X dX2_wear_15 rfl ?_
    refine ei_idiv X dX2_wear_17 (by intro q; rw [q] at cq10; exact absurd cq10 (by decide)) ?_
    refine ei_iload_n X dX2_wear_18 rfl rfl ?_
    refine ei_imul X dX2_wear_19 ?_
    refine ei_goto (tgt := 24) X dX2_wear_20 (by decide) ?_
    refine ei_istore X dX2_wear_24 (Nat.le_of_ble_eq_true rfl) rfl ?_
    refine ei_iload_n X dX2_wear_26 rfl rfl ?_
    refine ei_istore X dX2_wear_27 (Nat.le_of_ble_eq_true rfl) rfl ?_
    exact L _ (e - i + 1) i w wo (by omega) h_i (by unfold wearV; rw [show voltsF (wholeN (sW (n, w, se, sp, hr, lt, hd, sc, so, fi, wo)) i e) t = 60 / wholeN w i e * t from by simp only [voltsF, if_neg cq10]])
set_option maxRecDepth 100000 in
set_option maxHeartbeats 4000000 in
theorem ct_X2_unseatLoose (n : Nat) (w se sp hr lt hd sc : Int32) (so fi wo : Nat → Int32) (h_n : n ≤ 10) : e_Ct yX2_unseatLoose cX2_unseatLoose 2 none 2 [.ref 0] (lH (n, w, se, sp, hr, lt, hd, sc, so, fi, wo)) (e_eq none (lH (n, w, unseatF n so fi hr se, sp, hr, lt, hd, sc, so, fi, wo))) := by
  refine e_open RX2 rfl (by decide +kernel) rfl (fun _ => Nat.le_of_ble_eq_true rfl) (fun x X F => ?_)
  have L : ∀ (k j : Nat) (se2 : Int32), n - j < k → j ≤ 10 → unseatF n so fi hr se = itr (unseat1 so fi hr) se2 j (n - j) → e_E x 2 [some (.ref 0), some (.int (nI j))] [] (lH (n, w, se2, sp, hr, lt, hd, sc, so, fi, wo)) := by
    intro k
    induction k with
    | zero => intro j se2 hk; exact absurd hk (Nat.not_lt_zero _)
    | succ k ih =>
      intro j se2 hk hj hv
      refine ei_iload_n X dX2_unseatLoose_2 rfl rfl ?_
      refine ei_aload_n X dX2_unseatLoose_3 rfl rfl ?_
      refine ei_getf X fl_RX2_31 dX2_unseatLoose_4 rfl rfl ?_
      refine ei_icmpn_ge (tgt := 58) X dX2_unseatLoose_7 (by decide) (by first | omega | assumption) (by first | omega | assumption) (fun cq7 => ?_) (fun cq7 => ?_)
      · refine ei_vreturn X F dX2_unseatLoose_58 ?_
        exact ⟨rfl, by rw [hv, itr_ge _ _ (by omega)]⟩
      · refine ei_aload_n X dX2_unseatLoose_10 rfl rfl ?_
        refine ei_getf X fl_RX2_9 dX2_unseatLoose_11 rfl rfl ?_
        refine ei_iload_n X dX2_unseatLoose_14 rfl rfl ?_
        refine ei_iaload_n X dX2_unseatLoose_15 rfl (by first | omega | assumption) (by decide) ?_
        refine ei_iconst (v := 1) X dX2_unseatLoose_16 rfl ?_
        refine ei_icmp_ne (tgt := 52) X dX2_unseatLoose_17 (by decide) (fun cq17 => ?_) (fun cq17 => ?_)
        · refine ei_iinc_n X dX2_unseatLoose_52 rfl rfl ?_
          refine ei_goto (tgt := 2) X dX2_unseatLoose_55 (by decide) ?_
          exact ih (j + 1) _ (by omega) (by omega) (by rw [hv, itr_lt _ _ (by omega)]; congr 1; simp [unseat1, cq17])
        · refine ei_aload_n X dX2_unseatLoose_20 rfl rfl ?_
          refine ei_getf X fl_RX2_15 dX2_unseatLoose_21 rfl rfl ?_
          refine ei_iload_n X dX2_unseatLoose_24 rfl rfl ?_
          refine ei_iaload_n X dX2_unseatLoose_25 rfl (by first | omega | assumption) (by decide) ?_
          refine ei_iconst (v := 3) X dX2_unseatLoose_26 rfl ?_
          refine ei_iadd X dX2_unseatLoose_27 ?_
          refine ei_aload_n X dX2_unseatLoose_28 rfl rfl ?_
          refine ei_getf X fl_RX2_40 dX2_unseatLoose_29 rfl rfl ?_
          refine ei_callT1 X ml_RX2_101 dX2_unseatLoose_32 (ct_X2_divides _ _ _) rfl rfl (by decide) (by decide) (Nat.le_of_ble_eq_true rfl) ?_
          refine ei_ifz_eq (tgt := 52) X dX2_unseatLoose_35 (by decide) (fun cq35 => ?_) (fun cq35 => ?_)
          · refine ei_iinc_n X dX2_unseatLoose_52 rfl rfl ?_
            refine ei_goto (tgt := 2) X dX2_unseatLoose_55 (by decide) ?_
            exact ih (j + 1) _ (by omega) (by omega) (by rw [hv, itr_lt _ _ (by omega)]; congr 1; simp [unseat1, cq17, cq35])
          · refine ei_aload_n X dX2_unseatLoose_38 rfl rfl ?_
            refine ei_dup X dX2_unseatLoose_39 rfl ?_
            refine ei_getf X fl_RX2_37 dX2_unseatLoose_40 rfl rfl ?_
            refine ei_iconst (v := 1) X dX2_unseatLoose_43 rfl ?_
            refine ei_iload_n X dX2_unseatLoose_44 rfl rfl ?_
            refine ei_ishl X dX2_unseatLoose_45 ?_
            refine ei_iconst (v := -1) X dX2_unseatLoose_46 rfl ?_
            refine ei_ixor X dX2_unseatLoose_47 ?_
            refine ei_iand X dX2_unseatLoose_48 ?_
            refine ei_puti X fp_RX2_37 dX2_unseatLoose_49 rfl (Nat.le_of_ble_eq_true rfl) (pl_1_5 _ _ _ _ _ _ _ _ _ _ _ _) ?_
            refine ei_iinc_n X dX2_unseatLoose_52 rfl rfl ?_
            refine ei_goto (tgt := 2) X dX2_unseatLoose_55 (by decide) ?_
            exact ih (j + 1) _ (by omega) (by omega) (by rw [hv, itr_lt _ _ (by omega)]; congr 1; simp [unseat1, cq17, cq35])
  refine ei_iconst (v := 0) X dX2_unseatLoose_0 rfl ?_
  refine ei_istore_n X dX2_unseatLoose_1 rfl (Nat.le_of_ble_eq_true rfl) rfl ?_
  exact L (n + 1) 0 se (by omega) (by omega) rfl
set_option maxRecDepth 100000 in
set_option maxHeartbeats 4000000 in
theorem ct_X2_passHour (n : Nat) (w se sp hr lt hd sc : Int32) (so fi wo : Nat → Int32) (t : Int32) (h_n : n ≤ 10) : e_Ct yX2_passHour cX2_passHour 3 (some .boolean) 4 [.ref 0, .int t] (lH (n, w, se, sp, hr, lt, hd, sc, so, fi, wo)) (e_eq (some (.int (bz (hourB (n, w, se, sp, hr, lt, hd, sc, so, fi, wo))))) (lH (n, (hourQ (n, w, se, sp, hr, lt, hd, sc, so, fi, wo) t).1, hourE (n, w, se, sp, hr, lt, hd, sc, so, fi, wo), sp, hr + 1, hourL (n, w, se, sp, hr, lt, hd, sc, so, fi, wo), hd, sc, so, fi, (hourQ (n, w, se, sp, hr, lt, hd, sc, so, fi, wo) t).2))) := by
  refine e_open RX2 rfl (by decide +kernel) rfl (fun _ => Nat.le_of_ble_eq_true rfl) (fun x X F => ?_)
  have e4 : nI n ≤ 0 ↔ n = 0 := nI_le0 (by omega)
  have eB : leadAll (n, w, se, sp, hr + 1, lt, hd, sc, so, fi, wo) 0 n (hr + 1) = leadAll (n, w, se, sp, hr, lt, hd, sc, so, fi, wo) 0 n (hr + 1) := rfl
  have eW : wearV (n, w, se, sp, hr + 1, if 999 < lt + 1 then 999 else lt + 1, hd, sc, so, fi, wo) 0 n t = wearV (n, w, se, sp, hr, lt, hd, sc, so, fi, wo) 0 n t := rfl
  have b1 : n = 0 → hourB (n, w, se, sp, hr, lt, hd, sc, so, fi, wo) = false := fun q => by simp [hourB, burnsF, sN, sW, sE, sP, sH, sL, sD, sC, sO, sG, sR, q]
  have b2 : leadAll (n, w, se, sp, hr + 1, lt, hd, sc, so, fi, wo) 0 n (hr + 1) = false → hourB (n, w, se, sp, hr, lt, hd, sc, so, fi, wo) = false := fun q => by rw [eB] at q; simp [hourB, burnsF, sN, sW, sE, sP, sH, sL, sD, sC, sO, sG, sR, q]
  have b3 : ¬ n = 0 → leadAll (n, w, se, sp, hr + 1, lt, hd, sc, so, fi, wo) 0 n (hr + 1) = true → hourB (n, w, se, sp, hr, lt, hd, sc, so, fi, wo) = true := fun z q => by rw [eB] at q; simp [hourB, burnsF, sN, sW, sE, sP, sH, sL, sD, sC, sO, sG, sR, q, Nat.pos_iff_ne_zero, z]
  have J0 : hourB (n, w, se, sp, hr, lt, hd, sc, so, fi, wo) = false → e_E x 69 [some (.ref 0), some (.int t), some (.int 0)] [] (lH (n, w, se, sp, hr + 1, lt, hd, sc, so, fi, wo)) := by
    intro q
    refine ei_aload_n X dX2_passHour_69 rfl rfl ?_
    refine ei_callI0 X ml_RX2_124 dX2_passHour_70 (ct_X2_unseatLoose _ _ _ _ _ _ _ _ _ _ _ (by first | omega | assumption)) rfl rfl (by decide) (by decide) rfl (Nat.le_of_ble_eq_true rfl) ?_
    refine ei_iload_n X dX2_passHour_73 rfl rfl ?_
    refine ei_zreturn X F dX2_passHour_74 (by decide) ?_
    exact ⟨by rw [q]; rfl, by simp only [hourQ, hourL, hourE, q, if_false, Bool.false_eq_true, sN, sW, sE, sP, sH, sL, sD, sC, sO, sG, sR]⟩
  have J1 : hourB (n, w, se, sp, hr, lt, hd, sc, so, fi, wo) = true → e_E x 69 [some (.ref 0), some (.int t), some (.int 1)] [] (lH (n, (wearV (n, w, se, sp, hr, lt, hd, sc, so, fi, wo) 0 n t).1, se, sp, hr + 1, min9 (lt + 1) 999, hd, sc, so, fi, (wearV (n, w, se, sp, hr, lt, hd, sc, so, fi, wo) 0 n t).2)) := by
    intro q
    refine ei_aload_n X dX2_passHour_69 rfl rfl ?_
    refine ei_callI0 X ml_RX2_124 dX2_passHour_70 (ct_X2_unseatLoose _ _ _ _ _ _ _ _ _ _ _ (by first | omega | assumption)) rfl rfl (by decide) (by decide) rfl (Nat.le_of_ble_eq_true rfl) ?_
    refine ei_iload_n X dX2_passHour_73 rfl rfl ?_
    refine ei_zreturn X F dX2_passHour_74 (by decide) ?_
    exact ⟨by rw [q]; rfl, by simp only [hourQ, hourL, hourE, q, if_true, sN, sW, sE, sP, sH, sL, sD, sC, sO, sG, sR]⟩
  refine ei_aload_n X dX2_passHour_0 rfl rfl ?_
  refine ei_dup X dX2_passHour_1 rfl ?_
  refine ei_getf X fl_RX2_40 dX2_passHour_2 rfl rfl ?_
  refine ei_iconst (v := 1) X dX2_passHour_5 rfl ?_
  refine ei_iadd X dX2_passHour_6 ?_
  refine ei_puti X fp_RX2_40 dX2_passHour_7 rfl (Nat.le_of_ble_eq_true rfl) (pl_1_7 _ _ _ _ _ _ _ _ _ _ _ _) ?_
  refine ei_aload_n X dX2_passHour_10 rfl rfl ?_
  refine ei_getf X fl_RX2_31 dX2_passHour_11 rfl rfl ?_
  refine ei_if_le (tgt := 37) X dX2_passHour_14 (by decide) (fun cq14 => ?_) (fun cq14 => ?_)
  · refine ei_iconst (v := 0) X dX2_passHour_37 rfl ?_
    refine ei_istore_n X dX2_passHour_38 rfl (Nat.le_of_ble_eq_true rfl) rfl ?_
    refine ei_iload_n X dX2_passHour_39 rfl rfl ?_
    refine ei_if_eq (tgt := 69) X dX2_passHour_40 (by decide) (fun cq40 => ?_) (fun cq40 => ?_)
    · exact J0 (b1 (e4.mp cq14))
    · first | exact absurd cq40 (by decide) | exact absurd (by decide) cq40
  · refine ei_aload_n X dX2_passHour_17 rfl rfl ?_
    refine ei_iconst (v := 0) X dX2_passHour_18 rfl ?_
    refine ei_aload_n X dX2_passHour_19 rfl rfl ?_
    refine ei_getf X fl_RX2_31 dX2_passHour_20 rfl rfl ?_
    refine ei_aload_n X dX2_passHour_23 rfl rfl ?_
    refine ei_getf X fl_RX2_40 dX2_passHour_24 rfl rfl ?_
    refine ei_callI1 X ml_RX2_108 dX2_passHour_27 (ct_X2_allLead _ _ _ _ _ _ _ _ _ _ _ 0 _ _ (by omega) (by omega)) rfl rfl (by decide) (by decide) rfl (Nat.le_of_ble_eq_true rfl) ?_
    refine ei_ifz_eq (tgt := 37) X dX2_passHour_30 (by decide) (fun cq30 => ?_) (fun cq30 => ?_)
    · refine ei_iconst (v := 0) X dX2_passHour_37 rfl ?_
      refine ei_istore_n X dX2_passHour_38 rfl (Nat.le_of_ble_eq_true rfl) rfl ?_
      refine ei_iload_n X dX2_passHour_39 rfl rfl ?_
      refine ei_if_eq (tgt := 69) X dX2_passHour_40 (by decide) (fun cq40 => ?_) (fun cq40 => ?_)
      · exact J0 (b2 cq30)
      · first | exact absurd cq40 (by decide) | exact absurd (by decide) cq40
    · refine ei_iconst (v := 1) X dX2_passHour_33 rfl ?_
      refine ei_goto (tgt := 38) X dX2_passHour_34 (by decide) ?_
      refine ei_istore_n X dX2_passHour_38 rfl (Nat.le_of_ble_eq_true rfl) rfl ?_
      refine ei_iload_n X dX2_passHour_39 rfl rfl ?_
      refine ei_if_eq (tgt := 69) X dX2_passHour_40 (by decide) (fun cq40 => ?_) (fun cq40 => ?_)
      · first | exact absurd cq40 (by decide) | exact absurd (by decide) cq40
      · refine ei_aload_n X dX2_passHour_43 rfl rfl ?_
        refine ei_aload_n X dX2_passHour_44 rfl rfl ?_
        refine ei_getf X fl_RX2_43 dX2_passHour_45 rfl rfl ?_
        refine ei_iconst (v := 1) X dX2_passHour_48 rfl ?_
        refine ei_iadd X dX2_passHour_49 ?_
        refine ei_sipush (v := 999) X dX2_passHour_50 rfl ?_
        refine ei_mmin X ml_RX2_92 dX2_passHour_53 (Nat.le_of_ble_eq_true rfl) ?_
        refine ei_puti X fp_RX2_43 dX2_passHour_56 rfl (Nat.le_of_ble_eq_true rfl) (pl_1_8 _ _ _ _ _ _ _ _ _ _ _ _) ?_
        refine ei_aload_n X dX2_passHour_59 rfl rfl ?_
        refine ei_iconst (v := 0) X dX2_passHour_60 rfl ?_
        refine ei_aload_n X dX2_passHour_61 rfl rfl ?_
        refine ei_getf X fl_RX2_31 dX2_passHour_62 rfl rfl ?_
        refine ei_iload_n X dX2_passHour_65 rfl rfl ?_
        refine ei_callI0 X ml_RX2_121 dX2_passHour_66 (ct_X2_wear _ _ _ _ _ _ _ _ _ _ _ 0 _ _ (by omega) (by omega)) rfl rfl (by decide) (by decide) rfl (Nat.le_of_ble_eq_true rfl) ?_
        exact J1 (b3 (fun z => cq14 (e4.mpr z)) cq30)

