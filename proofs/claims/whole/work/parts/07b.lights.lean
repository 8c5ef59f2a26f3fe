set_option maxRecDepth 100000 in
set_option maxHeartbeats 4000000 in
theorem ct_X2_pass (n : Nat) (w se sp hr lt hd sc : Int32) (so fi wo : Nat → Int32) (m : Nat) (h_n : n ≤ 10) (h_m : m < 1000) : e_Ct yX2_pass cX2_pass 3 none 5 [.ref 0, .int (nI m)] (lH (n, w, se, sp, hr, lt, hd, sc, so, fi, wo)) (e_eq none (lH (hoursS (n, w, se, sp, hr, lt, hd, sc, so, fi, wo) m))) := by
  refine e_open RX2 rfl (by decide +kernel) rfl (fun _ => Nat.le_of_ble_eq_true rfl) (fun x X F => ?_)
  have L : ∀ (k j : Nat) (w2 se2 hr2 lt2 : Int32) (r : Nat → Int32), m - j < k → j < 1000 → hoursS (n, w, se, sp, hr, lt, hd, sc, so, fi, wo) m = itr (fun S _ => hourS S 1) (n, w2, se2, sp, hr2, lt2, hd, sc, so, fi, r) j (m - j) → e_E x 2 [some (.ref 0), some (.int (nI m)), some (.int (nI j))] [] (lH (n, w2, se2, sp, hr2, lt2, hd, sc, so, fi, r)) := by
    intro k
    induction k with
    | zero => intro j w2 se2 hr2 lt2 r hk; exact absurd hk (Nat.not_lt_zero _)
    | succ k ih =>
      intro j w2 se2 hr2 lt2 r hk hj hv
      refine ei_iload_n X dX2_pass_2 rfl rfl ?_
      refine ei_iload_n X dX2_pass_3 rfl rfl ?_
      refine ei_icmpn_ge (tgt := 19) X dX2_pass_4 (by decide) (by first | omega | assumption) (by first | omega | assumption) (fun cq4 => ?_) (fun cq4 => ?_)
      · refine ei_vreturn X F dX2_pass_19 ?_
        exact ⟨rfl, by rw [hv, itr_ge _ _ cq4]⟩
      · refine ei_aload_n X dX2_pass_7 rfl rfl ?_
        refine ei_iconst (v := 1) X dX2_pass_8 rfl ?_
        refine ei_callI1 X ml_RX2_127 dX2_pass_9 (ct_X2_passHour _ _ _ _ _ _ _ _ _ _ _ _ (by first | omega | assumption)) rfl rfl (by decide) (by decide) rfl (Nat.le_of_ble_eq_true rfl) ?_
        refine ei_pop X dX2_pass_12 rfl ?_
        refine ei_iinc_n X dX2_pass_13 rfl rfl ?_
        refine ei_goto (tgt := 2) X dX2_pass_16 (by decide) ?_
        exact ih (j + 1) _ _ _ _ _ (by omega) (by omega) (by rw [hv, itr_lt _ _ (by omega)]; rfl)
  refine ei_iconst (v := 0) X dX2_pass_0 rfl ?_
  refine ei_istore_n X dX2_pass_1 rfl (Nat.le_of_ble_eq_true rfl) rfl ?_
  exact L (m + 1) 0 w se hr lt wo (by omega) (by omega) rfl
set_option maxRecDepth 100000 in
set_option maxHeartbeats 4000000 in
theorem ct_X2_passes (n : Nat) (w se sp hr lt hd sc : Int32) (so fi wo : Nat → Int32) (m : Nat) (h_n : n ≤ 10) (h_m : m < 1000) : e_Ct yX2_passes cX2_passes 3 (some .boolean) 5 [.ref 0, .int (nI m)] (lH (n, w, se, sp, hr, lt, hd, sc, so, fi, wo)) (e_eq (some (.int (bz (decide (1 ≤ m ∧ m ≤ 60 ∧ hr + nI m ≤ 999))))) (lH (if 1 ≤ m ∧ m ≤ 60 ∧ hr + nI m ≤ 999 then hoursS (n, w, se, sp, hr, lt, hd, sc, so, fi, wo) m else (n, w, se, sp, hr, lt, hd, sc, so, fi, wo)))) := by
  refine e_open RX2 rfl (by decide +kernel) rfl (fun _ => Nat.le_of_ble_eq_true rfl) (fun x X F => ?_)
  have L : 1 ≤ m ∧ m ≤ 60 ∧ hr + nI m ≤ 999 → ∀ (k j : Nat) (w2 se2 hr2 lt2 : Int32) (r : Nat → Int32), m - j < k → j < 1000 → hoursS (n, w, se, sp, hr, lt, hd, sc, so, fi, wo) m = itr (fun S _ => hourS S 1) (n, w2, se2, sp, hr2, lt2, hd, sc, so, fi, r) j (m - j) → e_E x 27 [some (.ref 0), some (.int (nI m)), some (.int (nI j))] [] (lH (n, w2, se2, sp, hr2, lt2, hd, sc, so, fi, r)) := by
    intro hok k
    induction k with
    | zero => intro j w2 se2 hr2 lt2 r hk; exact absurd hk (Nat.not_lt_zero _)
    | succ k ih =>
      intro j w2 se2 hr2 lt2 r hk hj hv
      refine ei_iload_n X dX2_passes_27 rfl rfl ?_
      refine ei_iload_n X dX2_passes_28 rfl rfl ?_
      refine ei_icmpn_ge (tgt := 44) X dX2_passes_29 (by decide) (by first | omega | assumption) (by first | omega | assumption) (fun cq29 => ?_) (fun cq29 => ?_)
      · refine ei_iconst (v := 1) X dX2_passes_44 rfl ?_
        refine ei_zreturn X F dX2_passes_45 (by decide) ?_
        exact ⟨by rw [decide_eq_true hok]; rfl, by rw [if_pos hok, hv, itr_ge _ _ cq29]⟩
      · refine ei_aload_n X dX2_passes_32 rfl rfl ?_
        refine ei_iconst (v := 1) X dX2_passes_33 rfl ?_
        refine ei_callI1 X ml_RX2_127 dX2_passes_34 (ct_X2_passHour _ _ _ _ _ _ _ _ _ _ _ _ (by first | omega | assumption)) rfl rfl (by decide) (by decide) rfl (Nat.le_of_ble_eq_true rfl) ?_
        refine ei_pop X dX2_passes_37 rfl ?_
        refine ei_iinc_n X dX2_passes_38 rfl rfl ?_
        refine ei_goto (tgt := 27) X dX2_passes_41 (by decide) ?_
        exact ih (j + 1) _ _ _ _ _ (by omega) (by omega) (by rw [hv, itr_lt _ _ (by omega)]; rfl)
  refine ei_iload_n X dX2_passes_0 rfl rfl ?_
  refine ei_iconst (v := nI 1) X dX2_passes_1 rfl ?_
  refine ei_icmpn_lt (tgt := 23) X dX2_passes_2 (by decide) (by first | omega | assumption) (by first | omega | assumption) (fun cq2 => ?_) (fun cq2 => ?_)
  · refine ei_iconst (v := 0) X dX2_passes_23 rfl ?_
    refine ei_zreturn X F dX2_passes_24 (by decide) ?_
    exact ⟨by rw [decide_eq_false (fun q => by omega)]; rfl, by rw [if_neg (fun q => by omega)]⟩
  · refine ei_iload_n X dX2_passes_5 rfl rfl ?_
    refine ei_bipush (v := nI 60) X dX2_passes_6 rfl ?_
    refine ei_icmpn_gt (tgt := 23) X dX2_passes_8 (by decide) (by first | omega | assumption) (by first | omega | assumption) (fun cq8 => ?_) (fun cq8 => ?_)
    · refine ei_iconst (v := 0) X dX2_passes_23 rfl ?_
      refine ei_zreturn X F dX2_passes_24 (by decide) ?_
      exact ⟨by rw [decide_eq_false (fun q => by omega)]; rfl, by rw [if_neg (fun q => by omega)]⟩
    · refine ei_aload_n X dX2_passes_11 rfl rfl ?_
      refine ei_getf X fl_RX2_40 dX2_passes_12 rfl rfl ?_
      refine ei_iload_n X dX2_passes_15 rfl rfl ?_
      refine ei_iadd X dX2_passes_16 ?_
      refine ei_sipush (v := 999) X dX2_passes_17 rfl ?_
      refine ei_icmp_le (tgt := 25) X dX2_passes_20 (by decide) (fun cq20 => ?_) (fun cq20 => ?_)
      · refine ei_iconst (v := 0) X dX2_passes_25 rfl ?_
        refine ei_istore_n X dX2_passes_26 rfl (Nat.le_of_ble_eq_true rfl) rfl ?_
        exact L ⟨by omega, by omega, cq20⟩ (m + 1) 0 w se hr lt wo (by omega) (by omega) rfl
      · refine ei_iconst (v := 0) X dX2_passes_23 rfl ?_
        refine ei_zreturn X F dX2_passes_24 (by decide) ?_
        exact ⟨by rw [decide_eq_false (fun q => cq20 q.2.2)]; rfl, by rw [if_neg (fun q => cq20 q.2.2)]⟩
set_option maxRecDepth 100000 in
set_option maxHeartbeats 4000000 in
theorem ct_X2_passFrosts (n : Nat) (w se sp hr lt hd sc : Int32) (so fi wo : Nat → Int32) (m : Nat) (fr : Int32) (h_n : n ≤ 10) (h_m : m < 1000) : e_Ct yX2_passFrosts cX2_passFrosts 4 none 5 [.ref 0, .int (nI m), .int fr] (lH (n, w, se, sp, hr, lt, hd, sc, so, fi, wo)) (e_eq none (lH (frostS (n, w, se, sp, hr, lt, hd, sc, so, fi, wo) m fr))) := by
  refine e_open RX2 rfl (by decide +kernel) rfl (fun _ => Nat.le_of_ble_eq_true rfl) (fun x X F => ?_)
  have L : ∀ (k j : Nat) (w2 se2 hr2 lt2 : Int32) (r : Nat → Int32), m - j < k → j < 1000 → frostS (n, w, se, sp, hr, lt, hd, sc, so, fi, wo) m fr = itr (fun S k => hourS S (if hasB fr k then 2 else 1)) (n, w2, se2, sp, hr2, lt2, hd, sc, so, fi, r) j (m - j) → e_E x 2 [some (.ref 0), some (.int (nI m)), some (.int fr), some (.int (nI j))] [] (lH (n, w2, se2, sp, hr2, lt2, hd, sc, so, fi, r)) := by
    intro k
    induction k with
    | zero => intro j w2 se2 hr2 lt2 r hk; exact absurd hk (Nat.not_lt_zero _)
    | succ k ih =>
      intro j w2 se2 hr2 lt2 r hk hj hv
      refine ei_iload_n X dX2_passFrosts_2 rfl rfl ?_
      refine ei_iload_n X dX2_passFrosts_3 rfl rfl ?_
      refine ei_icmpn_ge (tgt := 32) X dX2_passFrosts_4 (by decide) (by first | omega | assumption) (by first | omega | assumption) (fun cq4 => ?_) (fun cq4 => ?_)
      · refine ei_vreturn X F dX2_passFrosts_32 ?_
        exact ⟨rfl, by rw [hv, itr_ge _ _ cq4]⟩
      · refine ei_aload_n X dX2_passFrosts_7 rfl rfl ?_
        refine ei_iload_n X dX2_passFrosts_8 rfl rfl ?_
        refine ei_iload_n X dX2_passFrosts_9 rfl rfl ?_
        refine ei_ishr X dX2_passFrosts_10 ?_
        refine ei_iconst (v := 1) X dX2_passFrosts_11 rfl ?_
        refine ei_iand X dX2_passFrosts_12 ?_
        refine ei_iconst (v := 1) X dX2_passFrosts_13 rfl ?_
        refine ei_icmp_ne (tgt := 21) X dX2_passFrosts_14 (by decide) (fun cq14 => ?_) (fun cq14 => ?_)
        · refine ei_iconst (v := 1) X dX2_passFrosts_21 rfl ?_
          refine ei_callI1 X ml_RX2_127 dX2_passFrosts_22 (ct_X2_passHour _ _ _ _ _ _ _ _ _ _ _ _ (by first | omega | assumption)) rfl rfl (by decide) (by decide) rfl (Nat.le_of_ble_eq_true rfl) ?_
          refine ei_pop X dX2_passFrosts_25 rfl ?_
          refine ei_iinc_n X dX2_passFrosts_26 rfl rfl ?_
          refine ei_goto (tgt := 2) X dX2_passFrosts_29 (by decide) ?_
          exact ih (j + 1) _ _ _ _ _ (by omega) (by omega) (by rw [hv, itr_lt _ _ (by omega), show hasB fr j = false from decide_eq_false cq14]; rfl)
        · refine ei_iconst (v := 2) X dX2_passFrosts_17 rfl ?_
          refine ei_goto (tgt := 22) X dX2_passFrosts_18 (by decide) ?_
          refine ei_callI1 X ml_RX2_127 dX2_passFrosts_22 (ct_X2_passHour _ _ _ _ _ _ _ _ _ _ _ _ (by first | omega | assumption)) rfl rfl (by decide) (by decide) rfl (Nat.le_of_ble_eq_true rfl) ?_
          refine ei_pop X dX2_passFrosts_25 rfl ?_
          refine ei_iinc_n X dX2_passFrosts_26 rfl rfl ?_
          refine ei_goto (tgt := 2) X dX2_passFrosts_29 (by decide) ?_
          exact ih (j + 1) _ _ _ _ _ (by omega) (by omega) (by rw [hv, itr_lt _ _ (by omega), show hasB fr j = true from decide_eq_true cq14]; rfl)
  refine ei_iconst (v := 0) X dX2_passFrosts_0 rfl ?_
  refine ei_istore_n X dX2_passFrosts_1 rfl (Nat.le_of_ble_eq_true rfl) rfl ?_
  exact L (m + 1) 0 w se hr lt wo (by omega) (by omega) rfl
set_option maxRecDepth 100000 in
set_option maxHeartbeats 4000000 in
theorem ct_X2_partHour (n : Nat) (w se sp hr lt hd sc : Int32) (so fi wo : Nat → Int32) (i e : Nat) (h_i : i ≤ 10) (h_e : e ≤ 10) : e_Ct yX2_partHour cX2_partHour 4 (some .int) 4 [.ref 0, .int (nI i), .int (nI e)] (lH (n, w, se, sp, hr, lt, hd, sc, so, fi, wo)) (e_eq (some (.int (partN (n, w, se, sp, hr, lt, hd, sc, so, fi, wo) i e hr))) (lH (n, (partQ (n, w, se, sp, hr, lt, hd, sc, so, fi, wo) i e hr).1, se, sp, hr, lt, hd, sc, so, fi, (partQ (n, w, se, sp, hr, lt, hd, sc, so, fi, wo) i e hr).2))) := by
  refine e_open RX2 rfl (by decide +kernel) rfl (fun _ => Nat.le_of_ble_eq_true rfl) (fun x X F => ?_)
  refine ei_aload_n X dX2_partHour_0 rfl rfl ?_
  refine ei_iload_n X dX2_partHour_1 rfl rfl ?_
  refine ei_iload_n X dX2_partHour_2 rfl rfl ?_
  refine ei_aload_n X dX2_partHour_3 rfl rfl ?_
  refine ei_getf X fl_RX2_40 dX2_partHour_4 rfl rfl ?_
  refine ei_callI1 X ml_RX2_108 dX2_partHour_7 (ct_X2_allLead _ _ _ _ _ _ _ _ _ _ _ _ _ _ (by first | omega | assumption) (by first | omega | assumption)) rfl rfl (by decide) (by decide) rfl (Nat.le_of_ble_eq_true rfl) ?_
  refine ei_ifz_ne (tgt := 15) X dX2_partHour_10 (by decide) (fun cq10 => ?_) (fun cq10 => ?_)
  · refine ei_aload_n X dX2_partHour_15 rfl rfl ?_
    refine ei_iload_n X dX2_partHour_16 rfl rfl ?_
    refine ei_iload_n X dX2_partHour_17 rfl rfl ?_
    refine ei_callI1 X ml_RX2_112 dX2_partHour_18 (ct_X2_wholeOnes _ _ _ _ _ _ _ _ _ _ _ _ _ (by first | omega | assumption) (by first | omega | assumption)) rfl rfl (by decide) (by decide) rfl (Nat.le_of_ble_eq_true rfl) ?_
    refine ei_istore_n X dX2_partHour_21 rfl (Nat.le_of_ble_eq_true rfl) rfl ?_
    refine ei_aload_n X dX2_partHour_22 rfl rfl ?_
    refine ei_iload_n X dX2_partHour_23 rfl rfl ?_
    refine ei_iload_n X dX2_partHour_24 rfl rfl ?_
    refine ei_iconst (v := 1) X dX2_partHour_25 rfl ?_
    refine ei_callI0 X ml_RX2_121 dX2_partHour_26 (ct_X2_wear _ _ _ _ _ _ _ _ _ _ _ _ _ _ (by first | omega | assumption) (by first | omega | assumption)) rfl rfl (by decide) (by decide) rfl (Nat.le_of_ble_eq_true rfl) ?_
    refine ei_iload_n X dX2_partHour_29 rfl rfl ?_
    refine ei_ireturn X F dX2_partHour_30 ?_
    exact ⟨by simp only [partN, cq10, if_true, sN, sW, sE, sP, sH, sL, sD, sC, sO, sG, sR], by simp only [partQ, cq10, if_true, sN, sW, sE, sP, sH, sL, sD, sC, sO, sG, sR]⟩
  · refine ei_iconst (v := 0) X dX2_partHour_13 rfl ?_
    refine ei_ireturn X F dX2_partHour_14 ?_
    exact ⟨by simp only [partN, cq10, if_false, Bool.false_eq_true, sN, sW, sE, sP, sH, sL, sD, sC, sO, sG, sR], by simp only [partQ, cq10, if_false, Bool.false_eq_true, sN, sW, sE, sP, sH, sL, sD, sC, sO, sG, sR]⟩
set_option maxRecDepth 100000 in
set_option maxHeartbeats 4000000 in
theorem ct_X2_cutHour (n : Nat) (w se sp hr lt hd sc : Int32) (so fi wo : Nat → Int32) (k : Nat) (h_n : n ≤ 10) (h_k : k ≤ 10) : e_Ct yX2_cutHour cX2_cutHour 3 (some .int) 5 [.ref 0, .int (nI k)] (lH (n, w, se, sp, hr, lt, hd, sc, so, fi, wo)) (e_eq (some (.int (cutN (n, w, se, sp, hr, lt, hd, sc, so, fi, wo) k))) (lH (cutS (n, w, se, sp, hr, lt, hd, sc, so, fi, wo) k))) := by
  refine e_open RX2 rfl (by decide +kernel) rfl (fun _ => Nat.le_of_ble_eq_true rfl) (fun x X F => ?_)
  refine ei_aload_n X dX2_cutHour_0 rfl rfl ?_
  refine ei_dup X dX2_cutHour_1 rfl ?_
  refine ei_getf X fl_RX2_40 dX2_cutHour_2 rfl rfl ?_
  refine ei_iconst (v := 1) X dX2_cutHour_5 rfl ?_
  refine ei_iadd X dX2_cutHour_6 ?_
  refine ei_puti X fp_RX2_40 dX2_cutHour_7 rfl (Nat.le_of_ble_eq_true rfl) (pl_1_7 _ _ _ _ _ _ _ _ _ _ _ _) ?_
  refine ei_aload_n X dX2_cutHour_10 rfl rfl ?_
  refine ei_iconst (v := 0) X dX2_cutHour_11 rfl ?_
  refine ei_iload_n X dX2_cutHour_12 rfl rfl ?_
  refine ei_callI1 X ml_RX2_130 dX2_cutHour_13 (ct_X2_partHour _ _ _ _ _ _ _ _ _ _ _ 0 _ (by omega) (by omega)) rfl rfl (by decide) (by decide) rfl (Nat.le_of_ble_eq_true rfl) ?_
  refine ei_aload_n X dX2_cutHour_16 rfl rfl ?_
  refine ei_iload_n X dX2_cutHour_17 rfl rfl ?_
  refine ei_aload_n X dX2_cutHour_18 rfl rfl ?_
  refine ei_getf X fl_RX2_31 dX2_cutHour_19 rfl rfl ?_
  refine ei_callI1 X ml_RX2_130 dX2_cutHour_22 (ct_X2_partHour _ _ _ _ _ _ _ _ _ _ _ _ _ (by first | omega | assumption) (by first | omega | assumption)) rfl rfl (by decide) (by decide) rfl (Nat.le_of_ble_eq_true rfl) ?_
  refine ei_iadd X dX2_cutHour_25 ?_
  refine ei_istore_n X dX2_cutHour_26 rfl (Nat.le_of_ble_eq_true rfl) rfl ?_
  refine ei_aload_n X dX2_cutHour_27 rfl rfl ?_
  refine ei_callI0 X ml_RX2_124 dX2_cutHour_28 (ct_X2_unseatLoose _ _ _ _ _ _ _ _ _ _ _ (by first | omega | assumption)) rfl rfl (by decide) (by decide) rfl (Nat.le_of_ble_eq_true rfl) ?_
  refine ei_iload_n X dX2_cutHour_31 rfl rfl ?_
  refine ei_ireturn X F dX2_cutHour_32 ?_
  exact ⟨rfl, rfl⟩
set_option maxRecDepth 100000 in
set_option maxHeartbeats 4000000 in
theorem ct_X2_wornOfAll (n : Nat) (w se sp hr lt hd sc : Int32) (so fi wo : Nat → Int32) (h_n : n ≤ 10) : e_Ct yX2_wornOfAll cX2_wornOfAll 3 (some .int) 1 [.ref 0] (lH (n, w, se, sp, hr, lt, hd, sc, so, fi, wo)) (e_eq (some (.int (wornAll n wo))) (lH (n, w, se, sp, hr, lt, hd, sc, so, fi, wo))) := by
  refine e_open RX2 rfl (by decide +kernel) rfl (fun _ => Nat.le_of_ble_eq_true rfl) (fun x X F => ?_)
  have L : ∀ (k j : Nat) (a : Int32), n - j < k → j ≤ 10 → wornAll n wo = itr (fun a b => a + wo b) a j (n - j) → e_E x 4 [some (.ref 0), some (.int a), some (.int (nI j))] [] (lH (n, w, se, sp, hr, lt, hd, sc, so, fi, wo)) := by
    intro k
    induction k with
    | zero => intro j a hk; exact absurd hk (Nat.not_lt_zero _)
    | succ k ih =>
      intro j a hk hj hv
      refine ei_iload_n X dX2_wornOfAll_4 rfl rfl ?_
      refine ei_aload_n X dX2_wornOfAll_5 rfl rfl ?_
      refine ei_getf X fl_RX2_31 dX2_wornOfAll_6 rfl rfl ?_
      refine ei_icmpn_ge (tgt := 27) X dX2_wornOfAll_9 (by decide) (by first | omega | assumption) (by first | omega | assumption) (fun cq9 => ?_) (fun cq9 => ?_)
      · refine ei_iload_n X dX2_wornOfAll_27 rfl rfl ?_
        refine ei_ireturn X F dX2_wornOfAll_28 ?_
        exact ⟨by rw [hv, itr_ge _ _ cq9], rfl⟩
      · refine ei_iload_n X dX2_wornOfAll_12 rfl rfl ?_
        refine ei_aload_n X dX2_wornOfAll_13 rfl rfl ?_
        refine ei_getf X fl_RX2_18 dX2_wornOfAll_14 rfl rfl ?_
        refine ei_iload_n X dX2_wornOfAll_17 rfl rfl ?_
        refine ei_iaload_n X dX2_wornOfAll_18 rfl (by first | omega | assumption) (by decide) ?_
        refine ei_iadd X dX2_wornOfAll_19 ?_
        refine ei_istore_n X dX2_wornOfAll_20 rfl (Nat.le_of_ble_eq_true rfl) rfl ?_
        refine ei_iinc_n X dX2_wornOfAll_21 rfl rfl ?_
        refine ei_goto (tgt := 4) X dX2_wornOfAll_24 (by decide) ?_
        exact ih (j + 1) _ (by omega) (by omega) (by rw [hv, itr_lt _ _ (by omega)])
  refine ei_iconst (v := 0) X dX2_wornOfAll_0 rfl ?_
  refine ei_istore_n X dX2_wornOfAll_1 rfl (Nat.le_of_ble_eq_true rfl) rfl ?_
  refine ei_iconst (v := 0) X dX2_wornOfAll_2 rfl ?_
  refine ei_istore_n X dX2_wornOfAll_3 rfl (Nat.le_of_ble_eq_true rfl) rfl ?_
  exact L (n + 1) 0 0 (by omega) (by omega) rfl
set_option maxRecDepth 100000 in
set_option maxHeartbeats 4000000 in
theorem ct_X2_faults (n : Nat) (w se sp hr lt hd sc : Int32) (so fi wo : Nat → Int32) (h_n : n ≤ 10) : e_Ct yX2_faults cX2_faults 3 (some .int) 3 [.ref 0] (lH (n, w, se, sp, hr, lt, hd, sc, so, fi, wo)) (e_eq (some (.int (faultsF (n, w, se, sp, hr, lt, hd, sc, so, fi, wo)))) (lH (n, w, se, sp, hr, lt, hd, sc, so, fi, wo))) := by
  refine e_open RX2 rfl (by decide +kernel) rfl (fun _ => Nat.le_of_ble_eq_true rfl) (fun x X F => ?_)
  have L : ∀ (k j : Nat) (a : Int32), n - j < k → j ≤ 10 → faultsF (n, w, se, sp, hr, lt, hd, sc, so, fi, wo) = itr (fun a b => if leadsF (n, w, se, sp, hr, lt, hd, sc, so, fi, wo) b (hr + 1) then a else a ||| bitI b) a j (n - j) → e_E x 4 [some (.ref 0), some (.int a), some (.int (nI j))] [] (lH (n, w, se, sp, hr, lt, hd, sc, so, fi, wo)) := by
    intro k
    induction k with
    | zero => intro j a hk; exact absurd hk (Nat.not_lt_zero _)
    | succ k ih =>
      intro j a hk hj hv
      refine ei_iload_n X dX2_faults_4 rfl rfl ?_
      refine ei_aload_n X dX2_faults_5 rfl rfl ?_
      refine ei_getf X fl_RX2_31 dX2_faults_6 rfl rfl ?_
      refine ei_icmpn_ge (tgt := 38) X dX2_faults_9 (by decide) (by first | omega | assumption) (by first | omega | assumption) (fun cq9 => ?_) (fun cq9 => ?_)
      · refine ei_iload_n X dX2_faults_38 rfl rfl ?_
        refine ei_ireturn X F dX2_faults_39 ?_
        exact ⟨by rw [hv, itr_ge _ _ cq9], rfl⟩
      · refine ei_aload_n X dX2_faults_12 rfl rfl ?_
        refine ei_iload_n X dX2_faults_13 rfl rfl ?_
        refine ei_aload_n X dX2_faults_14 rfl rfl ?_
        refine ei_getf X fl_RX2_40 dX2_faults_15 rfl rfl ?_
        refine ei_iconst (v := 1) X dX2_faults_18 rfl ?_
        refine ei_iadd X dX2_faults_19 ?_
        refine ei_callI1 X ml_RX2_105 dX2_faults_20 (ct_X2_leads _ _ _ _ _ _ _ _ _ _ _ _ _ (by first | omega | assumption)) rfl rfl (by decide) (by decide) rfl (Nat.le_of_ble_eq_true rfl) ?_
        refine ei_ifz_ne (tgt := 32) X dX2_faults_23 (by decide) (fun cq23 => ?_) (fun cq23 => ?_)
        · refine ei_iinc_n X dX2_faults_32 rfl rfl ?_
          refine ei_goto (tgt := 4) X dX2_faults_35 (by decide) ?_
          exact ih (j + 1) _ (by omega) (by omega) (by rw [hv, itr_lt _ _ (by omega), if_pos cq23])
        · refine ei_iload_n X dX2_faults_26 rfl rfl ?_
          refine ei_iconst (v := 1) X dX2_faults_27 rfl ?_
          refine ei_iload_n X dX2_faults_28 rfl rfl ?_
          refine ei_ishl X dX2_faults_29 ?_
          refine ei_ior X dX2_faults_30 ?_
          refine ei_istore_n X dX2_faults_31 rfl (Nat.le_of_ble_eq_true rfl) rfl ?_
          refine ei_iinc_n X dX2_faults_32 rfl rfl ?_
          refine ei_goto (tgt := 4) X dX2_faults_35 (by decide) ?_
          exact ih (j + 1) _ (by omega) (by omega) (by rw [hv, itr_lt _ _ (by omega), if_neg (by rw [cq23]; exact Bool.false_ne_true)])
  refine ei_iconst (v := 0) X dX2_faults_0 rfl ?_
  refine ei_istore_n X dX2_faults_1 rfl (Nat.le_of_ble_eq_true rfl) rfl ?_
  refine ei_iconst (v := 0) X dX2_faults_2 rfl ?_
  refine ei_istore_n X dX2_faults_3 rfl (Nat.le_of_ble_eq_true rfl) rfl ?_
  exact L (n + 1) 0 0 (by omega) (by omega) rfl
set_option maxRecDepth 100000 in
set_option maxHeartbeats 4000000 in
theorem ct_X2_brown (n : Nat) (w se sp hr lt hd sc : Int32) (so fi wo : Nat → Int32) (h_n : n ≤ 10) : e_Ct yX2_brown cX2_brown 3 (some .int) 4 [.ref 0] (lH (n, w, se, sp, hr, lt, hd, sc, so, fi, wo)) (e_eq (some (.int (brownsF (n, w, se, sp, hr, lt, hd, sc, so, fi, wo)))) (lH (n, w, se, sp, hr, lt, hd, sc, so, fi, wo))) := by
  refine e_open RX2 rfl (by decide +kernel) rfl (fun _ => Nat.le_of_ble_eq_true rfl) (fun x X F => ?_)
  have L : ∀ (k j : Nat) (a : Int32), n - j < k → j ≤ 10 → brownsF (n, w, se, sp, hr, lt, hd, sc, so, fi, wo) = itr (fun a b => if brownF (n, w, se, sp, hr, lt, hd, sc, so, fi, wo) b then a ||| bitI b else a) a j (n - j) → e_E x 4 [some (.ref 0), some (.int a), some (.int (nI j))] [] (lH (n, w, se, sp, hr, lt, hd, sc, so, fi, wo)) := by
    intro k
    induction k with
    | zero => intro j a hk; exact absurd hk (Nat.not_lt_zero _)
    | succ k ih =>
      intro j a hk hj hv
      refine ei_iload_n X dX2_brown_4 rfl rfl ?_
      refine ei_aload_n X dX2_brown_5 rfl rfl ?_
      refine ei_getf X fl_RX2_31 dX2_brown_6 rfl rfl ?_
      refine ei_icmpn_ge (tgt := 32) X dX2_brown_9 (by decide) (by first | omega | assumption) (by first | omega | assumption) (fun cq9 => ?_) (fun cq9 => ?_)
      · refine ei_iload_n X dX2_brown_32 rfl rfl ?_
        refine ei_ireturn X F dX2_brown_33 ?_
        exact ⟨by rw [hv, itr_ge _ _ cq9], rfl⟩
      · refine ei_aload_n X dX2_brown_12 rfl rfl ?_
        refine ei_iload_n X dX2_brown_13 rfl rfl ?_
        refine ei_callI1 X ml_RX2_133 dX2_brown_14 (ct_X2_isBrown _ _ _ _ _ _ _ _ _ _ _ _ (by first | omega | assumption)) rfl rfl (by decide) (by decide) rfl (Nat.le_of_ble_eq_true rfl) ?_
        refine ei_ifz_eq (tgt := 26) X dX2_brown_17 (by decide) (fun cq17 => ?_) (fun cq17 => ?_)
        · refine ei_iinc_n X dX2_brown_26 rfl rfl ?_
          refine ei_goto (tgt := 4) X dX2_brown_29 (by decide) ?_
          exact ih (j + 1) _ (by omega) (by omega) (by rw [hv, itr_lt _ _ (by omega), if_neg (by rw [cq17]; exact Bool.false_ne_true)])
        · refine ei_iload_n X dX2_brown_20 rfl rfl ?_
          refine ei_iconst (v := 1) X dX2_brown_21 rfl ?_
          refine ei_iload_n X dX2_brown_22 rfl rfl ?_
          refine ei_ishl X dX2_brown_23 ?_
          refine ei_ior X dX2_brown_24 ?_
          refine ei_istore_n X dX2_brown_25 rfl (Nat.le_of_ble_eq_true rfl) rfl ?_
          refine ei_iinc_n X dX2_brown_26 rfl rfl ?_
          refine ei_goto (tgt := 4) X dX2_brown_29 (by decide) ?_
          exact ih (j + 1) _ (by omega) (by omega) (by rw [hv, itr_lt _ _ (by omega), if_pos cq17])
  refine ei_iconst (v := 0) X dX2_brown_0 rfl ?_
  refine ei_istore_n X dX2_brown_1 rfl (Nat.le_of_ble_eq_true rfl) rfl ?_
  refine ei_iconst (v := 0) X dX2_brown_2 rfl ?_
  refine ei_istore_n X dX2_brown_3 rfl (Nat.le_of_ble_eq_true rfl) rfl ?_
  exact L (n + 1) 0 0 (by omega) (by omega) rfl
set_option maxRecDepth 100000 in
set_option maxHeartbeats 4000000 in
theorem ct_X2_weakest (n : Nat) (w se sp hr lt hd sc : Int32) (so fi wo : Nat → Int32) (h_n : n ≤ 10) : e_Ct yX2_weakest cX2_weakest 5 (some .int) 3 [.ref 0] (lH (n, w, se, sp, hr, lt, hd, sc, so, fi, wo)) (e_eq (some (.int (weakF (n, w, se, sp, hr, lt, hd, sc, so, fi, wo)))) (lH (n, w, se, sp, hr, lt, hd, sc, so, fi, wo))) := by
  refine e_open RX2 rfl (by decide +kernel) rfl (fun _ => Nat.le_of_ble_eq_true rfl) (fun x X F => ?_)
  have L : ∀ (k j : Nat) (a b : Int32), n - j < k → j ≤ 10 → weakF (n, w, se, sp, hr, lt, hd, sc, so, fi, wo) = (itr (weak1 (n, w, se, sp, hr, lt, hd, sc, so, fi, wo)) (a, b) j (n - j)).1 → e_E x 7 [some (.ref 0), some (.int a), some (.int b), some (.int (nI j)), none] [] (lH (n, w, se, sp, hr, lt, hd, sc, so, fi, wo)) := by
    intro k
    induction k with
    | zero => intro j a b hk; exact absurd hk (Nat.not_lt_zero _)
    | succ k ih =>
      intro j a b hk hj hv
      refine ei_iload_n X dX2_weakest_7 rfl rfl ?_
      refine ei_aload_n X dX2_weakest_8 rfl rfl ?_
      refine ei_getf X fl_RX2_31 dX2_weakest_9 rfl rfl ?_
      refine ei_icmpn_ge (tgt := 60) X dX2_weakest_12 (by decide) (by first | omega | assumption) (by first | omega | assumption) (fun cq12 => ?_) (fun cq12 => ?_)
      · refine ei_iload_n X dX2_weakest_60 rfl rfl ?_
        refine ei_ireturn X F dX2_weakest_61 ?_
        exact ⟨by rw [hv, itr_ge _ _ cq12], rfl⟩
      · refine ei_aload_n X dX2_weakest_15 rfl rfl ?_
        refine ei_iload_n X dX2_weakest_16 rfl rfl ?_
        refine ei_callI1 X ml_RX2_62 dX2_weakest_17 (ct_X2_lifeOf _ _ _ _ _ _ _ _ _ _ _ _ (by first | omega | assumption)) rfl rfl (by decide) (by decide) rfl (Nat.le_of_ble_eq_true rfl) ?_
        refine ei_aload_n X dX2_weakest_20 rfl rfl ?_
        refine ei_getf X fl_RX2_18 dX2_weakest_21 rfl rfl ?_
        refine ei_iload_n X dX2_weakest_24 rfl rfl ?_
        refine ei_iaload_n X dX2_weakest_25 rfl (by first | omega | assumption) (by decide) ?_
        refine ei_isub X dX2_weakest_26 ?_
        refine ei_istore X dX2_weakest_27 (Nat.le_of_ble_eq_true rfl) rfl ?_
        refine ei_aload_n X dX2_weakest_29 rfl rfl ?_
        refine ei_iload_n X dX2_weakest_30 rfl rfl ?_
        refine ei_callI1 X ml_RX2_95 dX2_weakest_31 (ct_X2_isWhole _ _ _ _ _ _ _ _ _ _ _ _) rfl rfl (by decide) (by decide) rfl (Nat.le_of_ble_eq_true rfl) ?_
        refine ei_ifz_eq (tgt := 54) X dX2_weakest_34 (by decide) (fun cq34 => ?_) (fun cq34 => ?_)
        · refine ei_iinc_n X dX2_weakest_54 rfl rfl ?_
          refine ei_goto (tgt := 7) X dX2_weakest_57 (by decide) ?_
          refine ei_drop 4 ?_
          exact ih (j + 1) a b (by omega) (by omega) (by rw [hv, itr_lt _ _ (by omega), show weak1 (n, w, se, sp, hr, lt, hd, sc, so, fi, wo) (a, b) j = (a, b) from by simp [weak1, sN, sW, sE, sP, sH, sL, sD, sC, sO, sG, sR, cq34]])
        · refine ei_iload_n X dX2_weakest_37 rfl rfl ?_
          refine ei_bipush (v := -4) X dX2_weakest_38 rfl ?_
          refine ei_icmp_eq (tgt := 49) X dX2_weakest_40 (by decide) (fun cq40 => ?_) (fun cq40 => ?_)
          · refine ei_iload_n X dX2_weakest_49 rfl rfl ?_
            refine ei_istore_n X dX2_weakest_50 rfl (Nat.le_of_ble_eq_true rfl) rfl ?_
            refine ei_iload X dX2_weakest_51 rfl ?_
            refine ei_istore_n X dX2_weakest_53 rfl (Nat.le_of_ble_eq_true rfl) rfl ?_
            refine ei_iinc_n X dX2_weakest_54 rfl rfl ?_
            refine ei_goto (tgt := 7) X dX2_weakest_57 (by decide) ?_
            refine ei_drop 4 ?_
            exact ih (j + 1) _ _ (by omega) (by omega) (by rw [hv, itr_lt _ _ (by omega), show weak1 (n, w, se, sp, hr, lt, hd, sc, so, fi, wo) (a, b) j = (nI j, lifeS (n, w, se, sp, hr, lt, hd, sc, so, fi, wo) j - wo j) from by simp [weak1, sN, sW, sE, sP, sH, sL, sD, sC, sO, sG, sR, cq34, cq40]])
          · refine ei_iload X dX2_weakest_43 rfl ?_
            refine ei_iload_n X dX2_weakest_45 rfl rfl ?_
            refine ei_icmp_ge (tgt := 54) X dX2_weakest_46 (by decide) (fun cq46 => ?_) (fun cq46 => ?_)
            · refine ei_iinc_n X dX2_weakest_54 rfl rfl ?_
              refine ei_goto (tgt := 7) X dX2_weakest_57 (by decide) ?_
              refine ei_drop 4 ?_
              exact ih (j + 1) a b (by omega) (by omega) (by rw [hv, itr_lt _ _ (by omega), show weak1 (n, w, se, sp, hr, lt, hd, sc, so, fi, wo) (a, b) j = (a, b) from by have h1 := Int32.not_lt.mpr cq46; simp only [weak1]; rw [if_neg]; rintro ⟨-, q | q⟩; exact cq40 q; exact h1 q])
            · refine ei_iload_n X dX2_weakest_49 rfl rfl ?_
              refine ei_istore_n X dX2_weakest_50 rfl (Nat.le_of_ble_eq_true rfl) rfl ?_
              refine ei_iload X dX2_weakest_51 rfl ?_
              refine ei_istore_n X dX2_weakest_53 rfl (Nat.le_of_ble_eq_true rfl) rfl ?_
              refine ei_iinc_n X dX2_weakest_54 rfl rfl ?_
              refine ei_goto (tgt := 7) X dX2_weakest_57 (by decide) ?_
              refine ei_drop 4 ?_
              exact ih (j + 1) _ _ (by omega) (by omega) (by rw [hv, itr_lt _ _ (by omega), show weak1 (n, w, se, sp, hr, lt, hd, sc, so, fi, wo) (a, b) j = (nI j, lifeS (n, w, se, sp, hr, lt, hd, sc, so, fi, wo) j - wo j) from by have h1 := Int32.not_le.mp cq46; simp only [weak1]; rw [if_pos ⟨cq34, Or.inr h1⟩]])
  refine ei_bipush (v := -4) X dX2_weakest_0 rfl ?_
  refine ei_istore_n X dX2_weakest_2 rfl (Nat.le_of_ble_eq_true rfl) rfl ?_
  refine ei_iconst (v := 0) X dX2_weakest_3 rfl ?_
  refine ei_istore_n X dX2_weakest_4 rfl (Nat.le_of_ble_eq_true rfl) rfl ?_
  refine ei_iconst (v := 0) X dX2_weakest_5 rfl ?_
  refine ei_istore_n X dX2_weakest_6 rfl (Nat.le_of_ble_eq_true rfl) rfl ?_
  exact L (n + 1) 0 (-4) 0 (by omega) (by omega) rfl
set_option maxRecDepth 100000 in
set_option maxHeartbeats 4000000 in
theorem ct_X2_renew (n : Nat) (w se sp hr lt hd sc : Int32) (so fi wo : Nat → Int32) (b : Nat) (ks fg : Int32) (h_b : b < 10) : e_Ct yX2_renew cX2_renew 4 none 1 [.ref 0, .int (nI b), .int ks, .int fg] (lH (n, w, se, sp, hr, lt, hd, sc, so, fi, wo)) (e_eq none (lH (n, w ||| bitI b, se ||| bitI b, sp, hr, lt, hd, sc, upd so b ks, upd fi b fg, upd wo b 0))) := by
  refine e_open RX2 rfl (by decide +kernel) rfl (fun _ => Nat.le_of_ble_eq_true rfl) (fun x X F => ?_)
  refine ei_aload_n X dX2_renew_0 rfl rfl ?_
  refine ei_getf X fl_RX2_9 dX2_renew_1 rfl rfl ?_
  refine ei_iload_n X dX2_renew_4 rfl rfl ?_
  refine ei_iload_n X dX2_renew_5 rfl rfl ?_
  refine ei_iastore_n X dX2_renew_6 rfl (by first | omega | assumption) (by decide) (pl_r1 _ _ _ _ _ _ _ _ _ _ _ _) ?_
  refine ei_aload_n X dX2_renew_7 rfl rfl ?_
  refine ei_getf X fl_RX2_15 dX2_renew_8 rfl rfl ?_
  refine ei_iload_n X dX2_renew_11 rfl rfl ?_
  refine ei_iload_n X dX2_renew_12 rfl rfl ?_
  refine ei_iastore_n X dX2_renew_13 rfl (by first | omega | assumption) (by decide) (pl_r2 _ _ _ _ _ _ _ _ _ _ _ _) ?_
  refine ei_aload_n X dX2_renew_14 rfl rfl ?_
  refine ei_getf X fl_RX2_18 dX2_renew_15 rfl rfl ?_
  refine ei_iload_n X dX2_renew_18 rfl rfl ?_
  refine ei_iconst (v := 0) X dX2_renew_19 rfl ?_
  refine ei_iastore_n X dX2_renew_20 rfl (by first | omega | assumption) (by decide) (pl_r3 _ _ _ _ _ _ _ _ _ _ _ _) ?_
  refine ei_aload_n X dX2_renew_21 rfl rfl ?_
  refine ei_dup X dX2_renew_22 rfl ?_
  refine ei_getf X fl_RX2_34 dX2_renew_23 rfl rfl ?_
  refine ei_iconst (v := 1) X dX2_renew_26 rfl ?_
  refine ei_iload_n X dX2_renew_27 rfl rfl ?_
  refine ei_ishl X dX2_renew_28 ?_
  refine ei_ior X dX2_renew_29 ?_
  refine ei_puti X fp_RX2_34 dX2_renew_30 rfl (Nat.le_of_ble_eq_true rfl) (pl_1_4 _ _ _ _ _ _ _ _ _ _ _ _) ?_
  refine ei_aload_n X dX2_renew_33 rfl rfl ?_
  refine ei_dup X dX2_renew_34 rfl ?_
  refine ei_getf X fl_RX2_37 dX2_renew_35 rfl rfl ?_
  refine ei_iconst (v := 1) X dX2_renew_38 rfl ?_
  refine ei_iload_n X dX2_renew_39 rfl rfl ?_
  refine ei_ishl X dX2_renew_40 ?_
  refine ei_ior X dX2_renew_41 ?_
  refine ei_puti X fp_RX2_37 dX2_renew_42 rfl (Nat.le_of_ble_eq_true rfl) (pl_1_5 _ _ _ _ _ _ _ _ _ _ _ _) ?_
  refine ei_vreturn X F dX2_renew_45 ?_
  exact ⟨rfl, rfl⟩
set_option maxRecDepth 100000 in
set_option maxHeartbeats 4000000 in
theorem ct_X2_hang (n : Nat) (w se sp hr lt hd sc : Int32) (so fi wo : Nat → Int32) (ks fg : Int32) (h_n : n ≤ 10) : e_Ct yX2_hang cX2_hang 3 none 2 [.ref 0, .int ks, .int fg] (lH (n, w, se, sp, hr, lt, hd, sc, so, fi, wo)) (e_eq none (lH (if 10 ≤ n then (n, w, se, sp, hr, lt, hd, sc, so, fi, wo) else (n + 1, w ||| bitI n, se ||| bitI n, sp, hr, lt, hd, sc, upd so n ks, upd fi n fg, upd wo n 0)))) := by
  refine e_open RX2 rfl (by decide +kernel) rfl (fun _ => Nat.le_of_ble_eq_true rfl) (fun x X F => ?_)
  refine ei_aload_n X dX2_hang_0 rfl rfl ?_
  refine ei_callI1 X ml_RX2_69 dX2_hang_1 (ct_X2_isFull _ _ _ _ _ _ _ _ _ _ _ (by first | omega | assumption)) rfl rfl (by decide) (by decide) rfl (Nat.le_of_ble_eq_true rfl) ?_
  refine ei_ifz_eq (tgt := 8) X dX2_hang_4 (by decide) (fun cq4 => ?_) (fun cq4 => ?_)
  · refine ei_aload_n X dX2_hang_8 rfl rfl ?_
    refine ei_dup X dX2_hang_9 rfl ?_
    refine ei_getf X fl_RX2_31 dX2_hang_10 rfl rfl ?_
    refine ei_iconst (v := 1) X dX2_hang_13 rfl ?_
    refine ei_iadd X dX2_hang_14 ?_
    rw [nI_1]
    refine ei_puti X fp_RX2_31 dX2_hang_15 rfl (Nat.le_of_ble_eq_true rfl) (pl_1_3 _ _ _ _ _ _ _ _ _ _ _ _) ?_
    refine ei_aload_n X dX2_hang_18 rfl rfl ?_
    refine ei_aload_n X dX2_hang_19 rfl rfl ?_
    refine ei_getf X fl_RX2_31 dX2_hang_20 rfl rfl ?_
    refine ei_iconst (v := 1) X dX2_hang_23 rfl ?_
    refine ei_isub X dX2_hang_24 ?_
    rw [nI_pred]
    have h9 : n < 10 := by simpa using cq4
    refine ei_iload_n X dX2_hang_25 rfl rfl ?_
    refine ei_iload_n X dX2_hang_26 rfl rfl ?_
    refine ei_callI0 X ml_RX2_73 dX2_hang_27 (ct_X2_renew _ _ _ _ _ _ _ _ _ _ _ _ _ _ (by first | omega | assumption)) rfl rfl (by decide) (by decide) rfl (Nat.le_of_ble_eq_true rfl) ?_
    refine ei_vreturn X F dX2_hang_30 ?_
    exact ⟨rfl, by rw [if_neg (by simpa using cq4)]⟩
  · refine ei_vreturn X F dX2_hang_7 ?_
    exact ⟨rfl, by rw [if_pos (by simpa using cq4)]⟩
set_option maxRecDepth 100000 in
set_option maxHeartbeats 4000000 in
theorem ct_X2_putSpare (n : Nat) (w se sp hr lt hd sc : Int32) (so fi wo : Nat → Int32) (b : Nat) (h_b : b < 10) : e_Ct yX2_putSpare cX2_putSpare 2 none 2 [.ref 0, .int (nI b)] (lH (n, w, se, sp, hr, lt, hd, sc, so, fi, wo)) (e_eq none (lH (n, w ||| bitI b, se ||| bitI b, sp - 1, hr, lt, hd, sc, upd so b 6, upd fi b 5, upd wo b 0))) := by
  refine e_open RX2 rfl (by decide +kernel) rfl (fun _ => Nat.le_of_ble_eq_true rfl) (fun x X F => ?_)
  refine ei_aload_n X dX2_putSpare_0 rfl rfl ?_
  refine ei_iload_n X dX2_putSpare_1 rfl rfl ?_
  refine ei_bipush (v := 6) X dX2_putSpare_2 rfl ?_
  refine ei_iconst (v := 5) X dX2_putSpare_4 rfl ?_
  refine ei_callI0 X ml_RX2_73 dX2_putSpare_5 (ct_X2_renew _ _ _ _ _ _ _ _ _ _ _ _ _ _ (by first | omega | assumption)) rfl rfl (by decide) (by decide) rfl (Nat.le_of_ble_eq_true rfl) ?_
  refine ei_aload_n X dX2_putSpare_8 rfl rfl ?_
  refine ei_dup X dX2_putSpare_9 rfl ?_
  refine ei_getf X fl_RX2_21 dX2_putSpare_10 rfl rfl ?_
  refine ei_iconst (v := 1) X dX2_putSpare_13 rfl ?_
  refine ei_isub X dX2_putSpare_14 ?_
  refine ei_puti X fp_RX2_21 dX2_putSpare_15 rfl (Nat.le_of_ble_eq_true rfl) (pl_1_6 _ _ _ _ _ _ _ _ _ _ _ _) ?_
  refine ei_vreturn X F dX2_putSpare_18 ?_
  exact ⟨rfl, rfl⟩
set_option maxRecDepth 100000 in
set_option maxHeartbeats 4000000 in
theorem ct_X2_trySeconds (h : List eC) (a b : Int32) : e_Ct yX2_trySeconds cX2_trySeconds 2 (some .int) 1 [.int a, .int b] h (e_eq (some (.int (tryF a b))) h) := by
  refine e_open RX2 rfl (by decide +kernel) rfl (fun _ => Nat.le_of_ble_eq_true rfl) (fun x X F => ?_)
  refine ei_bipush (v := 8) X dX2_trySeconds_0 rfl ?_
  refine ei_iload_n X dX2_trySeconds_2 rfl rfl ?_
  refine ei_iload_n X dX2_trySeconds_3 rfl rfl ?_
  refine ei_isub X dX2_trySeconds_4 ?_
  refine ei_mabs X ml_RX2_87 dX2_trySeconds_5 (Nat.le_of_ble_eq_true rfl) ?_
  refine ei_iadd X dX2_trySeconds_8 ?_
  refine ei_ireturn X F dX2_trySeconds_9 ?_
  exact ⟨rfl, rfl⟩
set_option maxRecDepth 100000 in
set_option maxHeartbeats 4000000 in
theorem ct_X2_spend (n : Nat) (w se sp hr lt hd sc : Int32) (so fi wo : Nat → Int32) (t : Int32) : e_Ct yX2_spend cX2_spend 2 none 1 [.ref 0, .int t] (lH (n, w, se, sp, hr, lt, hd, sc, so, fi, wo)) (e_eq none (lH (n, w, se, sp, hr, lt, hd, min9 (sc + t) 9999, so, fi, wo))) := by
  refine e_open RX2 rfl (by decide +kernel) rfl (fun _ => Nat.le_of_ble_eq_true rfl) (fun x X F => ?_)
  refine ei_aload_n X dX2_spend_0 rfl rfl ?_
  refine ei_aload_n X dX2_spend_1 rfl rfl ?_
  refine ei_getf X fl_RX2_49 dX2_spend_2 rfl rfl ?_
  refine ei_iload_n X dX2_spend_5 rfl rfl ?_
  refine ei_iadd X dX2_spend_6 ?_
  refine ei_sipush (v := 9999) X dX2_spend_7 rfl ?_
  refine ei_mmin X ml_RX2_92 dX2_spend_10 (Nat.le_of_ble_eq_true rfl) ?_
  refine ei_puti X fp_RX2_49 dX2_spend_13 rfl (Nat.le_of_ble_eq_true rfl) (pl_1_10 _ _ _ _ _ _ _ _ _ _ _ _) ?_
  refine ei_vreturn X F dX2_spend_16 ?_
  exact ⟨rfl, rfl⟩
set_option maxRecDepth 100000 in
set_option maxHeartbeats 4000000 in
theorem ct_X2_twistIn (n : Nat) (w se sp hr lt hd sc : Int32) (so fi wo : Nat → Int32) (b : Nat) (h_b : b < 10) : e_Ct yX2_twistIn cX2_twistIn 3 (some .int) 3 [.ref 0, .int (nI b)] (lH (n, w, se, sp, hr, lt, hd, sc, so, fi, wo)) (e_eq (some (.int (tryF hd (nI b)))) (lH (n, w ||| bitI b, se ||| bitI b, sp - 1, hr, lt, nI b, min9 (sc + tryF hd (nI b)) 9999, upd so b 6, upd fi b 5, upd wo b 0))) := by
  refine e_open RX2 rfl (by decide +kernel) rfl (fun _ => Nat.le_of_ble_eq_true rfl) (fun x X F => ?_)
  refine ei_aload_n X dX2_twistIn_0 rfl rfl ?_
  refine ei_getf X fl_RX2_46 dX2_twistIn_1 rfl rfl ?_
  refine ei_iload_n X dX2_twistIn_4 rfl rfl ?_
  refine ei_callT1 X ml_RX2_77 dX2_twistIn_5 (ct_X2_trySeconds _ _ _) rfl rfl (by decide) (by decide) (Nat.le_of_ble_eq_true rfl) ?_
  refine ei_istore_n X dX2_twistIn_8 rfl (Nat.le_of_ble_eq_true rfl) rfl ?_
  refine ei_aload_n X dX2_twistIn_9 rfl rfl ?_
  refine ei_iload_n X dX2_twistIn_10 rfl rfl ?_
  refine ei_callI0 X ml_RX2_80 dX2_twistIn_11 (ct_X2_spend _ _ _ _ _ _ _ _ _ _ _ _) rfl rfl (by decide) (by decide) rfl (Nat.le_of_ble_eq_true rfl) ?_
  refine ei_aload_n X dX2_twistIn_14 rfl rfl ?_
  refine ei_iload_n X dX2_twistIn_15 rfl rfl ?_
  refine ei_puti X fp_RX2_46 dX2_twistIn_16 rfl (Nat.le_of_ble_eq_true rfl) (pl_1_9 _ _ _ _ _ _ _ _ _ _ _ _) ?_
  refine ei_aload_n X dX2_twistIn_19 rfl rfl ?_
  refine ei_iload_n X dX2_twistIn_20 rfl rfl ?_
  refine ei_callI0 X ml_RX2_84 dX2_twistIn_21 (ct_X2_putSpare _ _ _ _ _ _ _ _ _ _ _ _ (by first | omega | assumption)) rfl rfl (by decide) (by decide) rfl (Nat.le_of_ble_eq_true rfl) ?_
  refine ei_iload_n X dX2_twistIn_24 rfl rfl ?_
  refine ei_ireturn X F dX2_twistIn_25 ?_
  exact ⟨rfl, rfl⟩
set_option maxRecDepth 100000 in
set_option maxHeartbeats 4000000 in
theorem ct_X2_isStretch (n : Nat) (w se sp hr lt hd sc : Int32) (so fi wo : Nat → Int32) (a b : Int32) : e_Ct yX2_isStretch cX2_isStretch 3 (some .boolean) 2 [.ref 0, .int a, .int b] (lH (n, w, se, sp, hr, lt, hd, sc, so, fi, wo)) (e_eq (some (.int (bz (strF n a b)))) (lH (n, w, se, sp, hr, lt, hd, sc, so, fi, wo))) := by
  refine e_open RX2 rfl (by decide +kernel) rfl (fun _ => Nat.le_of_ble_eq_true rfl) (fun x X F => ?_)
  refine ei_aload_n X dX2_isStretch_0 rfl rfl ?_
  refine ei_iload_n X dX2_isStretch_1 rfl rfl ?_
  refine ei_callI1 X ml_RX2_52 dX2_isStretch_2 (ct_X2_has _ _ _ _ _ _ _ _ _ _ _ _) rfl rfl (by decide) (by decide) rfl (Nat.le_of_ble_eq_true rfl) ?_
  refine ei_ifz_eq (tgt := 25) X dX2_isStretch_5 (by decide) (fun cq5 => ?_) (fun cq5 => ?_)
  · refine ei_iconst (v := 0) X dX2_isStretch_25 rfl ?_
    refine ei_zreturn X F dX2_isStretch_26 (by decide) ?_
    exact ⟨by simp [strF, bz, cq5], rfl⟩
  · refine ei_aload_n X dX2_isStretch_8 rfl rfl ?_
    refine ei_iload_n X dX2_isStretch_9 rfl rfl ?_
    refine ei_callI1 X ml_RX2_52 dX2_isStretch_10 (ct_X2_has _ _ _ _ _ _ _ _ _ _ _ _) rfl rfl (by decide) (by decide) rfl (Nat.le_of_ble_eq_true rfl) ?_
    refine ei_ifz_eq (tgt := 25) X dX2_isStretch_13 (by decide) (fun cq13 => ?_) (fun cq13 => ?_)
    · refine ei_iconst (v := 0) X dX2_isStretch_25 rfl ?_
      refine ei_zreturn X F dX2_isStretch_26 (by decide) ?_
      exact ⟨by simp [strF, bz, cq5, cq13], rfl⟩
    · refine ei_iload_n X dX2_isStretch_16 rfl rfl ?_
      refine ei_iload_n X dX2_isStretch_17 rfl rfl ?_
      refine ei_icmp_gt (tgt := 25) X dX2_isStretch_18 (by decide) (fun cq18 => ?_) (fun cq18 => ?_)
      · refine ei_iconst (v := 0) X dX2_isStretch_25 rfl ?_
        refine ei_zreturn X F dX2_isStretch_26 (by decide) ?_
        exact ⟨by have h1 := Int32.not_le.mpr cq18; simp only [strF, cq5, cq13, decide_eq_false h1]; rfl, rfl⟩
      · refine ei_iconst (v := 1) X dX2_isStretch_21 rfl ?_
        refine ei_goto (tgt := 26) X dX2_isStretch_22 (by decide) ?_
        refine ei_zreturn X F dX2_isStretch_26 (by decide) ?_
        exact ⟨by have h1 := Int32.not_lt.mp cq18; simp only [strF, cq5, cq13, decide_eq_true h1]; rfl, rfl⟩
set_option maxRecDepth 100000 in
set_option maxHeartbeats 4000000 in
theorem ct_X2_isSet (n : Nat) (w se sp hr lt hd sc : Int32) (so fi wo : Nat → Int32) (v : Int32) : e_Ct yX2_isSet cX2_isSet 2 (some .boolean) 1 [.ref 0, .int v] (lH (n, w, se, sp, hr, lt, hd, sc, so, fi, wo)) (e_eq (some (.int (bz (decide (0 ≤ v ∧ v < bitI n))))) (lH (n, w, se, sp, hr, lt, hd, sc, so, fi, wo))) := by
  refine e_open RX2 rfl (by decide +kernel) rfl (fun _ => Nat.le_of_ble_eq_true rfl) (fun x X F => ?_)
  refine ei_iload_n X dX2_isSet_0 rfl rfl ?_
  refine ei_if_lt (tgt := 18) X dX2_isSet_1 (by decide) (fun cq1 => ?_) (fun cq1 => ?_)
  · refine ei_iconst (v := 0) X dX2_isSet_18 rfl ?_
    refine ei_zreturn X F dX2_isSet_19 (by decide) ?_
    exact ⟨by rw [decide_eq_false (fun q => Int32.not_le.mpr cq1 q.1)]; rfl, rfl⟩
  · refine ei_iload_n X dX2_isSet_4 rfl rfl ?_
    refine ei_iconst (v := 1) X dX2_isSet_5 rfl ?_
    refine ei_aload_n X dX2_isSet_6 rfl rfl ?_
    refine ei_getf X fl_RX2_31 dX2_isSet_7 rfl rfl ?_
    refine ei_ishl X dX2_isSet_10 ?_
    refine ei_icmp_ge (tgt := 18) X dX2_isSet_11 (by decide) (fun cq11 => ?_) (fun cq11 => ?_)
    · refine ei_iconst (v := 0) X dX2_isSet_18 rfl ?_
      refine ei_zreturn X F dX2_isSet_19 (by decide) ?_
      exact ⟨by rw [decide_eq_false (fun q => Int32.not_lt.mpr cq11 q.2)]; rfl, rfl⟩
    · refine ei_iconst (v := 1) X dX2_isSet_14 rfl ?_
      refine ei_goto (tgt := 19) X dX2_isSet_15 (by decide) ?_
      refine ei_zreturn X F dX2_isSet_19 (by decide) ?_
      exact ⟨by rw [decide_eq_true ⟨Int32.not_lt.mp cq1, Int32.not_le.mp cq11⟩]; rfl, rfl⟩
set_option maxRecDepth 100000 in
set_option maxHeartbeats 4000000 in
theorem ct_X2_oddsOf (n : Nat) (w se sp hr lt hd sc : Int32) (so fi wo : Nat → Int32) (b : Nat) (h_b : b < 10) : e_Ct yX2_oddsOf cX2_oddsOf 2 (some .int) 1 [.ref 0, .int (nI b)] (lH (n, w, se, sp, hr, lt, hd, sc, so, fi, wo)) (e_eq (some (.int (wo b + 1))) (lH (n, w, se, sp, hr, lt, hd, sc, so, fi, wo))) := by
  refine e_open RX2 rfl (by decide +kernel) rfl (fun _ => Nat.le_of_ble_eq_true rfl) (fun x X F => ?_)
  refine ei_aload_n X dX2_oddsOf_0 rfl rfl ?_
  refine ei_getf X fl_RX2_18 dX2_oddsOf_1 rfl rfl ?_
  refine ei_iload_n X dX2_oddsOf_4 rfl rfl ?_
  refine ei_iaload_n X dX2_oddsOf_5 rfl (by first | omega | assumption) (by decide) ?_
  refine ei_iconst (v := 1) X dX2_oddsOf_6 rfl ?_
  refine ei_iadd X dX2_oddsOf_7 ?_
  refine ei_ireturn X F dX2_oddsOf_8 ?_
  exact ⟨rfl, rfl⟩
set_option maxRecDepth 100000 in
set_option maxHeartbeats 4000000 in
theorem ct_X2_oddsOf_ (n : Nat) (w se sp hr lt hd sc : Int32) (so fi wo : Nat → Int32) (i e : Nat) (h_i : i ≤ 10) (h_e : e < 10) : e_Ct yX2_oddsOf_ cX2_oddsOf_ 5 (some .int) 2 [.ref 0, .int (nI i), .int (nI e)] (lH (n, w, se, sp, hr, lt, hd, sc, so, fi, wo)) (e_eq (some (.int (oddsF wo i (e + 1)))) (lH (n, w, se, sp, hr, lt, hd, sc, so, fi, wo))) := by
  refine e_open RX2 rfl (by decide +kernel) rfl (fun _ => Nat.le_of_ble_eq_true rfl) (fun x X F => ?_)
  have L : ∀ (k j : Nat) (a : Int32), e + 1 - j < k → j ≤ 10 → oddsF wo i (e + 1) = itr (fun a b => a + (wo b + 1)) a j (e + 1 - j) → e_E x 5 [some (.ref 0), some (.int (nI i)), some (.int (nI e)), some (.int a), some (.int (nI j))] [] (lH (n, w, se, sp, hr, lt, hd, sc, so, fi, wo)) := by
    intro k
    induction k with
    | zero => intro j a hk; exact absurd hk (Nat.not_lt_zero _)
    | succ k ih =>
      intro j a hk hj hv
      refine ei_iload X dX2_oddsOf__5 rfl ?_
      refine ei_iload_n X dX2_oddsOf__7 rfl rfl ?_
      refine ei_icmpn_gt (tgt := 26) X dX2_oddsOf__8 (by decide) (by first | omega | assumption) (by first | omega | assumption) (fun cq8 => ?_) (fun cq8 => ?_)
      · refine ei_iload_n X dX2_oddsOf__26 rfl rfl ?_
        refine ei_ireturn X F dX2_oddsOf__27 ?_
        exact ⟨by rw [hv, itr_ge _ _ (by omega)], rfl⟩
      · refine ei_iload_n X dX2_oddsOf__11 rfl rfl ?_
        refine ei_aload_n X dX2_oddsOf__12 rfl rfl ?_
        refine ei_iload X dX2_oddsOf__13 rfl ?_
        refine ei_callI1 X ml_RX2_66 dX2_oddsOf__15 (ct_X2_oddsOf _ _ _ _ _ _ _ _ _ _ _ _ (by first | omega | assumption)) rfl rfl (by decide) (by decide) rfl (Nat.le_of_ble_eq_true rfl) ?_
        refine ei_iadd X dX2_oddsOf__18 ?_
        refine ei_istore_n X dX2_oddsOf__19 rfl (Nat.le_of_ble_eq_true rfl) rfl ?_
        refine ei_iinc_n X dX2_oddsOf__20 rfl rfl ?_
        refine ei_goto (tgt := 5) X dX2_oddsOf__23 (by decide) ?_
        exact ih (j + 1) _ (by omega) (by omega) (by rw [hv, itr_lt _ _ (by omega)])
  refine ei_iconst (v := 0) X dX2_oddsOf__0 rfl ?_
  refine ei_istore_n X dX2_oddsOf__1 rfl (Nat.le_of_ble_eq_true rfl) rfl ?_
  refine ei_iload_n X dX2_oddsOf__2 rfl rfl ?_
  refine ei_istore X dX2_oddsOf__3 (Nat.le_of_ble_eq_true rfl) rfl ?_
  exact L (e + 1 - i + 1) i 0 (by omega) h_i rfl
set_option maxRecDepth 100000 in
set_option maxHeartbeats 4000000 in
theorem ct_X2_canUse (n : Nat) (w se sp hr lt hd sc : Int32) (so fi wo : Nat → Int32) (t a b : Int32) : e_Ct yX2_canUse cX2_canUse 4 (some .boolean) 3 [.ref 0, .int t, .int a, .int b] (lH (n, w, se, sp, hr, lt, hd, sc, so, fi, wo)) (e_eq (some (.int (bz (decide (0 ≤ t) && (decide (t ≤ 4) && strF n a b))))) (lH (n, w, se, sp, hr, lt, hd, sc, so, fi, wo))) := by
  refine e_open RX2 rfl (by decide +kernel) rfl (fun _ => Nat.le_of_ble_eq_true rfl) (fun x X F => ?_)
  refine ei_iload_n X dX2_canUse_0 rfl rfl ?_
  refine ei_if_lt (tgt := 22) X dX2_canUse_1 (by decide) (fun cq1 => ?_) (fun cq1 => ?_)
  · refine ei_iconst (v := 0) X dX2_canUse_22 rfl ?_
    refine ei_zreturn X F dX2_canUse_23 (by decide) ?_
    exact ⟨by rw [decide_eq_false (Int32.not_le.mpr cq1)]; rfl, rfl⟩
  · refine ei_iload_n X dX2_canUse_4 rfl rfl ?_
    refine ei_iconst (v := 4) X dX2_canUse_5 rfl ?_
    refine ei_icmp_gt (tgt := 22) X dX2_canUse_6 (by decide) (fun cq6 => ?_) (fun cq6 => ?_)
    · refine ei_iconst (v := 0) X dX2_canUse_22 rfl ?_
      refine ei_zreturn X F dX2_canUse_23 (by decide) ?_
      exact ⟨by rw [decide_eq_false (Int32.not_le.mpr cq6), decide_eq_true (Int32.not_lt.mp cq1)]; rfl, rfl⟩
    · refine ei_aload_n X dX2_canUse_9 rfl rfl ?_
      refine ei_iload_n X dX2_canUse_10 rfl rfl ?_
      refine ei_iload_n X dX2_canUse_11 rfl rfl ?_
      refine ei_callI1 X ml_RX2_136 dX2_canUse_12 (ct_X2_isStretch _ _ _ _ _ _ _ _ _ _ _ _ _) rfl rfl (by decide) (by decide) rfl (Nat.le_of_ble_eq_true rfl) ?_
      refine ei_ifz_eq (tgt := 22) X dX2_canUse_15 (by decide) (fun cq15 => ?_) (fun cq15 => ?_)
      · refine ei_iconst (v := 0) X dX2_canUse_22 rfl ?_
        refine ei_zreturn X F dX2_canUse_23 (by decide) ?_
        exact ⟨by rw [cq15, Bool.and_false, Bool.and_false]; rfl, rfl⟩
      · refine ei_iconst (v := 1) X dX2_canUse_18 rfl ?_
        refine ei_goto (tgt := 23) X dX2_canUse_19 (by decide) ?_
        refine ei_zreturn X F dX2_canUse_23 (by decide) ?_
        exact ⟨by rw [cq15, decide_eq_true (Int32.not_lt.mp cq6), decide_eq_true (Int32.not_lt.mp cq1)]; rfl, rfl⟩
set_option maxRecDepth 100000 in
set_option maxHeartbeats 4000000 in
theorem ct_X1_wireSeconds (h : List eC) (i j : Int32) : e_Ct yX1_wireSeconds cX1_wireSeconds 2 (some .int) 1 [.int i, .int j] h (e_eq (some (.int (wireF i j))) h) := by
  refine e_open RX1 rfl (by decide +kernel) rfl (fun _ => Nat.le_of_ble_eq_true rfl) (fun x X F => ?_)
  refine ei_bipush (v := 6) X dX1_wireSeconds_0 rfl ?_
  refine ei_iconst (v := 2) X dX1_wireSeconds_2 rfl ?_
  refine ei_iload_n X dX1_wireSeconds_3 rfl rfl ?_
  refine ei_iload_n X dX1_wireSeconds_4 rfl rfl ?_
  refine ei_isub X dX1_wireSeconds_5 ?_
  refine ei_imul X dX1_wireSeconds_6 ?_
  refine ei_iadd X dX1_wireSeconds_7 ?_
  refine ei_ireturn X F dX1_wireSeconds_8 ?_
  exact ⟨rfl, rfl⟩
set_option maxRecDepth 100000 in
set_option maxHeartbeats 4000000 in
theorem ct_X2_toolSeconds (n : Nat) (w se sp hr lt hd sc : Int32) (so fi wo : Nat → Int32) (t i j : Int32) : e_Ct yX2_toolSeconds cX2_toolSeconds 5 (some .int) 2 [.ref 0, .int t, .int i, .int j] (lH (n, w, se, sp, hr, lt, hd, sc, so, fi, wo)) (e_eq (some (.int (toolT hd t i j))) (lH (n, w, se, sp, hr, lt, hd, sc, so, fi, wo))) := by
  refine e_open RX2 rfl (by decide +kernel) rfl (fun _ => Nat.le_of_ble_eq_true rfl) (fun x X F => ?_)
  refine ei_aload_n X dX2_toolSeconds_0 rfl rfl ?_
  refine ei_getf X fl_RX2_46 dX2_toolSeconds_1 rfl rfl ?_
  refine ei_iload_n X dX2_toolSeconds_4 rfl rfl ?_
  refine ei_isub X dX2_toolSeconds_5 ?_
  refine ei_mabs X ml_RX2_87 dX2_toolSeconds_6 (Nat.le_of_ble_eq_true rfl) ?_
  refine ei_istore X dX2_toolSeconds_9 (Nat.le_of_ble_eq_true rfl) rfl ?_
  refine ei_iload_n X dX2_toolSeconds_11 rfl rfl ?_
  refine ei_table [(0, 44), (1, 49), (2, 54), (3, 63)] 72 X dX2_toolSeconds_12 (by decide) (by decide) (by decide) ⟨fun cq12 => ?_, fun cq12 => ?_, fun cq12 => ?_, fun cq12 => ?_, trivial⟩ (fun cq12 => ?_)
  · refine ei_iconst (v := 2) X dX2_toolSeconds_44 rfl ?_
    refine ei_iload X dX2_toolSeconds_45 rfl ?_
    refine ei_iadd X dX2_toolSeconds_47 ?_
    refine ei_ireturn X F dX2_toolSeconds_48 ?_
    exact ⟨by simp_all [toolT, e_tn, absF], rfl⟩
  · refine ei_iconst (v := 1) X dX2_toolSeconds_49 rfl ?_
    refine ei_iload X dX2_toolSeconds_50 rfl ?_
    refine ei_iadd X dX2_toolSeconds_52 ?_
    refine ei_ireturn X F dX2_toolSeconds_53 ?_
    exact ⟨by simp_all [toolT, e_tn, absF], rfl⟩
  · refine ei_iconst (v := 3) X dX2_toolSeconds_54 rfl ?_
    refine ei_iload_n X dX2_toolSeconds_55 rfl rfl ?_
    refine ei_iload_n X dX2_toolSeconds_56 rfl rfl ?_
    refine ei_isub X dX2_toolSeconds_57 ?_
    refine ei_iadd X dX2_toolSeconds_58 ?_
    refine ei_iload X dX2_toolSeconds_59 rfl ?_
    refine ei_iadd X dX2_toolSeconds_61 ?_
    refine ei_ireturn X F dX2_toolSeconds_62 ?_
    exact ⟨by simp_all [toolT, e_tn, absF], rfl⟩
  · refine ei_iload_n X dX2_toolSeconds_63 rfl rfl ?_
    refine ei_iload_n X dX2_toolSeconds_64 rfl rfl ?_
    refine ei_callT1 X ml_RX2_139 dX2_toolSeconds_65 (ct_X1_wireSeconds _ _ _) rfl rfl (by decide) (by decide) (Nat.le_of_ble_eq_true rfl) ?_
    refine ei_iload X dX2_toolSeconds_68 rfl ?_
    refine ei_iadd X dX2_toolSeconds_70 ?_
    refine ei_ireturn X F dX2_toolSeconds_71 ?_
    exact ⟨by simp_all [toolT, e_tn, absF], rfl⟩
  · refine ei_aload_n X dX2_toolSeconds_72 rfl rfl ?_
    refine ei_getf X fl_RX2_46 dX2_toolSeconds_73 rfl rfl ?_
    refine ei_iload_n X dX2_toolSeconds_76 rfl rfl ?_
    refine ei_callT1 X ml_RX2_77 dX2_toolSeconds_77 (ct_X2_trySeconds _ _ _) rfl rfl (by decide) (by decide) (Nat.le_of_ble_eq_true rfl) ?_
    refine ei_ireturn X F dX2_toolSeconds_80 ?_
    exact ⟨by simp_all [toolT, e_tn, absF], rfl⟩
set_option maxRecDepth 100000 in
set_option maxHeartbeats 4000000 in
theorem ct_X2_tells (n : Nat) (w se sp hr lt hd sc : Int32) (so fi wo : Nat → Int32) (t : Int32) (i j : Nat) (h_n : n ≤ 10) (h_i : i ≤ j) (h_j : j < n) : e_Ct yX2_tells cX2_tells 5 (some .boolean) 4 [.ref 0, .int t, .int (nI i), .int (nI j)] (lH (n, w, se, sp, hr, lt, hd, sc, so, fi, wo)) (e_eq (some (.int (bz (tellsF (n, w, se, sp, hr, lt, hd, sc, so, fi, wo) t i j)))) (lH (n, w, se, sp, hr, lt, hd, sc, so, fi, wo))) := by
  refine e_open RX2 rfl (by decide +kernel) rfl (fun _ => Nat.le_of_ble_eq_true rfl) (fun x X F => ?_)
  refine ei_aload_n X dX2_tells_0 rfl rfl ?_
  refine ei_getf X fl_RX2_40 dX2_tells_1 rfl rfl ?_
  refine ei_iconst (v := 1) X dX2_tells_4 rfl ?_
  refine ei_iadd X dX2_tells_5 ?_
  refine ei_istore X dX2_tells_6 (Nat.le_of_ble_eq_true rfl) rfl ?_
  refine ei_iload_n X dX2_tells_8 rfl rfl ?_
  refine ei_table [(0, 40), (1, 46), (2, 58), (3, 69)] 102 X dX2_tells_9 (by decide) (by decide) (by decide) ⟨fun cq9 => ?_, fun cq9 => ?_, fun cq9 => ?_, fun cq9 => ?_, trivial⟩ (fun cq9 => ?_)
  · refine ei_aload_n X dX2_tells_40 rfl rfl ?_
    refine ei_iload_n X dX2_tells_41 rfl rfl ?_
    refine ei_callI1 X ml_RX2_133 dX2_tells_42 (ct_X2_isBrown _ _ _ _ _ _ _ _ _ _ _ _ (by first | omega | assumption)) rfl rfl (by decide) (by decide) rfl (Nat.le_of_ble_eq_true rfl) ?_
    refine ei_zreturn X F dX2_tells_45 (bz_nar _) ?_
    exact ⟨by simp_all [tellsF, e_tn, sN, sW, sE, sP, sH, sL, sD, sC, sO, sG, sR, bz_t, bz_f], rfl⟩
  · refine ei_aload_n X dX2_tells_46 rfl rfl ?_
    refine ei_iconst (v := 0) X dX2_tells_47 rfl ?_
    refine ei_aload_n X dX2_tells_48 rfl rfl ?_
    refine ei_getf X fl_RX2_31 dX2_tells_49 rfl rfl ?_
    refine ei_iload X dX2_tells_52 rfl ?_
    refine ei_callI1 X ml_RX2_108 dX2_tells_54 (ct_X2_allLead _ _ _ _ _ _ _ _ _ _ _ 0 _ _ (by omega) (by omega)) rfl rfl (by decide) (by decide) rfl (Nat.le_of_ble_eq_true rfl) ?_
    refine ei_zreturn X F dX2_tells_57 (bz_nar _) ?_
    exact ⟨by simp_all [tellsF, e_tn, sN, sW, sE, sP, sH, sL, sD, sC, sO, sG, sR, bz_t, bz_f], rfl⟩
  · refine ei_aload_n X dX2_tells_58 rfl rfl ?_
    refine ei_iload_n X dX2_tells_59 rfl rfl ?_
    refine ei_iload_n X dX2_tells_60 rfl rfl ?_
    refine ei_iconst (v := 1) X dX2_tells_61 rfl ?_
    refine ei_iadd X dX2_tells_62 ?_
    rw [nI_1]
    refine ei_iload X dX2_tells_63 rfl ?_
    refine ei_callI1 X ml_RX2_108 dX2_tells_65 (ct_X2_allLead _ _ _ _ _ _ _ _ _ _ _ _ _ _ (by first | omega | assumption) (by first | omega | assumption)) rfl rfl (by decide) (by decide) rfl (Nat.le_of_ble_eq_true rfl) ?_
    refine ei_zreturn X F dX2_tells_68 (bz_nar _) ?_
    exact ⟨by simp_all [tellsF, e_tn, sN, sW, sE, sP, sH, sL, sD, sC, sO, sG, sR, bz_t, bz_f], rfl⟩
  · refine ei_aload_n X dX2_tells_69 rfl rfl ?_
    refine ei_iconst (v := 0) X dX2_tells_70 rfl ?_
    refine ei_iload_n X dX2_tells_71 rfl rfl ?_
    refine ei_iload X dX2_tells_72 rfl ?_
    refine ei_callI1 X ml_RX2_108 dX2_tells_74 (ct_X2_allLead _ _ _ _ _ _ _ _ _ _ _ 0 _ _ (by omega) (by omega)) rfl rfl (by decide) (by decide) rfl (Nat.le_of_ble_eq_true rfl) ?_
    refine ei_ifz_eq (tgt := 100) X dX2_tells_77 (by decide) (fun cq77 => ?_) (fun cq77 => ?_)
    · refine ei_iconst (v := 0) X dX2_tells_100 rfl ?_
      refine ei_zreturn X F dX2_tells_101 (by decide) ?_
      exact ⟨by simp_all [tellsF, e_tn, sN, sW, sE, sP, sH, sL, sD, sC, sO, sG, sR, bz_t, bz_f], rfl⟩
    · refine ei_aload_n X dX2_tells_80 rfl rfl ?_
      refine ei_iload_n X dX2_tells_81 rfl rfl ?_
      refine ei_iconst (v := 1) X dX2_tells_82 rfl ?_
      refine ei_iadd X dX2_tells_83 ?_
      rw [nI_1]
      refine ei_aload_n X dX2_tells_84 rfl rfl ?_
      refine ei_getf X fl_RX2_31 dX2_tells_85 rfl rfl ?_
      refine ei_iload X dX2_tells_88 rfl ?_
      refine ei_callI1 X ml_RX2_108 dX2_tells_90 (ct_X2_allLead _ _ _ _ _ _ _ _ _ _ _ _ _ _ (by first | omega | assumption) (by first | omega | assumption)) rfl rfl (by decide) (by decide) rfl (Nat.le_of_ble_eq_true rfl) ?_
      refine ei_ifz_eq (tgt := 100) X dX2_tells_93 (by decide) (fun cq93 => ?_) (fun cq93 => ?_)
      · refine ei_iconst (v := 0) X dX2_tells_100 rfl ?_
        refine ei_zreturn X F dX2_tells_101 (by decide) ?_
        exact ⟨by simp_all [tellsF, e_tn, sN, sW, sE, sP, sH, sL, sD, sC, sO, sG, sR, bz_t, bz_f], rfl⟩
      · refine ei_iconst (v := 1) X dX2_tells_96 rfl ?_
        refine ei_goto (tgt := 101) X dX2_tells_97 (by decide) ?_
        refine ei_zreturn X F dX2_tells_101 (by decide) ?_
        exact ⟨by simp_all [tellsF, e_tn, sN, sW, sE, sP, sH, sL, sD, sC, sO, sG, sR, bz_t, bz_f], rfl⟩
  · refine ei_aload_n X dX2_tells_102 rfl rfl ?_
    refine ei_iconst (v := 0) X dX2_tells_103 rfl ?_
    refine ei_iload_n X dX2_tells_104 rfl rfl ?_
    refine ei_iload X dX2_tells_105 rfl ?_
    refine ei_callI1 X ml_RX2_108 dX2_tells_107 (ct_X2_allLead _ _ _ _ _ _ _ _ _ _ _ 0 _ _ (by omega) (by omega)) rfl rfl (by decide) (by decide) rfl (Nat.le_of_ble_eq_true rfl) ?_
    refine ei_ifz_eq (tgt := 133) X dX2_tells_110 (by decide) (fun cq110 => ?_) (fun cq110 => ?_)
    · refine ei_iconst (v := 0) X dX2_tells_133 rfl ?_
      refine ei_zreturn X F dX2_tells_134 (by decide) ?_
      exact ⟨by simp_all [tellsF, e_tn, sN, sW, sE, sP, sH, sL, sD, sC, sO, sG, sR, bz_t, bz_f], rfl⟩
    · refine ei_aload_n X dX2_tells_113 rfl rfl ?_
      refine ei_iload_n X dX2_tells_114 rfl rfl ?_
      refine ei_iconst (v := 1) X dX2_tells_115 rfl ?_
      refine ei_iadd X dX2_tells_116 ?_
      rw [nI_1]
      refine ei_aload_n X dX2_tells_117 rfl rfl ?_
      refine ei_getf X fl_RX2_31 dX2_tells_118 rfl rfl ?_
      refine ei_iload X dX2_tells_121 rfl ?_
      refine ei_callI1 X ml_RX2_108 dX2_tells_123 (ct_X2_allLead _ _ _ _ _ _ _ _ _ _ _ _ _ _ (by first | omega | assumption) (by first | omega | assumption)) rfl rfl (by decide) (by decide) rfl (Nat.le_of_ble_eq_true rfl) ?_
      refine ei_ifz_eq (tgt := 133) X dX2_tells_126 (by decide) (fun cq126 => ?_) (fun cq126 => ?_)
      · refine ei_iconst (v := 0) X dX2_tells_133 rfl ?_
        refine ei_zreturn X F dX2_tells_134 (by decide) ?_
        exact ⟨by simp_all [tellsF, e_tn, sN, sW, sE, sP, sH, sL, sD, sC, sO, sG, sR, bz_t, bz_f], rfl⟩
      · refine ei_iconst (v := 1) X dX2_tells_129 rfl ?_
        refine ei_goto (tgt := 134) X dX2_tells_130 (by decide) ?_
        refine ei_zreturn X F dX2_tells_134 (by decide) ?_
        exact ⟨by simp_all [tellsF, e_tn, sN, sW, sE, sP, sH, sL, sD, sC, sO, sG, sR, bz_t, bz_f], rfl⟩
set_option maxRecDepth 100000 in
set_option maxHeartbeats 4000000 in
theorem ct_X2_useTool (n : Nat) (w se sp hr lt hd sc : Int32) (so fi wo : Nat → Int32) (t : Int32) (i j : Nat) (h_n : n ≤ 10) (h_i : i ≤ j) (h_j : j < n) : e_Ct yX2_useTool cX2_useTool 4 (some .boolean) 5 [.ref 0, .int t, .int (nI i), .int (nI j)] (lH (n, w, se, sp, hr, lt, hd, sc, so, fi, wo)) (e_eq (some (.int (bz (useB (n, w, se, sp, hr, lt, hd, sc, so, fi, wo) t i j)))) (lH (useS (n, w, se, sp, hr, lt, hd, sc, so, fi, wo) t i j))) := by
  refine e_open RX2 rfl (by decide +kernel) rfl (fun _ => Nat.le_of_ble_eq_true rfl) (fun x X F => ?_)
  refine ei_aload_n X dX2_useTool_0 rfl rfl ?_
  refine ei_aload_n X dX2_useTool_1 rfl rfl ?_
  refine ei_iload_n X dX2_useTool_2 rfl rfl ?_
  refine ei_iload_n X dX2_useTool_3 rfl rfl ?_
  refine ei_iload_n X dX2_useTool_4 rfl rfl ?_
  refine ei_callI1 X ml_RX2_144 dX2_useTool_5 (ct_X2_toolSeconds _ _ _ _ _ _ _ _ _ _ _ _ _ _) rfl rfl (by decide) (by decide) rfl (Nat.le_of_ble_eq_true rfl) ?_
  refine ei_callI0 X ml_RX2_80 dX2_useTool_8 (ct_X2_spend _ _ _ _ _ _ _ _ _ _ _ _) rfl rfl (by decide) (by decide) rfl (Nat.le_of_ble_eq_true rfl) ?_
  refine ei_aload_n X dX2_useTool_11 rfl rfl ?_
  refine ei_iload_n X dX2_useTool_12 rfl rfl ?_
  refine ei_iconst (v := 2) X dX2_useTool_13 rfl ?_
  refine ei_icmp_eq (tgt := 22) X dX2_useTool_14 (by decide) (fun cq14 => ?_) (fun cq14 => ?_)
  · refine ei_iload_n X dX2_useTool_22 rfl rfl ?_
    refine ei_goto (tgt := 27) X dX2_useTool_23 (by decide) ?_
    refine ei_puti X fp_RX2_46 dX2_useTool_27 rfl (Nat.le_of_ble_eq_true rfl) (pl_1_9 _ _ _ _ _ _ _ _ _ _ _ _) ?_
    refine ei_iload_n X dX2_useTool_30 rfl rfl ?_
    refine ei_iconst (v := 1) X dX2_useTool_31 rfl ?_
    refine ei_icmp_ne (tgt := 47) X dX2_useTool_32 (by decide) (fun cq32 => ?_) (fun cq32 => ?_)
    · refine ei_aload_n X dX2_useTool_47 rfl rfl ?_
      refine ei_iload_n X dX2_useTool_48 rfl rfl ?_
      refine ei_iload_n X dX2_useTool_49 rfl rfl ?_
      refine ei_iload_n X dX2_useTool_50 rfl rfl ?_
      refine ei_callI1 X ml_RX2_148 dX2_useTool_51 (ct_X2_tells _ _ _ _ _ _ _ _ _ _ _ _ _ _ (by first | omega | assumption) (by first | omega | assumption) (by first | omega | assumption)) rfl rfl (by decide) (by decide) rfl (Nat.le_of_ble_eq_true rfl) ?_
      refine ei_zreturn X F dX2_useTool_54 (bz_nar _) ?_
      exact ⟨by simp_all [useB, useS, useE, useD, sN, sW, sE, sP, sH, sL, sD, sC, sO, sG, sR], by simp_all [useS, useE, useD, sN, sW, sE, sP, sH, sL, sD, sC, sO, sG, sR]⟩
    · refine ei_aload_n X dX2_useTool_35 rfl rfl ?_
      refine ei_dup X dX2_useTool_36 rfl ?_
      refine ei_getf X fl_RX2_37 dX2_useTool_37 rfl rfl ?_
      refine ei_iconst (v := 1) X dX2_useTool_40 rfl ?_
      refine ei_iload_n X dX2_useTool_41 rfl rfl ?_
      refine ei_ishl X dX2_useTool_42 ?_
      refine ei_ior X dX2_useTool_43 ?_
      refine ei_puti X fp_RX2_37 dX2_useTool_44 rfl (Nat.le_of_ble_eq_true rfl) (pl_1_5 _ _ _ _ _ _ _ _ _ _ _ _) ?_
      refine ei_aload_n X dX2_useTool_47 rfl rfl ?_
      refine ei_iload_n X dX2_useTool_48 rfl rfl ?_
      refine ei_iload_n X dX2_useTool_49 rfl rfl ?_
      refine ei_iload_n X dX2_useTool_50 rfl rfl ?_
      refine ei_callI1 X ml_RX2_148 dX2_useTool_51 (ct_X2_tells _ _ _ _ _ _ _ _ _ _ _ _ _ _ (by first | omega | assumption) (by first | omega | assumption) (by first | omega | assumption)) rfl rfl (by decide) (by decide) rfl (Nat.le_of_ble_eq_true rfl) ?_
      refine ei_zreturn X F dX2_useTool_54 (bz_nar _) ?_
      exact ⟨by simp_all [useB, useS, useE, useD, sN, sW, sE, sP, sH, sL, sD, sC, sO, sG, sR], by simp_all [useS, useE, useD, sN, sW, sE, sP, sH, sL, sD, sC, sO, sG, sR]⟩
  · refine ei_iload_n X dX2_useTool_17 rfl rfl ?_
    refine ei_iconst (v := 3) X dX2_useTool_18 rfl ?_
    refine ei_icmp_ne (tgt := 26) X dX2_useTool_19 (by decide) (fun cq19 => ?_) (fun cq19 => ?_)
    · refine ei_iload_n X dX2_useTool_26 rfl rfl ?_
      refine ei_puti X fp_RX2_46 dX2_useTool_27 rfl (Nat.le_of_ble_eq_true rfl) (pl_1_9 _ _ _ _ _ _ _ _ _ _ _ _) ?_
      refine ei_iload_n X dX2_useTool_30 rfl rfl ?_
      refine ei_iconst (v := 1) X dX2_useTool_31 rfl ?_
      refine ei_icmp_ne (tgt := 47) X dX2_useTool_32 (by decide) (fun cq32 => ?_) (fun cq32 => ?_)
      · refine ei_aload_n X dX2_useTool_47 rfl rfl ?_
        refine ei_iload_n X dX2_useTool_48 rfl rfl ?_
        refine ei_iload_n X dX2_useTool_49 rfl rfl ?_
        refine ei_iload_n X dX2_useTool_50 rfl rfl ?_
        refine ei_callI1 X ml_RX2_148 dX2_useTool_51 (ct_X2_tells _ _ _ _ _ _ _ _ _ _ _ _ _ _ (by first | omega | assumption) (by first | omega | assumption) (by first | omega | assumption)) rfl rfl (by decide) (by decide) rfl (Nat.le_of_ble_eq_true rfl) ?_
        refine ei_zreturn X F dX2_useTool_54 (bz_nar _) ?_
        exact ⟨by simp_all [useB, useS, useE, useD, sN, sW, sE, sP, sH, sL, sD, sC, sO, sG, sR], by simp_all [useS, useE, useD, sN, sW, sE, sP, sH, sL, sD, sC, sO, sG, sR]⟩
      · refine ei_aload_n X dX2_useTool_35 rfl rfl ?_
        refine ei_dup X dX2_useTool_36 rfl ?_
        refine ei_getf X fl_RX2_37 dX2_useTool_37 rfl rfl ?_
        refine ei_iconst (v := 1) X dX2_useTool_40 rfl ?_
        refine ei_iload_n X dX2_useTool_41 rfl rfl ?_
        refine ei_ishl X dX2_useTool_42 ?_
        refine ei_ior X dX2_useTool_43 ?_
        refine ei_puti X fp_RX2_37 dX2_useTool_44 rfl (Nat.le_of_ble_eq_true rfl) (pl_1_5 _ _ _ _ _ _ _ _ _ _ _ _) ?_
        refine ei_aload_n X dX2_useTool_47 rfl rfl ?_
        refine ei_iload_n X dX2_useTool_48 rfl rfl ?_
        refine ei_iload_n X dX2_useTool_49 rfl rfl ?_
        refine ei_iload_n X dX2_useTool_50 rfl rfl ?_
        refine ei_callI1 X ml_RX2_148 dX2_useTool_51 (ct_X2_tells _ _ _ _ _ _ _ _ _ _ _ _ _ _ (by first | omega | assumption) (by first | omega | assumption) (by first | omega | assumption)) rfl rfl (by decide) (by decide) rfl (Nat.le_of_ble_eq_true rfl) ?_
        refine ei_zreturn X F dX2_useTool_54 (bz_nar _) ?_
        exact ⟨by simp_all [useB, useS, useE, useD, sN, sW, sE, sP, sH, sL, sD, sC, sO, sG, sR], by simp_all [useS, useE, useD, sN, sW, sE, sP, sH, sL, sD, sC, sO, sG, sR]⟩
    · refine ei_iload_n X dX2_useTool_22 rfl rfl ?_
      refine ei_goto (tgt := 27) X dX2_useTool_23 (by decide) ?_
      refine ei_puti X fp_RX2_46 dX2_useTool_27 rfl (Nat.le_of_ble_eq_true rfl) (pl_1_9 _ _ _ _ _ _ _ _ _ _ _ _) ?_
      refine ei_iload_n X dX2_useTool_30 rfl rfl ?_
      refine ei_iconst (v := 1) X dX2_useTool_31 rfl ?_
      refine ei_icmp_ne (tgt := 47) X dX2_useTool_32 (by decide) (fun cq32 => ?_) (fun cq32 => ?_)
      · refine ei_aload_n X dX2_useTool_47 rfl rfl ?_
        refine ei_iload_n X dX2_useTool_48 rfl rfl ?_
        refine ei_iload_n X dX2_useTool_49 rfl rfl ?_
        refine ei_iload_n X dX2_useTool_50 rfl rfl ?_
        refine ei_callI1 X ml_RX2_148 dX2_useTool_51 (ct_X2_tells _ _ _ _ _ _ _ _ _ _ _ _ _ _ (by first | omega | assumption) (by first | omega | assumption) (by first | omega | assumption)) rfl rfl (by decide) (by decide) rfl (Nat.le_of_ble_eq_true rfl) ?_
        refine ei_zreturn X F dX2_useTool_54 (bz_nar _) ?_
        exact ⟨by simp_all [useB, useS, useE, useD, sN, sW, sE, sP, sH, sL, sD, sC, sO, sG, sR], by simp_all [useS, useE, useD, sN, sW, sE, sP, sH, sL, sD, sC, sO, sG, sR]⟩
      · refine ei_aload_n X dX2_useTool_35 rfl rfl ?_
        refine ei_dup X dX2_useTool_36 rfl ?_
        refine ei_getf X fl_RX2_37 dX2_useTool_37 rfl rfl ?_
        refine ei_iconst (v := 1) X dX2_useTool_40 rfl ?_
        refine ei_iload_n X dX2_useTool_41 rfl rfl ?_
        refine ei_ishl X dX2_useTool_42 ?_
        refine ei_ior X dX2_useTool_43 ?_
        refine ei_puti X fp_RX2_37 dX2_useTool_44 rfl (Nat.le_of_ble_eq_true rfl) (pl_1_5 _ _ _ _ _ _ _ _ _ _ _ _) ?_
        refine ei_aload_n X dX2_useTool_47 rfl rfl ?_
        refine ei_iload_n X dX2_useTool_48 rfl rfl ?_
        refine ei_iload_n X dX2_useTool_49 rfl rfl ?_
        refine ei_iload_n X dX2_useTool_50 rfl rfl ?_
        refine ei_callI1 X ml_RX2_148 dX2_useTool_51 (ct_X2_tells _ _ _ _ _ _ _ _ _ _ _ _ _ _ (by first | omega | assumption) (by first | omega | assumption) (by first | omega | assumption)) rfl rfl (by decide) (by decide) rfl (Nat.le_of_ble_eq_true rfl) ?_
        refine ei_zreturn X F dX2_useTool_54 (bz_nar _) ?_
        exact ⟨by simp_all [useB, useS, useE, useD, sN, sW, sE, sP, sH, sL, sD, sC, sO, sG, sR], by simp_all [useS, useE, useD, sN, sW, sE, sP, sH, sL, sD, sC, sO, sG, sR]⟩
set_option maxRecDepth 100000 in
set_option maxHeartbeats 4000000 in
theorem ct_X2_drawFigures (n : Nat) (w se sp hr lt hd sc : Int32) (so fi wo : Nat → Int32) (z : Int32) (h_n : n ≤ 10) : e_Ct yX2_drawFigures cX2_drawFigures 4 (some .int) 1 [.ref 0, .int z] (lH (n, w, se, sp, hr, lt, hd, sc, so, fi, wo)) (e_eq (some (.int (drawF n z fi).1)) (lH (n, w, se, sp, hr, lt, hd, sc, so, (drawF n z fi).2, wo))) := by
  refine e_open RX2 rfl (by decide +kernel) rfl (fun _ => Nat.le_of_ble_eq_true rfl) (fun x X F => ?_)
  have L : ∀ (k j : Nat) (z2 : Int32) (g : Nat → Int32), n - j < k → j ≤ 10 → drawF n z fi = itr draw1 (z2, g) j (n - j) → e_E x 4 [some (.ref 0), some (.int z), some (.int z2), some (.int (nI j))] [] (lH (n, w, se, sp, hr, lt, hd, sc, so, g, wo)) := by
    intro k
    induction k with
    | zero => intro j z2 g hk; exact absurd hk (Nat.not_lt_zero _)
    | succ k ih =>
      intro j z2 g hk hj hv
      refine ei_iload_n X dX2_drawFigures_4 rfl rfl ?_
      refine ei_aload_n X dX2_drawFigures_5 rfl rfl ?_
      refine ei_getf X fl_RX2_31 dX2_drawFigures_6 rfl rfl ?_
      refine ei_icmpn_ge (tgt := 43) X dX2_drawFigures_9 (by decide) (by first | omega | assumption) (by first | omega | assumption) (fun cq9 => ?_) (fun cq9 => ?_)
      · refine ei_iload_n X dX2_drawFigures_43 rfl rfl ?_
        refine ei_ireturn X F dX2_drawFigures_44 ?_
        exact ⟨by rw [hv, itr_ge _ _ cq9], by rw [hv, itr_ge _ _ cq9]⟩
      · refine ei_iload_n X dX2_drawFigures_12 rfl rfl ?_
        refine ei_ldc X cw_RX2_151 dX2_drawFigures_13 ?_
        refine ei_imul X dX2_drawFigures_15 ?_
        refine ei_sipush (v := 12345) X dX2_drawFigures_16 rfl ?_
        refine ei_iadd X dX2_drawFigures_19 ?_
        refine ei_istore_n X dX2_drawFigures_20 rfl (Nat.le_of_ble_eq_true rfl) rfl ?_
        refine ei_aload_n X dX2_drawFigures_21 rfl rfl ?_
        refine ei_getf X fl_RX2_15 dX2_drawFigures_22 rfl rfl ?_
        refine ei_iload_n X dX2_drawFigures_25 rfl rfl ?_
        refine ei_iload_n X dX2_drawFigures_26 rfl rfl ?_
        refine ei_ldc X cw_RX2_152 dX2_drawFigures_27 ?_
        refine ei_iand X dX2_drawFigures_29 ?_
        refine ei_ldc X cw_RX2_153 dX2_drawFigures_30 ?_
        refine ei_idiv X dX2_drawFigures_32 (by decide) ?_
        refine ei_bipush (v := 10) X dX2_drawFigures_33 rfl ?_
        refine ei_irem X dX2_drawFigures_35 (by decide) ?_
        refine ei_iastore_n X dX2_drawFigures_36 rfl (by first | omega | assumption) (by decide) (pl_r2 _ _ _ _ _ _ _ _ _ _ _ _) ?_
        refine ei_iinc_n X dX2_drawFigures_37 rfl rfl ?_
        refine ei_goto (tgt := 4) X dX2_drawFigures_40 (by decide) ?_
        exact ih (j + 1) _ _ (by omega) (by omega) (by rw [hv, itr_lt _ _ (by omega)]; rfl)
  refine ei_iload_n X dX2_drawFigures_0 rfl rfl ?_
  refine ei_istore_n X dX2_drawFigures_1 rfl (Nat.le_of_ble_eq_true rfl) rfl ?_
  refine ei_iconst (v := 0) X dX2_drawFigures_2 rfl ?_
  refine ei_istore_n X dX2_drawFigures_3 rfl (Nat.le_of_ble_eq_true rfl) rfl ?_
  exact L (n + 1) 0 z fi (by omega) (by omega) rfl

