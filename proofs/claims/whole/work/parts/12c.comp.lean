/-! ===== wires ===== -/
set_option maxRecDepth 100000 in
set_option maxHeartbeats 1000000 in
theorem ct_X8_isSo (z : Sh) (i j : Nat) (h_z : zN z ≤ 100) : e_Ct yX8_isSo cX8_isSo 6 (some .boolean) 1 [.ref 0, .int (nI i), .int (nI j)] (shC 0 z) (e_eq (some (.int (bz (suspF z i j)))) (shC 0 z)) := by
  refine e_open RX8 rfl (by decide +kernel) rfl (fun _ => Nat.le_of_ble_eq_true rfl) (fun x X F => ?_)
  have L : ∀ (c t : Nat), 50 - t < c → t ≤ 50 → suspF z i j = allF (susp1 z i j) t (zN z / 3) → e_E x 2 [some (.ref 0), some (.int (nI i)), some (.int (nI j)), some (.int (nI (3 * t))), none, none] [] (shC 0 z) := by
    intro c
    induction c with
    | zero => intro t hc; exact absurd hc (Nat.not_lt_zero _)
    | succ c ih =>
      intro t hc ht hv
      have E31 : 3 * t + 2 < zN z → ∀ (u : Bool), u = decide (zC z (3 * t + 2) = 1) → e_E x 31 [some (.ref 0), some (.int (nI i)), some (.int (nI j)), some (.int (nI (3 * t))), some (.int (bz u)), none] [] (shC 0 z) := by
        intro hlt u hu
        have E60 : ∀ (v : Bool), v = (decide (zC z (3 * t) ≤ nI i) && decide (nI j ≤ zC z (3 * t + 1))) → e_E x 60 [some (.ref 0), some (.int (nI i)), some (.int (nI j)), some (.int (nI (3 * t))), some (.int (bz u)), some (.int (bz v))] [] (shC 0 z) := by
          intro v hv2
          have hs : susp1 z i j t = (v == u) := by unfold susp1; rw [← hv2, ← hu]
          refine ei_iload X dX8_isSo_60 rfl ?_
          refine ei_iload X dX8_isSo_62 rfl ?_
          refine ei_icmp_eq (tgt := 69) X dX8_isSo_64 (by decide) (fun cq64 => ?_) (fun cq64 => ?_)
          · refine ei_iinc (v := _ + 3) X dX8_isSo_69 rfl rfl rfl ?_
            refine ei_goto (tgt := 2) X dX8_isSo_72 (by decide) ?_
            have huv : v = u := (by cases u <;> cases v <;> first | rfl | exact absurd cq64 (by decide))
            refine ei_drop 4 ?_
            refine ei_drop 5 ?_
            rw [show nI (3 * t) + 3 = nI (3 * (t + 1)) from nI_add (3 * t) 3]
            exact ih (t + 1) (by omega) (by omega) (by rw [hv, allF_lt (by omega), hs, huv, beq_self_eq_true, Bool.true_and])
          · refine ei_iconst (v := 0) X dX8_isSo_67 rfl ?_
            refine ei_zreturn X F dX8_isSo_68 (by decide) ?_
            have huv : (v == u) = false := (by cases u <;> cases v <;> first | rfl | exact absurd rfl cq64)
            exact ⟨by rw [hv, allF_lt (by omega), hs, huv, Bool.false_and]; rfl, rfl⟩
        refine ei_aload_n X dX8_isSo_31 rfl rfl ?_
        refine ei_getf X fl_RX8_13 dX8_isSo_32 rfl rfl ?_
        refine ei_iload_n X dX8_isSo_35 rfl rfl ?_
        refine ei_iaload_n X dX8_isSo_36 rfl (by first | omega | assumption) (by decide) ?_
        refine ei_iload_n X dX8_isSo_37 rfl rfl ?_
        refine ei_icmp_gt (tgt := 57) X dX8_isSo_38 (by decide) (fun cq38 => ?_) (fun cq38 => ?_)
        · refine ei_iconst (v := 0) X dX8_isSo_57 rfl ?_
          refine ei_istore X dX8_isSo_58 (Nat.le_of_ble_eq_true rfl) rfl ?_
          exact E60 false (by rw [decide_eq_false (Int32.not_le.mpr cq38), Bool.false_and])
        · refine ei_iload_n X dX8_isSo_41 rfl rfl ?_
          refine ei_aload_n X dX8_isSo_42 rfl rfl ?_
          refine ei_getf X fl_RX8_13 dX8_isSo_43 rfl rfl ?_
          refine ei_iload_n X dX8_isSo_46 rfl rfl ?_
          refine ei_iconst (v := nI 1) X dX8_isSo_47 rfl ?_
          refine ei_iadd X dX8_isSo_48 ?_
          rw [nI_add]
          refine ei_iaload_n X dX8_isSo_49 rfl (by first | omega | assumption) (by decide) ?_
          refine ei_icmp_gt (tgt := 57) X dX8_isSo_50 (by decide) (fun cq50 => ?_) (fun cq50 => ?_)
          · refine ei_iconst (v := 0) X dX8_isSo_57 rfl ?_
            refine ei_istore X dX8_isSo_58 (Nat.le_of_ble_eq_true rfl) rfl ?_
            exact E60 false (by rw [decide_eq_false (Int32.not_le.mpr cq50), Bool.and_false])
          · refine ei_iconst (v := 1) X dX8_isSo_53 rfl ?_
            refine ei_goto (tgt := 58) X dX8_isSo_54 (by decide) ?_
            refine ei_istore X dX8_isSo_58 (Nat.le_of_ble_eq_true rfl) rfl ?_
            exact E60 true (by rw [decide_eq_true (Int32.not_lt.mp cq38), decide_eq_true (Int32.not_lt.mp cq50)]; rfl)
      refine ei_iload_n X dX8_isSo_2 rfl rfl ?_
      refine ei_iconst (v := nI 2) X dX8_isSo_3 rfl ?_
      refine ei_iadd X dX8_isSo_4 ?_
      rw [nI_add]
      refine ei_aload_n X dX8_isSo_5 rfl rfl ?_
      refine ei_getf X fl_RX8_7 dX8_isSo_6 rfl rfl ?_
      refine ei_icmpn_ge (tgt := 75) X dX8_isSo_9 (by decide) (by first | omega | assumption) (by first | omega | assumption) (fun cq9 => ?_) (fun cq9 => ?_)
      · refine ei_iconst (v := 1) X dX8_isSo_75 rfl ?_
        refine ei_zreturn X F dX8_isSo_76 (by decide) ?_
        exact ⟨by rw [hv, allF_ge (by omega)]; rfl, rfl⟩
      · refine ei_aload_n X dX8_isSo_12 rfl rfl ?_
        refine ei_getf X fl_RX8_13 dX8_isSo_13 rfl rfl ?_
        refine ei_iload_n X dX8_isSo_16 rfl rfl ?_
        refine ei_iconst (v := nI 2) X dX8_isSo_17 rfl ?_
        refine ei_iadd X dX8_isSo_18 ?_
        rw [nI_add]
        refine ei_iaload_n X dX8_isSo_19 rfl (by first | omega | assumption) (by decide) ?_
        refine ei_iconst (v := 1) X dX8_isSo_20 rfl ?_
        refine ei_icmp_ne (tgt := 28) X dX8_isSo_21 (by decide) (fun cq21 => ?_) (fun cq21 => ?_)
        · refine ei_iconst (v := 0) X dX8_isSo_28 rfl ?_
          refine ei_istore X dX8_isSo_29 (Nat.le_of_ble_eq_true rfl) rfl ?_
          exact E31 (by omega) false (by rw [decide_eq_false cq21])
        · refine ei_iconst (v := 1) X dX8_isSo_24 rfl ?_
          refine ei_goto (tgt := 29) X dX8_isSo_25 (by decide) ?_
          refine ei_istore X dX8_isSo_29 (Nat.le_of_ble_eq_true rfl) rfl ?_
          exact E31 (by omega) true (by rw [decide_eq_true cq21])
  refine ei_iconst (v := nI 0) X dX8_isSo_0 rfl ?_
  refine ei_istore_n X dX8_isSo_1 rfl (Nat.le_of_ble_eq_true rfl) rfl ?_
  exact L 51 0 (by omega) (by omega) rfl
set_option maxRecDepth 100000 in
set_option maxHeartbeats 1000000 in
theorem ct_X8_ones (z : Sh) (n : Nat) (h_z : zN z ≤ 100) (h_n : n ≤ 10) : e_Ct yX8_ones cX8_ones 4 (some .int) 2 [.ref 0, .int (nI n)] (shC 0 z) (e_eq (some (.int (itr (ones1 z) 0 0 n))) (shC 0 z)) := by
  refine e_open RX8 rfl (by decide +kernel) rfl (fun _ => Nat.le_of_ble_eq_true rfl) (fun x X F => ?_)
  have L : ∀ (c i : Nat) (a : Int32), n - i < c → i ≤ 10 → itr (ones1 z) 0 0 n = itr (ones1 z) a i (n - i) → e_E x 4 [some (.ref 0), some (.int (nI n)), some (.int a), some (.int (nI i))] [] (shC 0 z) := by
    intro c
    induction c with
    | zero => intro i a hc; exact absurd hc (Nat.not_lt_zero _)
    | succ c ih =>
      intro i a hc hi hv
      refine ei_iload_n X dX8_ones_4 rfl rfl ?_
      refine ei_iload_n X dX8_ones_5 rfl rfl ?_
      refine ei_icmpn_ge (tgt := 30) X dX8_ones_6 (by decide) (by first | omega | assumption) (by first | omega | assumption) (fun cq6 => ?_) (fun cq6 => ?_)
      · refine ei_iload_n X dX8_ones_30 rfl rfl ?_
        refine ei_ireturn X F dX8_ones_31 ?_
        exact ⟨by rw [hv, itr_ge _ _ (by omega)], rfl⟩
      · refine ei_aload_n X dX8_ones_9 rfl rfl ?_
        refine ei_iload_n X dX8_ones_10 rfl rfl ?_
        refine ei_iload_n X dX8_ones_11 rfl rfl ?_
        refine ei_callT1 X ml_RX8_23 dX8_ones_12 (ct_X8_isSo _ _ _ (by first | omega | assumption)) rfl rfl (by decide) (by decide) (Nat.le_of_ble_eq_true rfl) ?_
        refine ei_ifz_eq (tgt := 24) X dX8_ones_15 (by decide) (fun cq15 => ?_) (fun cq15 => ?_)
        · refine ei_iinc_n X dX8_ones_24 rfl rfl ?_
          refine ei_goto (tgt := 4) X dX8_ones_27 (by decide) ?_
          exact ih (i + 1) a (by omega) (by omega) (by rw [hv, itr_lt _ _ (by omega)]; congr 1; unfold ones1; rw [if_neg (by rw [cq15]; exact Bool.false_ne_true)])
        · refine ei_iload_n X dX8_ones_18 rfl rfl ?_
          refine ei_iconst (v := 1) X dX8_ones_19 rfl ?_
          refine ei_iload_n X dX8_ones_20 rfl rfl ?_
          refine ei_ishl X dX8_ones_21 ?_
          refine ei_ior X dX8_ones_22 ?_
          refine ei_istore_n X dX8_ones_23 rfl (Nat.le_of_ble_eq_true rfl) rfl ?_
          refine ei_iinc_n X dX8_ones_24 rfl rfl ?_
          refine ei_goto (tgt := 4) X dX8_ones_27 (by decide) ?_
          exact ih (i + 1) (a ||| bitI i) (by omega) (by omega) (by rw [hv, itr_lt _ _ (by omega)]; congr 1; unfold ones1; rw [if_pos cq15])
  refine ei_iconst (v := 0) X dX8_ones_0 rfl ?_
  refine ei_istore_n X dX8_ones_1 rfl (Nat.le_of_ble_eq_true rfl) rfl ?_
  refine ei_iconst (v := nI 0) X dX8_ones_2 rfl ?_
  refine ei_istore_n X dX8_ones_3 rfl (Nat.le_of_ble_eq_true rfl) rfl ?_
  exact L (n + 1) 0 0 (by omega) (by omega) rfl
set_option maxRecDepth 100000 in
set_option maxHeartbeats 1000000 in
theorem ct_X8_twos (z : Sh) (n : Nat) (h_z : zN z ≤ 100) (h_n : n ≤ 10) : e_Ct yX8_twos cX8_twos 5 (some .int) 2 [.ref 0, .int (nI n)] (shC 0 z) (e_eq (some (.int (itr (twosI n z) 0 0 n))) (shC 0 z)) := by
  refine e_open RX8 rfl (by decide +kernel) rfl (fun _ => Nat.le_of_ble_eq_true rfl) (fun x X F => ?_)
  have L : ∀ (c i : Nat) (a : Int32), n - i < c → i ≤ 10 → itr (twosI n z) 0 0 n = itr (twosI n z) a i (n - i) → e_E x 4 [some (.ref 0), some (.int (nI n)), some (.int a), some (.int (nI i)), none] [] (shC 0 z) := by
    intro c
    induction c with
    | zero => intro i a hc; exact absurd hc (Nat.not_lt_zero _)
    | succ c ih =>
      intro i a hc hi hv
      have LI : i < n → ∀ (cq2 j : Nat) (b2 : Int32), n - j < cq2 → i < j → j ≤ 10 → twosI n z a i = itr (twos1 z i) b2 j (n - j) → e_E x 14 [some (.ref 0), some (.int (nI n)), some (.int b2), some (.int (nI i)), some (.int (nI j))] [] (shC 0 z) := by
        intro hin cq2
        induction cq2 with
        | zero => intro j b2 hc2; exact absurd hc2 (Nat.not_lt_zero _)
        | succ cq2 ih2 =>
          intro j b2 hc2 hij hj hb2
          refine ei_iload X dX8_twos_14 rfl ?_
          refine ei_iload_n X dX8_twos_16 rfl rfl ?_
          refine ei_icmpn_ge (tgt := 39) X dX8_twos_17 (by decide) (by first | omega | assumption) (by first | omega | assumption) (fun cq17 => ?_) (fun cq17 => ?_)
          · refine ei_iinc_n X dX8_twos_39 rfl rfl ?_
            refine ei_goto (tgt := 4) X dX8_twos_42 (by decide) ?_
            refine ei_drop 4 ?_
            exact ih (i + 1) b2 (by omega) (by omega) (by rw [hv, itr_lt _ _ hin, hb2, itr_ge (twos1 z i) b2 (show n ≤ j by omega)])
          · refine ei_aload_n X dX8_twos_20 rfl rfl ?_
            refine ei_iload_n X dX8_twos_21 rfl rfl ?_
            refine ei_iload X dX8_twos_22 rfl ?_
            refine ei_callT1 X ml_RX8_23 dX8_twos_24 (ct_X8_isSo _ _ _ (by first | omega | assumption)) rfl rfl (by decide) (by decide) (Nat.le_of_ble_eq_true rfl) ?_
            refine ei_ifz_eq (tgt := 33) X dX8_twos_27 (by decide) (fun cq27 => ?_) (fun cq27 => ?_)
            · refine ei_iinc_n X dX8_twos_33 rfl rfl ?_
              refine ei_goto (tgt := 14) X dX8_twos_36 (by decide) ?_
              exact ih2 (j + 1) b2 (by omega) (by omega) (by omega) (by rw [hb2, itr_lt _ _ (by omega)]; congr 1; unfold twos1; rw [if_neg (by rw [cq27]; exact Bool.false_ne_true)])
            · refine ei_iinc (v := _ + 1) X dX8_twos_30 rfl rfl rfl ?_
              refine ei_iinc_n X dX8_twos_33 rfl rfl ?_
              refine ei_goto (tgt := 14) X dX8_twos_36 (by decide) ?_
              exact ih2 (j + 1) (b2 + 1) (by omega) (by omega) (by omega) (by rw [hb2, itr_lt _ _ (by omega)]; congr 1; unfold twos1; rw [if_pos cq27])
      refine ei_iload_n X dX8_twos_4 rfl rfl ?_
      refine ei_iload_n X dX8_twos_5 rfl rfl ?_
      refine ei_icmpn_ge (tgt := 45) X dX8_twos_6 (by decide) (by first | omega | assumption) (by first | omega | assumption) (fun cq6 => ?_) (fun cq6 => ?_)
      · refine ei_iload_n X dX8_twos_45 rfl rfl ?_
        refine ei_ireturn X F dX8_twos_46 ?_
        exact ⟨by rw [hv, itr_ge _ _ (by omega)], rfl⟩
      · refine ei_iload_n X dX8_twos_9 rfl rfl ?_
        refine ei_iconst (v := nI 1) X dX8_twos_10 rfl ?_
        refine ei_iadd X dX8_twos_11 ?_
        rw [nI_add]
        refine ei_istore X dX8_twos_12 (Nat.le_of_ble_eq_true rfl) rfl ?_
        exact LI (by omega) (n + 1) (i + 1) a (by omega) (by omega) (by omega) rfl
  refine ei_iconst (v := 0) X dX8_twos_0 rfl ?_
  refine ei_istore_n X dX8_twos_1 rfl (Nat.le_of_ble_eq_true rfl) rfl ?_
  refine ei_iconst (v := nI 0) X dX8_twos_2 rfl ?_
  refine ei_istore_n X dX8_twos_3 rfl (Nat.le_of_ble_eq_true rfl) rfl ?_
  exact L (n + 1) 0 0 (by omega) (by omega) rfl
set_option maxRecDepth 100000 in
set_option maxHeartbeats 1000000 in
theorem ct_X8_areTold (n : Nat) (w se sp hr lt hd sc : Int32) (so fi wo : Nat → Int32) (z : Sh) (h_z : zN z ≤ 100) (h_n : n ≤ 10) : e_Ct yX8_areTold cX8_areTold 3 (some .boolean) 3 [.ref 4, .ref 0] (lz (n, w, se, sp, hr, lt, hd, sc, so, fi, wo) z) (e_eq (some (.int (bz (toldF n z)))) (lz (n, w, se, sp, hr, lt, hd, sc, so, fi, wo) z)) := by
  refine e_open RX8 rfl (by decide +kernel) rfl (fun _ => Nat.le_of_ble_eq_true rfl) (fun x X F => ?_)
  have L : zN z % 3 = 0 → ∀ (c t : Nat), 50 - t < c → t ≤ 50 → toldF n z = allF (told3 n z) t (zN z / 3) → e_E x 13 [some (.ref 4), some (.ref 0), some (.int (nI (3 * t)))] [] (lz (n, w, se, sp, hr, lt, hd, sc, so, fi, wo) z) := by
    intro h3 c
    induction c with
    | zero => intro t hc; exact absurd hc (Nat.not_lt_zero _)
    | succ c ih =>
      intro t hc ht hv
      refine ei_iload_n X dX8_areTold_13 rfl rfl ?_
      refine ei_iconst (v := nI 2) X dX8_areTold_14 rfl ?_
      refine ei_iadd X dX8_areTold_15 ?_
      rw [nI_add]
      refine ei_aload_n X dX8_areTold_16 rfl rfl ?_
      refine ei_getf X fl_RX8_7 dX8_areTold_17 rfl rfl ?_
      refine ei_icmpn_ge (tgt := 52) X dX8_areTold_20 (by decide) (by first | omega | assumption) (by first | omega | assumption) (fun cq20 => ?_) (fun cq20 => ?_)
      · refine ei_iconst (v := 1) X dX8_areTold_52 rfl ?_
        refine ei_zreturn X F dX8_areTold_53 (by decide) ?_
        exact ⟨by rw [hv, allF_ge (by omega)]; rfl, rfl⟩
      · refine ei_aload_n X dX8_areTold_23 rfl rfl ?_
        refine ei_aload_n X dX8_areTold_24 rfl rfl ?_
        refine ei_getf X fl_RX8_13 dX8_areTold_25 rfl rfl ?_
        refine ei_iload_n X dX8_areTold_28 rfl rfl ?_
        refine ei_iaload_n X dX8_areTold_29 rfl (by first | omega | assumption) (by decide) ?_
        refine ei_aload_n X dX8_areTold_30 rfl rfl ?_
        refine ei_getf X fl_RX8_13 dX8_areTold_31 rfl rfl ?_
        refine ei_iload_n X dX8_areTold_34 rfl rfl ?_
        refine ei_iconst (v := nI 1) X dX8_areTold_35 rfl ?_
        refine ei_iadd X dX8_areTold_36 ?_
        rw [nI_add]
        refine ei_iaload_n X dX8_areTold_37 rfl (by first | omega | assumption) (by decide) ?_
        refine ei_cv1 [0, 1, 2, 3] (lz_gL _ _) (lz_pL _ _ _) X ml_RX8_17 dX8_areTold_38 (ct_X2_isStretch _ _ _ _ _ _ _ _ _ _ _ _ _) rfl rfl (by decide) (by decide) rfl (Nat.le_of_ble_eq_true rfl) (by decide) ?_
        refine ei_ifz_ne (tgt := 46) X dX8_areTold_41 (by decide) (fun cq41 => ?_) (fun cq41 => ?_)
        · refine ei_iinc (v := _ + 3) X dX8_areTold_46 rfl rfl rfl ?_
          refine ei_goto (tgt := 13) X dX8_areTold_49 (by decide) ?_
          rw [show nI (3 * t) + 3 = nI (3 * (t + 1)) from nI_add (3 * t) 3]
          exact ih (t + 1) (by omega) (by omega) (by rw [hv, allF_lt (by omega), show told3 n z t = true from cq41, Bool.true_and])
        · refine ei_iconst (v := 0) X dX8_areTold_44 rfl ?_
          refine ei_zreturn X F dX8_areTold_45 (by decide) ?_
          exact ⟨by rw [hv, allF_lt (by omega), show told3 n z t = false from cq41, Bool.false_and]; rfl, rfl⟩
  refine ei_aload_n X dX8_areTold_0 rfl rfl ?_
  refine ei_getf X fl_RX8_7 dX8_areTold_1 rfl rfl ?_
  refine ei_iconst (v := 3) X dX8_areTold_4 rfl ?_
  refine ei_irem X dX8_areTold_5 (by decide) ?_
  refine ei_if_eq (tgt := 11) X dX8_areTold_6 (by decide) (fun cq6 => ?_) (fun cq6 => ?_)
  · refine ei_iconst (v := nI 0) X dX8_areTold_11 rfl ?_
    refine ei_istore_n X dX8_areTold_12 rfl (Nat.le_of_ble_eq_true rfl) rfl ?_
    exact L ((rem3 _ h_z).mp cq6) 51 0 (by omega) (by omega) (by unfold toldF; rw [decide_eq_true ((rem3 _ h_z).mp cq6), Bool.true_and])
  · refine ei_iconst (v := 0) X dX8_areTold_9 rfl ?_
    refine ei_zreturn X F dX8_areTold_10 (by decide) ?_
    exact ⟨by unfold toldF; rw [decide_eq_false (fun q => cq6 ((rem3 _ h_z).mpr q)), Bool.false_and]; rfl, rfl⟩

