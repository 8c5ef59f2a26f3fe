set_option maxRecDepth 100000 in
set_option maxHeartbeats 4000000 in
theorem ct_X10_bulb (n : Nat) (w se sp hr lt hd sc : Int32) (so fi wo : Nat → Int32) (I : Nat → Int32) (A : Nat → Nat → Int32) (B : Nat → Nat → Int64) (K : Value) (b what : Int32) (h_S : Good (n, w, se, sp, hr, lt, hd, sc, so, fi, wo)) : e_Ct yX10_bulb cX10_bulb 3 (some .int) 3 [.ref 0, .int b, .int what] (mH (n, w, se, sp, hr, lt, hd, sc, so, fi, wo) (I, A, B, K)) (mP (some (.int (bulbF (n, w, se, sp, hr, lt, hd, sc, so, fi, wo) b what))) (n, w, se, sp, hr, lt, hd, sc, so, fi, wo) (I, A, B, K)) := by
  refine e_open RX10 rfl (by decide +kernel) rfl (fun _ => Nat.le_of_ble_eq_true rfl) (fun x X F => ?_)
  have hn : n ≤ 10 := h_S.1
  refine ei_aload_n X dX10_bulb_0 rfl rfl ?_
  refine ei_iconst (v := 0) X dX10_bulb_1 rfl ?_
  refine ei_puti X fp_RX10_78 dX10_bulb_2 rfl (Nat.le_of_ble_eq_true rfl) (pm_20 _ _ _ _ _ _ _ _ _ _ _ _ _ _ _ _) ?_
  refine ei_aload_n X dX10_bulb_5 rfl rfl ?_
  refine ei_iload_n X dX10_bulb_6 rfl rfl ?_
  refine ei_callI1 X ml_RX10_193 dX10_bulb_7 (ct_X10_isBulb _ _ _ _ _ _ _ _ _ _ _ _ _ _ _ _ (by first | omega | assumption)) rfl rfl (by decide) (by decide) rfl (Nat.le_of_ble_eq_true rfl) ?_
  refine ei_ifz_eq (tgt := 25) X dX10_bulb_10 (by decide) (fun cq10 => ?_) (fun cq10 => ?_)
  · refine ei_iconst (v := -1) X dX10_bulb_25 rfl ?_
    refine ei_ireturn X F dX10_bulb_26 ?_
    exact ⟨by simp only [bulbF, sN, sW, sE, sP, sH, sL, sD, sC, sO, sG, sR, cq10, Bool.false_eq_true, false_and, if_false], _, kM_20 _ _ _ _ 0, rfl⟩
  · skip
    refine ei_iload_n X dX10_bulb_13 rfl rfl ?_
    refine ei_i2l X dX10_bulb_14 ?_
    refine ei_lconst (v := 0) X dX10_bulb_15 rfl ?_
    refine ei_ldc2 X cw_RX10_253 dX10_bulb_16 ?_
    refine ei_callT1 X ml_RX10_84 dX10_bulb_19 (ct_X10_in _ _ _ _) rfl rfl (by decide) (by decide) (Nat.le_of_ble_eq_true rfl) ?_
    rw [in_0_7]
    refine ei_ifz_ne (tgt := 27) X dX10_bulb_22 (by decide) (fun cq22 => ?_) (fun cq22 => ?_)
    · obtain ⟨k, hk, rfl⟩ := (hasF_iff (by omega)).mp cq10
      have hnc : nc (nI k) = k := nc_nI (by omega)
      have e3 := bit_bz h_S.2.2.2.2.2.2.2.2.1 (by omega : k < 10)
      have e4 := bit_bz h_S.2.2.2.2.2.2.2.2.2 (by omega : k < 10)
      have ev : bulbF (n, w, se, sp, hr, lt, hd, sc, so, fi, wo) (nI k) what = bulbG (n, w, se, sp, hr, lt, hd, sc, so, fi, wo) k what := by simp only [bulbF, sN, sW, sE, sP, sH, sL, sD, sC, sO, sG, sR, cq10, cq22, hnc, and_self, if_true]
      refine ei_iload_n X dX10_bulb_27 rfl rfl ?_
      refine ei_table [(0, 72), (1, 79), (2, 86), (3, 93), (4, 102), (5, 111), (6, 117)] 123 X dX10_bulb_28 (by decide) (by decide) (by decide) ⟨fun cq28 => ?_, fun cq28 => ?_, fun cq28 => ?_, fun cq28 => ?_, fun cq28 => ?_, fun cq28 => ?_, fun cq28 => ?_, trivial⟩ (fun cq28 => ?_)
      · refine ei_aload_n X dX10_bulb_72 rfl rfl ?_
        refine ei_getf X fl_RX10_7 dX10_bulb_73 rfl rfl ?_
        refine ei_iload_n X dX10_bulb_76 rfl rfl ?_
        refine ei_iaload_n X dX10_bulb_77 rfl (by first | omega | assumption) (by decide) ?_
        refine ei_ireturn X F dX10_bulb_78 ?_
        exact ⟨by rw [ev]; simp_all [bulbG, e_tn, sN, sW, sE, sP, sH, sL, sD, sC, sO, sG, sR, bz_t, bz_f], _, kM_20 _ _ _ _ 0, rfl⟩
      · refine ei_aload_n X dX10_bulb_79 rfl rfl ?_
        refine ei_getf X fl_RX10_13 dX10_bulb_80 rfl rfl ?_
        refine ei_iload_n X dX10_bulb_83 rfl rfl ?_
        refine ei_iaload_n X dX10_bulb_84 rfl (by first | omega | assumption) (by decide) ?_
        refine ei_ireturn X F dX10_bulb_85 ?_
        exact ⟨by rw [ev]; simp_all [bulbG, e_tn, sN, sW, sE, sP, sH, sL, sD, sC, sO, sG, sR, bz_t, bz_f], _, kM_20 _ _ _ _ 0, rfl⟩
      · refine ei_aload_n X dX10_bulb_86 rfl rfl ?_
        refine ei_getf X fl_RX10_16 dX10_bulb_87 rfl rfl ?_
        refine ei_iload_n X dX10_bulb_90 rfl rfl ?_
        refine ei_iaload_n X dX10_bulb_91 rfl (by first | omega | assumption) (by decide) ?_
        refine ei_ireturn X F dX10_bulb_92 ?_
        exact ⟨by rw [ev]; simp_all [bulbG, e_tn, sN, sW, sE, sP, sH, sL, sD, sC, sO, sG, sR, bz_t, bz_f], _, kM_20 _ _ _ _ 0, rfl⟩
      · refine ei_aload_n X dX10_bulb_93 rfl rfl ?_
        refine ei_getf X fl_RX10_88 dX10_bulb_94 rfl rfl ?_
        refine ei_iload_n X dX10_bulb_97 rfl rfl ?_
        refine ei_ishr X dX10_bulb_98 ?_
        refine ei_iconst (v := 1) X dX10_bulb_99 rfl ?_
        refine ei_iand X dX10_bulb_100 ?_
        refine ei_ireturn X F dX10_bulb_101 ?_
        exact ⟨by rw [ev]; simp_all [bulbG, e_tn, sN, sW, sE, sP, sH, sL, sD, sC, sO, sG, sR, bz_t, bz_f], _, kM_20 _ _ _ _ 0, rfl⟩
      · refine ei_aload_n X dX10_bulb_102 rfl rfl ?_
        refine ei_getf X fl_RX10_95 dX10_bulb_103 rfl rfl ?_
        refine ei_iload_n X dX10_bulb_106 rfl rfl ?_
        refine ei_ishr X dX10_bulb_107 ?_
        refine ei_iconst (v := 1) X dX10_bulb_108 rfl ?_
        refine ei_iand X dX10_bulb_109 ?_
        refine ei_ireturn X F dX10_bulb_110 ?_
        exact ⟨by rw [ev]; simp_all [bulbG, e_tn, sN, sW, sE, sP, sH, sL, sD, sC, sO, sG, sR, bz_t, bz_f], _, kM_20 _ _ _ _ 0, rfl⟩
      · refine ei_aload_n X dX10_bulb_111 rfl rfl ?_
        refine ei_iload_n X dX10_bulb_112 rfl rfl ?_
        refine ei_callI1 X ml_RX10_98 dX10_bulb_113 (ct_X10_lifeOf _ _ _ _ _ _ _ _ _ _ _ _ _ _ _ _ (by first | omega | assumption) (by first | omega | assumption)) rfl rfl (by decide) (by decide) rfl (Nat.le_of_ble_eq_true rfl) ?_
        refine ei_ireturn X F dX10_bulb_116 ?_
        exact ⟨by rw [ev]; simp_all [bulbG, e_tn, sN, sW, sE, sP, sH, sL, sD, sC, sO, sG, sR, bz_t, bz_f], _, kM_20 _ _ _ _ 0, rfl⟩
      · refine ei_aload_n X dX10_bulb_117 rfl rfl ?_
        refine ei_iload_n X dX10_bulb_118 rfl rfl ?_
        refine ei_callI1 X ml_RX10_119 dX10_bulb_119 (ct_X10_glowOf _ _ _ _ _ _ _ _ _ _ _ _ _ _ _ _ (by first | omega | assumption)) rfl rfl (by decide) (by decide) rfl (Nat.le_of_ble_eq_true rfl) ?_
        refine ei_ireturn X F dX10_bulb_122 ?_
        exact ⟨by rw [ev]; simp_all [bulbG, e_tn, sN, sW, sE, sP, sH, sL, sD, sC, sO, sG, sR, bz_t, bz_f], _, kM_20 _ _ _ _ 0, rfl⟩
      · refine ei_aload_n X dX10_bulb_123 rfl rfl ?_
        refine ei_iload_n X dX10_bulb_124 rfl rfl ?_
        refine ei_aload_n X dX10_bulb_125 rfl rfl ?_
        refine ei_getf X fl_RX10_105 dX10_bulb_126 rfl rfl ?_
        refine ei_iconst (v := 1) X dX10_bulb_129 rfl ?_
        refine ei_iadd X dX10_bulb_130 ?_
        refine ei_callI1 X ml_RX10_102 dX10_bulb_131 (ct_X10_leads _ _ _ _ _ _ _ _ _ _ _ _ _ _ _ _ _ (by first | omega | assumption) (by first | omega | assumption)) rfl rfl (by decide) (by decide) rfl (Nat.le_of_ble_eq_true rfl) ?_
        refine ei_ifz_eq (tgt := 141) X dX10_bulb_134 (by decide) (fun cq134 => ?_) (fun cq134 => ?_)
        · refine ei_iconst (v := 0) X dX10_bulb_141 rfl ?_
          refine ei_ireturn X F dX10_bulb_142 ?_
          exact ⟨by rw [ev]; simp_all [bulbG, e_tn, sN, sW, sE, sP, sH, sL, sD, sC, sO, sG, sR, bz_t, bz_f], _, kM_20 _ _ _ _ 0, rfl⟩
        · refine ei_iconst (v := 1) X dX10_bulb_137 rfl ?_
          refine ei_goto (tgt := 142) X dX10_bulb_138 (by decide) ?_
          refine ei_ireturn X F dX10_bulb_142 ?_
          exact ⟨by rw [ev]; simp_all [bulbG, e_tn, sN, sW, sE, sP, sH, sL, sD, sC, sO, sG, sR, bz_t, bz_f], _, kM_20 _ _ _ _ 0, rfl⟩
    · refine ei_iconst (v := -1) X dX10_bulb_25 rfl ?_
      refine ei_ireturn X F dX10_bulb_26 ?_
      exact ⟨by simp only [bulbF, sN, sW, sE, sP, sH, sL, sD, sC, sO, sG, sR, cq22, Bool.false_eq_true, and_false, if_false], _, kM_20 _ _ _ _ 0, rfl⟩
set_option maxRecDepth 100000 in
set_option maxHeartbeats 4000000 in
theorem ct_X10_wears (n : Nat) (w se sp hr lt hd sc : Int32) (so fi wo : Nat → Int32) (I : Nat → Int32) (A : Nat → Nat → Int32) (B : Nat → Nat → Int64) (K : Value) (b v : Int32) (h_S : Good (n, w, se, sp, hr, lt, hd, sc, so, fi, wo)) : e_Ct yX10_wears cX10_wears 4 (some .int) 3 [.ref 0, .int b, .int v] (mH (n, w, se, sp, hr, lt, hd, sc, so, fi, wo) (I, A, B, K)) (mP (some (.int (wearsF (n, w, se, sp, hr, lt, hd, sc, so, fi, wo) b v))) (n, w, se, sp, hr, lt, hd, sc, so, fi, wearsR (n, w, se, sp, hr, lt, hd, sc, so, fi, wo) b v) (I, A, B, K)) := by
  refine e_open RX10 rfl (by decide +kernel) rfl (fun _ => Nat.le_of_ble_eq_true rfl) (fun x X F => ?_)
  have hn : n ≤ 10 := h_S.1
  refine ei_aload_n X dX10_wears_0 rfl rfl ?_
  refine ei_iconst (v := 0) X dX10_wears_1 rfl ?_
  refine ei_puti X fp_RX10_78 dX10_wears_2 rfl (Nat.le_of_ble_eq_true rfl) (pm_20 _ _ _ _ _ _ _ _ _ _ _ _ _ _ _ _) ?_
  refine ei_aload_n X dX10_wears_5 rfl rfl ?_
  refine ei_iload_n X dX10_wears_6 rfl rfl ?_
  refine ei_callI1 X ml_RX10_193 dX10_wears_7 (ct_X10_isBulb _ _ _ _ _ _ _ _ _ _ _ _ _ _ _ _ (by first | omega | assumption)) rfl rfl (by decide) (by decide) rfl (Nat.le_of_ble_eq_true rfl) ?_
  refine ei_ifz_eq (tgt := 25) X dX10_wears_10 (by decide) (fun cq10 => ?_) (fun cq10 => ?_)
  · refine ei_iconst (v := -1) X dX10_wears_25 rfl ?_
    refine ei_ireturn X F dX10_wears_26 ?_
    exact ⟨by simp only [wearsF, wearsC, sN, sW, sE, sP, sH, sL, sD, sC, sO, sG, sR, cq10, Bool.false_and, Bool.false_eq_true, if_false], _, kM_20 _ _ _ _ 0, by simp only [wearsR, wearsC, sN, sW, sE, sP, sH, sL, sD, sC, sO, sG, sR, cq10, Bool.false_and, Bool.false_eq_true, if_false]⟩
  · refine ei_iload_n X dX10_wears_13 rfl rfl ?_
    refine ei_i2l X dX10_wears_14 ?_
    refine ei_lconst (v := 0) X dX10_wears_15 rfl ?_
    refine ei_ldc2 X cw_RX10_258 dX10_wears_16 ?_
    refine ei_callT1 X ml_RX10_84 dX10_wears_19 (ct_X10_in _ _ _ _) rfl rfl (by decide) (by decide) (Nat.le_of_ble_eq_true rfl) ?_
    rw [in_0_999]
    refine ei_ifz_ne (tgt := 27) X dX10_wears_22 (by decide) (fun cq22 => ?_) (fun cq22 => ?_)
    · obtain ⟨k, hk, rfl⟩ := (hasF_iff (by omega)).mp cq10
      have hnc : nc (nI k) = k := nc_nI (by omega)
      refine ei_aload_n X dX10_wears_27 rfl rfl ?_
      refine ei_getf X fl_RX10_16 dX10_wears_28 rfl rfl ?_
      refine ei_iload_n X dX10_wears_31 rfl rfl ?_
      refine ei_iaload_n X dX10_wears_32 rfl (by first | omega | assumption) (by decide) ?_
      refine ei_istore_n X dX10_wears_33 rfl (Nat.le_of_ble_eq_true rfl) rfl ?_
      refine ei_aload_n X dX10_wears_34 rfl rfl ?_
      refine ei_getf X fl_RX10_16 dX10_wears_35 rfl rfl ?_
      refine ei_iload_n X dX10_wears_38 rfl rfl ?_
      refine ei_iload_n X dX10_wears_39 rfl rfl ?_
      refine ei_iastore_n X dX10_wears_40 rfl (by first | omega | assumption) (by decide) (pm_r3 _ _ _ _ _ _ _ _ _ _ _ _ _ _ _ _) ?_
      refine ei_iload_n X dX10_wears_41 rfl rfl ?_
      refine ei_ireturn X F dX10_wears_42 ?_
      exact ⟨by simp only [wearsF, wearsC, sN, sW, sE, sP, sH, sL, sD, sC, sO, sG, sR, cq10, cq22, Bool.and_self, if_true, hnc], _, kM_20 _ _ _ _ 0, by simp only [wearsR, wearsC, sN, sW, sE, sP, sH, sL, sD, sC, sO, sG, sR, cq10, cq22, Bool.and_self, if_true, hnc]⟩
    · refine ei_iconst (v := -1) X dX10_wears_25 rfl ?_
      refine ei_ireturn X F dX10_wears_26 ?_
      exact ⟨by simp only [wearsF, wearsC, sN, sW, sE, sP, sH, sL, sD, sC, sO, sG, sR, cq22, Bool.and_false, Bool.false_eq_true, if_false], _, kM_20 _ _ _ _ 0, by simp only [wearsR, wearsC, sN, sW, sE, sP, sH, sL, sD, sC, sO, sG, sR, cq22, Bool.and_false, Bool.false_eq_true, if_false]⟩
set_option maxRecDepth 100000 in
set_option maxHeartbeats 4000000 in
theorem ct_X10_breaks (n : Nat) (w se sp hr lt hd sc : Int32) (so fi wo : Nat → Int32) (I : Nat → Int32) (A : Nat → Nat → Int32) (B : Nat → Nat → Int64) (K : Value) (b : Int32) (h_S : Good (n, w, se, sp, hr, lt, hd, sc, so, fi, wo)) : e_Ct yX10_breaks cX10_breaks 2 (some .int) 3 [.ref 0, .int b] (mH (n, w, se, sp, hr, lt, hd, sc, so, fi, wo) (I, A, B, K)) (mP (some (.int (breaksF (n, w, se, sp, hr, lt, hd, sc, so, fi, wo) b))) (n, breaksW (n, w, se, sp, hr, lt, hd, sc, so, fi, wo) b, se, sp, hr, lt, hd, sc, so, fi, wo) (I, A, B, K)) := by
  refine e_open RX10 rfl (by decide +kernel) rfl (fun _ => Nat.le_of_ble_eq_true rfl) (fun x X F => ?_)
  have hn : n ≤ 10 := h_S.1
  refine ei_aload_n X dX10_breaks_0 rfl rfl ?_
  refine ei_iconst (v := 0) X dX10_breaks_1 rfl ?_
  refine ei_puti X fp_RX10_78 dX10_breaks_2 rfl (Nat.le_of_ble_eq_true rfl) (pm_20 _ _ _ _ _ _ _ _ _ _ _ _ _ _ _ _) ?_
  refine ei_aload_n X dX10_breaks_5 rfl rfl ?_
  refine ei_iload_n X dX10_breaks_6 rfl rfl ?_
  refine ei_callI1 X ml_RX10_193 dX10_breaks_7 (ct_X10_isBulb _ _ _ _ _ _ _ _ _ _ _ _ _ _ _ _ (by first | omega | assumption)) rfl rfl (by decide) (by decide) rfl (Nat.le_of_ble_eq_true rfl) ?_
  refine ei_ifz_ne (tgt := 15) X dX10_breaks_10 (by decide) (fun cq10 => ?_) (fun cq10 => ?_)
  · obtain ⟨k, hk, rfl⟩ := (hasF_iff (by omega)).mp cq10
    have hnc : nc (nI k) = k := nc_nI (by omega)
    refine ei_aload_n X dX10_breaks_15 rfl rfl ?_
    refine ei_dup X dX10_breaks_16 rfl ?_
    refine ei_getf X fl_RX10_88 dX10_breaks_17 rfl rfl ?_
    refine ei_iconst (v := 1) X dX10_breaks_20 rfl ?_
    refine ei_iload_n X dX10_breaks_21 rfl rfl ?_
    refine ei_ishl X dX10_breaks_22 ?_
    refine ei_ixor X dX10_breaks_23 ?_
    refine ei_puti X fp_RX10_88 dX10_breaks_24 rfl (Nat.le_of_ble_eq_true rfl) (pm_4 _ _ _ _ _ _ _ _ _ _ _ _ _ _ _ _) ?_
    refine ei_aload_n X dX10_breaks_27 rfl rfl ?_
    refine ei_getf X fl_RX10_88 dX10_breaks_28 rfl rfl ?_
    refine ei_iload_n X dX10_breaks_31 rfl rfl ?_
    refine ei_ishr X dX10_breaks_32 ?_
    refine ei_iconst (v := 1) X dX10_breaks_33 rfl ?_
    refine ei_iand X dX10_breaks_34 ?_
    refine ei_ireturn X F dX10_breaks_35 ?_
    exact ⟨by rw [bit_bz (gd_xor h_S.2.2.2.2.2.2.2.2.1 (by omega)) (by omega)]; simp only [breaksF, sN, sW, sE, sP, sH, sL, sD, sC, sO, sG, sR, cq10, if_true, hnc], _, kM_20 _ _ _ _ 0, by simp only [breaksW, sN, sW, sE, sP, sH, sL, sD, sC, sO, sG, sR, cq10, if_true, hnc]⟩
  · refine ei_iconst (v := -1) X dX10_breaks_13 rfl ?_
    refine ei_ireturn X F dX10_breaks_14 ?_
    exact ⟨by simp only [breaksF, sN, sW, sE, sP, sH, sL, sD, sC, sO, sG, sR, cq10, Bool.false_eq_true, if_false], _, kM_20 _ _ _ _ 0, by simp only [breaksW, sN, sW, sE, sP, sH, sL, sD, sC, sO, sG, sR, cq10, Bool.false_eq_true, if_false]⟩
set_option maxRecDepth 100000 in
set_option maxHeartbeats 4000000 in
theorem ct_X10_spares (n : Nat) (w se sp hr lt hd sc : Int32) (so fi wo : Nat → Int32) (I : Nat → Int32) (A : Nat → Nat → Int32) (B : Nat → Nat → Int64) (K : Value) (v : Int32) : e_Ct yX10_spares cX10_spares 3 (some .int) 2 [.ref 0, .int v] (mH (n, w, se, sp, hr, lt, hd, sc, so, fi, wo) (I, A, B, K)) (mP (some (.int (sparesF (n, w, se, sp, hr, lt, hd, sc, so, fi, wo) v))) (n, w, se, sparesP (n, w, se, sp, hr, lt, hd, sc, so, fi, wo) v, hr, lt, hd, sc, so, fi, wo) (I, A, B, K)) := by
  refine e_open RX10 rfl (by decide +kernel) rfl (fun _ => Nat.le_of_ble_eq_true rfl) (fun x X F => ?_)
  refine ei_aload_n X dX10_spares_0 rfl rfl ?_
  refine ei_iconst (v := 0) X dX10_spares_1 rfl ?_
  refine ei_puti X fp_RX10_78 dX10_spares_2 rfl (Nat.le_of_ble_eq_true rfl) (pm_20 _ _ _ _ _ _ _ _ _ _ _ _ _ _ _ _) ?_
  refine ei_iload_n X dX10_spares_5 rfl rfl ?_
  refine ei_i2l X dX10_spares_6 ?_
  refine ei_lconst (v := 0) X dX10_spares_7 rfl ?_
  refine ei_ldc2 X cw_RX10_260 dX10_spares_8 ?_
  refine ei_callT1 X ml_RX10_84 dX10_spares_11 (ct_X10_in _ _ _ _) rfl rfl (by decide) (by decide) (Nat.le_of_ble_eq_true rfl) ?_
  rw [in_0_9]
  refine ei_ifz_ne (tgt := 19) X dX10_spares_14 (by decide) (fun cq14 => ?_) (fun cq14 => ?_)
  · refine ei_aload_n X dX10_spares_19 rfl rfl ?_
    refine ei_getf X fl_RX10_19 dX10_spares_20 rfl rfl ?_
    refine ei_istore_n X dX10_spares_23 rfl (Nat.le_of_ble_eq_true rfl) rfl ?_
    refine ei_aload_n X dX10_spares_24 rfl rfl ?_
    refine ei_iload_n X dX10_spares_25 rfl rfl ?_
    refine ei_puti X fp_RX10_19 dX10_spares_26 rfl (Nat.le_of_ble_eq_true rfl) (pm_6 _ _ _ _ _ _ _ _ _ _ _ _ _ _ _ _) ?_
    refine ei_iload_n X dX10_spares_29 rfl rfl ?_
    refine ei_ireturn X F dX10_spares_30 ?_
    exact ⟨by simp only [sparesF, sN, sW, sE, sP, sH, sL, sD, sC, sO, sG, sR, cq14, if_true], _, kM_20 _ _ _ _ 0, by simp only [sparesP, sN, sW, sE, sP, sH, sL, sD, sC, sO, sG, sR, cq14, if_true]⟩
  · refine ei_iconst (v := -1) X dX10_spares_17 rfl ?_
    refine ei_ireturn X F dX10_spares_18 ?_
    exact ⟨by simp only [sparesF, sN, sW, sE, sP, sH, sL, sD, sC, sO, sG, sR, cq14, Bool.false_eq_true, if_false], _, kM_20 _ _ _ _ 0, by simp only [sparesP, sN, sW, sE, sP, sH, sL, sD, sC, sO, sG, sR, cq14, Bool.false_eq_true, if_false]⟩
set_option maxRecDepth 100000 in
set_option maxHeartbeats 4000000 in
theorem ct_X10_twist (n : Nat) (w se sp hr lt hd sc : Int32) (so fi wo : Nat → Int32) (I : Nat → Int32) (A : Nat → Nat → Int32) (B : Nat → Nat → Int64) (K : Value) (b : Int32) (h_S : Good (n, w, se, sp, hr, lt, hd, sc, so, fi, wo)) : e_Ct yX10_twist cX10_twist 2 (some .int) 3 [.ref 0, .int b] (mH (n, w, se, sp, hr, lt, hd, sc, so, fi, wo) (I, A, B, K)) (mP (some (.int (twistF (n, w, se, sp, hr, lt, hd, sc, so, fi, wo) b))) (twistS (n, w, se, sp, hr, lt, hd, sc, so, fi, wo) b) (I, A, B, K)) := by
  refine e_open RX10 rfl (by decide +kernel) rfl (fun _ => Nat.le_of_ble_eq_true rfl) (fun x X F => ?_)
  have hn : n ≤ 10 := h_S.1
  have hsp : sp ≤ 0 ↔ sp = 0 := by
    rw [Int32.le_iff_toInt_le, Int32.toInt_zero, ← Int32.toInt_inj, Int32.toInt_zero]
    have := h_S.2.2.2.2.2.2.1.1
    simp only [sN, sW, sE, sP, sH, sL, sD, sC, sO, sG, sR] at this
    omega
  refine ei_aload_n X dX10_twist_0 rfl rfl ?_
  refine ei_iconst (v := 0) X dX10_twist_1 rfl ?_
  refine ei_puti X fp_RX10_78 dX10_twist_2 rfl (Nat.le_of_ble_eq_true rfl) (pm_20 _ _ _ _ _ _ _ _ _ _ _ _ _ _ _ _) ?_
  refine ei_aload_n X dX10_twist_5 rfl rfl ?_
  refine ei_iload_n X dX10_twist_6 rfl rfl ?_
  refine ei_callI1 X ml_RX10_193 dX10_twist_7 (ct_X10_isBulb _ _ _ _ _ _ _ _ _ _ _ _ _ _ _ _ (by first | omega | assumption)) rfl rfl (by decide) (by decide) rfl (Nat.le_of_ble_eq_true rfl) ?_
  refine ei_ifz_ne (tgt := 15) X dX10_twist_10 (by decide) (fun cq10 => ?_) (fun cq10 => ?_)
  · obtain ⟨k, hk, rfl⟩ := (hasF_iff (by omega)).mp cq10
    have hnc : nc (nI k) = k := nc_nI (by omega)
    refine ei_aload_n X dX10_twist_15 rfl rfl ?_
    refine ei_getf X fl_RX10_19 dX10_twist_16 rfl rfl ?_
    refine ei_if_ne (tgt := 27) X dX10_twist_19 (by decide) (fun cq19 => ?_) (fun cq19 => ?_)
    · refine ei_aload_n X dX10_twist_27 rfl rfl ?_
      refine ei_iload_n X dX10_twist_28 rfl rfl ?_
      refine ei_callI1 X ml_RX10_196 dX10_twist_29 (ct_X10_twisted _ _ _ _ _ _ _ _ _ _ _ _ _ _ _ _ (by first | omega | assumption) (by first | omega | assumption)) rfl rfl (by decide) (by decide) rfl (Nat.le_of_ble_eq_true rfl) ?_
      refine ei_ireturn X F dX10_twist_32 ?_
      exact ⟨by simp only [twistF, sN, sW, sE, sP, sH, sL, sD, sC, sO, sG, sR, cq10, if_true, if_neg (fun q => cq19 (hsp.mp q))], _, kM_20 _ _ _ _ 0, by simp only [twistS, twS, sN, sW, sE, sP, sH, sL, sD, sC, sO, sG, sR, cq10, if_true, if_neg (fun q => cq19 (hsp.mp q)), hnc]⟩
    · refine ei_bipush (v := -3) X dX10_twist_22 rfl ?_
      refine ei_goto (tgt := 32) X dX10_twist_24 (by decide) ?_
      refine ei_ireturn X F dX10_twist_32 ?_
      exact ⟨by simp only [twistF, sN, sW, sE, sP, sH, sL, sD, sC, sO, sG, sR, cq10, if_true, if_pos (hsp.mpr cq19)], _, kM_20 _ _ _ _ 0, by simp only [twistS, twS, sN, sW, sE, sP, sH, sL, sD, sC, sO, sG, sR, cq10, if_true, if_pos (hsp.mpr cq19)]⟩
  · refine ei_iconst (v := -1) X dX10_twist_13 rfl ?_
    refine ei_ireturn X F dX10_twist_14 ?_
    exact ⟨by simp only [twistF, sN, sW, sE, sP, sH, sL, sD, sC, sO, sG, sR, cq10, Bool.false_eq_true, if_false], _, kM_20 _ _ _ _ 0, by simp only [twistS, sN, sW, sE, sP, sH, sL, sD, sC, sO, sG, sR, cq10, Bool.false_eq_true, if_false]⟩
set_option maxRecDepth 100000 in
set_option maxHeartbeats 4000000 in
theorem ct_X10_isUse (n : Nat) (w se sp hr lt hd sc : Int32) (so fi wo : Nat → Int32) (I : Nat → Int32) (A : Nat → Nat → Int32) (B : Nat → Nat → Int64) (K : Value) (t i j : Int32) (h_n : n ≤ 10) : e_Ct yX10_isUse cX10_isUse 4 (some .boolean) 3 [.ref 0, .int t, .int i, .int j] (mH (n, w, se, sp, hr, lt, hd, sc, so, fi, wo) (I, A, B, K)) (e_eq (some (.int (bz (canU n t i j)))) (mH (n, w, se, sp, hr, lt, hd, sc, so, fi, wo) (I, A, B, K))) := by
  refine e_open RX10 rfl (by decide +kernel) rfl (fun _ => Nat.le_of_ble_eq_true rfl) (fun x X F => ?_)
  refine ei_iload_n X dX10_isUse_0 rfl rfl ?_
  refine ei_i2l X dX10_isUse_1 ?_
  refine ei_lconst (v := 0) X dX10_isUse_2 rfl ?_
  refine ei_ldc2 X cw_RX10_262 dX10_isUse_3 ?_
  refine ei_callT1 X ml_RX10_84 dX10_isUse_6 (ct_X10_in _ _ _ _) rfl rfl (by decide) (by decide) (Nat.le_of_ble_eq_true rfl) ?_
  rw [in_0_4]
  refine ei_ifz_eq (tgt := 37) X dX10_isUse_9 (by decide) (fun cq9 => ?_) (fun cq9 => ?_)
  · refine ei_iconst (v := 0) X dX10_isUse_37 rfl ?_
    refine ei_zreturn X F dX10_isUse_38 (by decide) ?_
    exact ⟨by rw [show canU n t i j = (inI t 0 4 && strF n i j) from by unfold canU inI; rw [Bool.and_assoc], cq9, Bool.false_and]; rfl, rfl⟩
  · refine ei_aload_n X dX10_isUse_12 rfl rfl ?_
    refine ei_iload_n X dX10_isUse_13 rfl rfl ?_
    refine ei_callI1 X ml_RX10_193 dX10_isUse_14 (ct_X10_isBulb _ _ _ _ _ _ _ _ _ _ _ _ _ _ _ _ (by first | omega | assumption)) rfl rfl (by decide) (by decide) rfl (Nat.le_of_ble_eq_true rfl) ?_
    refine ei_ifz_eq (tgt := 37) X dX10_isUse_17 (by decide) (fun cq17 => ?_) (fun cq17 => ?_)
    · refine ei_iconst (v := 0) X dX10_isUse_37 rfl ?_
      refine ei_zreturn X F dX10_isUse_38 (by decide) ?_
      exact ⟨by rw [show canU n t i j = (inI t 0 4 && strF n i j) from by unfold canU inI; rw [Bool.and_assoc], strF, cq17, Bool.false_and, Bool.and_false]; rfl, rfl⟩
    · refine ei_aload_n X dX10_isUse_20 rfl rfl ?_
      refine ei_iload_n X dX10_isUse_21 rfl rfl ?_
      refine ei_callI1 X ml_RX10_193 dX10_isUse_22 (ct_X10_isBulb _ _ _ _ _ _ _ _ _ _ _ _ _ _ _ _ (by first | omega | assumption)) rfl rfl (by decide) (by decide) rfl (Nat.le_of_ble_eq_true rfl) ?_
      refine ei_ifz_eq (tgt := 37) X dX10_isUse_25 (by decide) (fun cq25 => ?_) (fun cq25 => ?_)
      · refine ei_iconst (v := 0) X dX10_isUse_37 rfl ?_
        refine ei_zreturn X F dX10_isUse_38 (by decide) ?_
        exact ⟨by rw [show canU n t i j = (inI t 0 4 && strF n i j) from by unfold canU inI; rw [Bool.and_assoc], strF, cq25, Bool.false_and, Bool.and_false, Bool.and_false]; rfl, rfl⟩
      · refine ei_iload_n X dX10_isUse_28 rfl rfl ?_
        refine ei_iload_n X dX10_isUse_29 rfl rfl ?_
        refine ei_icmp_gt (tgt := 37) X dX10_isUse_30 (by decide) (fun cq30 => ?_) (fun cq30 => ?_)
        · refine ei_iconst (v := 0) X dX10_isUse_37 rfl ?_
          refine ei_zreturn X F dX10_isUse_38 (by decide) ?_
          exact ⟨by rw [show canU n t i j = (inI t 0 4 && strF n i j) from by unfold canU inI; rw [Bool.and_assoc], strF, cq9, cq17, cq25, decide_eq_false (Int32.not_le.mpr cq30)]; rfl, rfl⟩
        · refine ei_iconst (v := 1) X dX10_isUse_33 rfl ?_
          refine ei_goto (tgt := 38) X dX10_isUse_34 (by decide) ?_
          refine ei_zreturn X F dX10_isUse_38 (by decide) ?_
          exact ⟨by rw [show canU n t i j = (inI t 0 4 && strF n i j) from by unfold canU inI; rw [Bool.and_assoc], strF, cq9, cq17, cq25, decide_eq_true (Int32.not_lt.mp cq30)]; rfl, rfl⟩
theorem canU_iff {n : Nat} (hn : n ≤ 10) {t i j : Int32} (h : canU n t i j = true) : ∃ a b, a ≤ b ∧ b < n ∧ i = nI a ∧ j = nI b := by
  unfold canU strF at h
  simp only [Bool.and_eq_true, decide_eq_true_eq] at h
  obtain ⟨-, -, h1, h2, h3⟩ := h
  obtain ⟨a, ha, rfl⟩ := (hasF_iff (by omega)).mp h1
  obtain ⟨b, hb, rfl⟩ := (hasF_iff (by omega)).mp h2
  exact ⟨a, b, (nI_leI (by omega) (by omega)).mp h3, hb, rfl, rfl⟩
set_option maxRecDepth 100000 in
set_option maxHeartbeats 4000000 in
theorem ct_X10_use (n : Nat) (w se sp hr lt hd sc : Int32) (so fi wo : Nat → Int32) (I : Nat → Int32) (A : Nat → Nat → Int32) (B : Nat → Nat → Int64) (K : Value) (t i j : Int32) (h_S : Good (n, w, se, sp, hr, lt, hd, sc, so, fi, wo)) : e_Ct yX10_use cX10_use 4 (some .int) 6 [.ref 0, .int t, .int i, .int j] (mH (n, w, se, sp, hr, lt, hd, sc, so, fi, wo) (I, A, B, K)) (mP (some (.int (useF (n, w, se, sp, hr, lt, hd, sc, so, fi, wo) t i j))) (useSS (n, w, se, sp, hr, lt, hd, sc, so, fi, wo) t i j) (I, A, B, K)) := by
  refine e_open RX10 rfl (by decide +kernel) rfl (fun _ => Nat.le_of_ble_eq_true rfl) (fun x X F => ?_)
  have hn : n ≤ 10 := h_S.1
  refine ei_aload_n X dX10_use_0 rfl rfl ?_
  refine ei_iconst (v := 0) X dX10_use_1 rfl ?_
  refine ei_puti X fp_RX10_78 dX10_use_2 rfl (Nat.le_of_ble_eq_true rfl) (pm_20 _ _ _ _ _ _ _ _ _ _ _ _ _ _ _ _) ?_
  refine ei_aload_n X dX10_use_5 rfl rfl ?_
  refine ei_iload_n X dX10_use_6 rfl rfl ?_
  refine ei_iload_n X dX10_use_7 rfl rfl ?_
  refine ei_iload_n X dX10_use_8 rfl rfl ?_
  refine ei_callI1 X ml_RX10_264 dX10_use_9 (ct_X10_isUse _ _ _ _ _ _ _ _ _ _ _ _ _ _ _ _ _ _ (by first | omega | assumption)) rfl rfl (by decide) (by decide) rfl (Nat.le_of_ble_eq_true rfl) ?_
  refine ei_ifz_eq (tgt := 25) X dX10_use_12 (by decide) (fun cq12 => ?_) (fun cq12 => ?_)
  · refine ei_iconst (v := -1) X dX10_use_25 rfl ?_
    refine ei_ireturn X F dX10_use_26 ?_
    exact ⟨by simp only [useF, sN, sW, sE, sP, sH, sL, sD, sC, sO, sG, sR, cq12, Bool.false_eq_true, if_false], _, kM_20 _ _ _ _ 0, by simp only [useSS, sN, sW, sE, sP, sH, sL, sD, sC, sO, sG, sR, cq12, Bool.false_eq_true, if_false]⟩
  · obtain ⟨a, b, hab, hb, rfl, rfl⟩ := canU_iff hn cq12
    have na : nc (nI a) = a := nc_nI (by omega)
    have nb : nc (nI b) = b := nc_nI (by omega)
    refine ei_aload_n X dX10_use_15 rfl rfl ?_
    refine ei_iload_n X dX10_use_16 rfl rfl ?_
    refine ei_iload_n X dX10_use_17 rfl rfl ?_
    refine ei_iload_n X dX10_use_18 rfl rfl ?_
    refine ei_callI1 X ml_RX10_199 dX10_use_19 (ct_X10_usedOn _ _ _ _ _ _ _ _ _ _ _ _ _ _ _ _ _ _ (by first | omega | assumption) (by first | omega | assumption) (by first | omega | assumption)) rfl rfl (by decide) (by decide) rfl (Nat.le_of_ble_eq_true rfl) ?_
    refine ei_goto (tgt := 26) X dX10_use_22 (by decide) ?_
    refine ei_ireturn X F dX10_use_26 ?_
    exact ⟨by simp only [useF, sN, sW, sE, sP, sH, sL, sD, sC, sO, sG, sR, cq12, if_true, na, nb], _, kM_20 _ _ _ _ 0, by simp only [useSS, sN, sW, sE, sP, sH, sL, sD, sC, sO, sG, sR, cq12, if_true, na, nb]⟩
set_option maxRecDepth 100000 in
set_option maxHeartbeats 4000000 in
theorem ct_X10_hours (n : Nat) (w se sp hr lt hd sc : Int32) (so fi wo : Nat → Int32) (I : Nat → Int32) (A : Nat → Nat → Int32) (B : Nat → Nat → Int64) (K : Value) (m : Int32) (h_S : Good (n, w, se, sp, hr, lt, hd, sc, so, fi, wo)) (h_M : mI (I, A, B, K)) : e_Ct yX10_hours cX10_hours 2 (some .int) 7 [.ref 0, .int m] (mH (n, w, se, sp, hr, lt, hd, sc, so, fi, wo) (I, A, B, K)) (mP (some (.int (hoursF (n, w, se, sp, hr, lt, hd, sc, so, fi, wo) m))) (hoursSS (n, w, se, sp, hr, lt, hd, sc, so, fi, wo) m) (I, A, B, K)) := by
  refine e_open RX10 rfl (by decide +kernel) rfl (fun _ => Nat.le_of_ble_eq_true rfl) (fun x X F => ?_)
  obtain ⟨i11, i12⟩ := h_M
  simp only at i11 i12
  refine ei_aload_n X dX10_hours_0 rfl rfl ?_
  refine ei_iconst (v := 0) X dX10_hours_1 rfl ?_
  refine ei_puti X fp_RX10_78 dX10_hours_2 rfl (Nat.le_of_ble_eq_true rfl) (pm_20 _ _ _ _ _ _ _ _ _ _ _ _ _ _ _ _) ?_
  refine ei_iload_n X dX10_hours_5 rfl rfl ?_
  refine ei_i2l X dX10_hours_6 ?_
  refine ei_lconst (v := 1) X dX10_hours_7 rfl ?_
  refine ei_ldc2 X cw_RX10_202 dX10_hours_8 ?_
  refine ei_callT1 X ml_RX10_84 dX10_hours_11 (ct_X10_in _ _ _ _) rfl rfl (by decide) (by decide) (Nat.le_of_ble_eq_true rfl) ?_
  rw [in_1_60]
  refine ei_ifz_ne (tgt := 19) X dX10_hours_14 (by decide) (fun cq14 => ?_) (fun cq14 => ?_)
  · obtain ⟨k, hk1, hk2, rfl⟩ := (inI_iff (lo := 1) (hi := 60) (by decide) (by decide)).mp cq14
    have hnc : nc (nI k) = k := nc_nI (by omega)
    refine ei_aload_n X dX10_hours_19 rfl rfl ?_
    refine ei_getf X fl_RX10_105 dX10_hours_20 rfl rfl ?_
    refine ei_iload_n X dX10_hours_23 rfl rfl ?_
    refine ei_iadd X dX10_hours_24 ?_
    refine ei_sipush (v := 999) X dX10_hours_25 rfl ?_
    refine ei_icmp_le (tgt := 34) X dX10_hours_28 (by decide) (fun cq28 => ?_) (fun cq28 => ?_)
    · refine ei_aload_n X dX10_hours_34 rfl rfl ?_
      refine ei_iload_n X dX10_hours_35 rfl rfl ?_
      refine ei_callI X ml_RX10_204 dX10_hours_36 (ct_X10_goHours _ _ _ _ _ _ _ _ _ _ _ _ _ _ _ k h_S (by rw [pk_un (by decide)]; exact i12) (by rw [pk_un (by decide)]; exact i11) (by omega)) rfl rfl (by decide) (by decide) rfl (Nat.le_of_ble_eq_true rfl) (fun r h2 hp => ?_)
      obtain ⟨rfl, J, hJ, rfl⟩ := hp
      obtain ⟨w2, se2, hr2, lt2, wo2, e2⟩ := hours_ex (n, w, se, sp, hr, lt, hd, sc, so, fi, wo) k
      rw [e2]
      refine ei_aload_n X dX10_hours_39 rfl rfl ?_
      refine ei_getf X fl_RX10_131 dX10_hours_40 rfl rfl ?_
      refine ei_ireturn X F dX10_hours_43 ?_
      exact ⟨by simp only [hoursF, sN, sW, sE, sP, sH, sL, sD, sC, sO, sG, sR, cq14, cq28, if_true, hnc, e2], (J, A, B, K), kM_i (fun k hk => by rw [hJ k (by omega), pk_un (by omega)]), by simp only [hoursSS, hoursC, sN, sW, sE, sP, sH, sL, sD, sC, sO, sG, sR, cq14, cq28, decide_true, Bool.and_self, if_true, hnc, e2]⟩
    · refine ei_bipush (v := -3) X dX10_hours_31 rfl ?_
      refine ei_ireturn X F dX10_hours_33 ?_
      exact ⟨by simp only [hoursF, sN, sW, sE, sP, sH, sL, sD, sC, sO, sG, sR, cq14, cq28, if_true, if_false], _, kM_20 _ _ _ _ 0, by simp only [hoursSS, hoursC, sN, sW, sE, sP, sH, sL, sD, sC, sO, sG, sR, cq14, cq28, decide_false, Bool.and_false, Bool.false_eq_true, if_false]⟩
  · refine ei_iconst (v := -1) X dX10_hours_17 rfl ?_
    refine ei_ireturn X F dX10_hours_18 ?_
    exact ⟨by simp only [hoursF, sN, sW, sE, sP, sH, sL, sD, sC, sO, sG, sR, cq14, Bool.false_eq_true, if_false], _, kM_20 _ _ _ _ 0, by simp only [hoursSS, hoursC, sN, sW, sE, sP, sH, sL, sD, sC, sO, sG, sR, cq14, Bool.false_and, Bool.false_eq_true, if_false]⟩
set_option maxRecDepth 100000 in
set_option maxHeartbeats 4000000 in
theorem ct_X10_count (n : Nat) (w se sp hr lt hd sc : Int32) (so fi wo : Nat → Int32) (I : Nat → Int32) (A : Nat → Nat → Int32) (B : Nat → Nat → Int64) (K : Value) (what : Int32) : e_Ct yX10_count cX10_count 2 (some .int) 1 [.ref 0, .int what] (mH (n, w, se, sp, hr, lt, hd, sc, so, fi, wo) (I, A, B, K)) (mP (some (.int (countF (n, w, se, sp, hr, lt, hd, sc, so, fi, wo) what))) (n, w, se, sp, hr, lt, hd, sc, so, fi, wo) (I, A, B, K)) := by
  refine e_open RX10 rfl (by decide +kernel) rfl (fun _ => Nat.le_of_ble_eq_true rfl) (fun x X F => ?_)
  refine ei_aload_n X dX10_count_0 rfl rfl ?_
  refine ei_iconst (v := 0) X dX10_count_1 rfl ?_
  refine ei_puti X fp_RX10_78 dX10_count_2 rfl (Nat.le_of_ble_eq_true rfl) (pm_20 _ _ _ _ _ _ _ _ _ _ _ _ _ _ _ _) ?_
  refine ei_iload_n X dX10_count_5 rfl rfl ?_
  refine ei_table [(0, 52), (1, 57), (2, 62), (3, 67), (4, 72), (5, 77), (6, 82), (7, 87)] 92 X dX10_count_6 (by decide) (by decide) (by decide) ⟨fun cq6 => ?_, fun cq6 => ?_, fun cq6 => ?_, fun cq6 => ?_, fun cq6 => ?_, fun cq6 => ?_, fun cq6 => ?_, fun cq6 => ?_, trivial⟩ (fun cq6 => ?_)
  · refine ei_aload_n X dX10_count_52 rfl rfl ?_
    refine ei_getf X fl_RX10_81 dX10_count_53 rfl rfl ?_
    refine ei_ireturn X F dX10_count_56 ?_
    exact ⟨by simp_all [countF, e_tn, sN, sW, sE, sP, sH, sL, sD, sC, sO, sG, sR], _, kM_20 _ _ _ _ 0, rfl⟩
  · refine ei_aload_n X dX10_count_57 rfl rfl ?_
    refine ei_getf X fl_RX10_105 dX10_count_58 rfl rfl ?_
    refine ei_ireturn X F dX10_count_61 ?_
    exact ⟨by simp_all [countF, e_tn, sN, sW, sE, sP, sH, sL, sD, sC, sO, sG, sR], _, kM_20 _ _ _ _ 0, rfl⟩
  · refine ei_aload_n X dX10_count_62 rfl rfl ?_
    refine ei_getf X fl_RX10_131 dX10_count_63 rfl rfl ?_
    refine ei_ireturn X F dX10_count_66 ?_
    exact ⟨by simp_all [countF, e_tn, sN, sW, sE, sP, sH, sL, sD, sC, sO, sG, sR], _, kM_20 _ _ _ _ 0, rfl⟩
  · refine ei_aload_n X dX10_count_67 rfl rfl ?_
    refine ei_getf X fl_RX10_19 dX10_count_68 rfl rfl ?_
    refine ei_ireturn X F dX10_count_71 ?_
    exact ⟨by simp_all [countF, e_tn, sN, sW, sE, sP, sH, sL, sD, sC, sO, sG, sR], _, kM_20 _ _ _ _ 0, rfl⟩
  · refine ei_aload_n X dX10_count_72 rfl rfl ?_
    refine ei_getf X fl_RX10_142 dX10_count_73 rfl rfl ?_
    refine ei_ireturn X F dX10_count_76 ?_
    exact ⟨by simp_all [countF, e_tn, sN, sW, sE, sP, sH, sL, sD, sC, sO, sG, sR], _, kM_20 _ _ _ _ 0, rfl⟩
  · refine ei_aload_n X dX10_count_77 rfl rfl ?_
    refine ei_getf X fl_RX10_149 dX10_count_78 rfl rfl ?_
    refine ei_ireturn X F dX10_count_81 ?_
    exact ⟨by simp_all [countF, e_tn, sN, sW, sE, sP, sH, sL, sD, sC, sO, sG, sR], _, kM_20 _ _ _ _ 0, rfl⟩
  · refine ei_aload_n X dX10_count_82 rfl rfl ?_
    refine ei_getf X fl_RX10_88 dX10_count_83 rfl rfl ?_
    refine ei_ireturn X F dX10_count_86 ?_
    exact ⟨by simp_all [countF, e_tn, sN, sW, sE, sP, sH, sL, sD, sC, sO, sG, sR], _, kM_20 _ _ _ _ 0, rfl⟩
  · refine ei_aload_n X dX10_count_87 rfl rfl ?_
    refine ei_getf X fl_RX10_95 dX10_count_88 rfl rfl ?_
    refine ei_ireturn X F dX10_count_91 ?_
    exact ⟨by simp_all [countF, e_tn, sN, sW, sE, sP, sH, sL, sD, sC, sO, sG, sR], _, kM_20 _ _ _ _ 0, rfl⟩
  · refine ei_iconst (v := -1) X dX10_count_92 rfl ?_
    refine ei_ireturn X F dX10_count_93 ?_
    exact ⟨by simp_all [countF, e_tn, sN, sW, sE, sP, sH, sL, sD, sC, sO, sG, sR], _, kM_20 _ _ _ _ 0, rfl⟩

