set_option maxRecDepth 100000 in
set_option maxHeartbeats 4000000 in
theorem ct_X10_wrongRow (n : Nat) (w se sp hr lt hd sc : Int32) (so fi wo : Nat → Int32) (I : Nat → Int32) (A : Nat → Nat → Int32) (B : Nat → Nat → Int64) (K : Value) (Z : Nat → Sh) (d : Int32) (h_R : RS Z (I, A, B, K)) : e_Ct yX10_wrongRow cX10_wrongRow 2 (some .int) 2 [.ref 0, .int d] (mH (n, w, se, sp, hr, lt, hd, sc, so, fi, wo) (I, A, B, K)) (e_eq (some (.int (wrongRowF Z d))) (mH (n, w, se, sp, hr, lt, hd, sc, so, fi, wo) (I, A, B, K))) := by
  refine e_open RX10 rfl (by decide +kernel) rfl (fun _ => Nat.le_of_ble_eq_true rfl) (fun x X F => ?_)
  refine ei_iload_n X dX10_wrongRow_0 rfl rfl ?_
  refine ei_i2l X dX10_wrongRow_1 ?_
  refine ei_lconst (v := 0) X dX10_wrongRow_2 rfl ?_
  refine ei_ldc2 X cw_RX10_253 dX10_wrongRow_3 ?_
  refine ei_callT1 X ml_RX10_84 dX10_wrongRow_6 (ct_X10_in _ _ _ _) rfl rfl (by decide) (by decide) (Nat.le_of_ble_eq_true rfl) ?_
  rw [in_0_7]
  refine ei_ifz_ne (tgt := 16) X dX10_wrongRow_9 (by decide) (fun cq9 => ?_) (fun cq9 => ?_)
  · obtain ⟨k, -, hk, rfl⟩ := (inI_iff (lo := 0) (hi := 7) (by decide) (by decide)).mp cq9
    have hnc : nc (nI k) = k := nc_nI (by omega)
    have hz : A 4 k = zH (Z k) := (h_R k (by omega)).2.1
    refine ei_aload_n X dX10_wrongRow_16 rfl rfl ?_
    refine ei_getf X fl_RX10_26 dX10_wrongRow_17 rfl rfl ?_
    refine ei_iload_n X dX10_wrongRow_20 rfl rfl ?_
    refine ei_iaload_n X dX10_wrongRow_21 rfl (by first | omega | assumption) (by decide) ?_
    refine ei_if_ne (tgt := 30) X dX10_wrongRow_22 (by decide) (fun cq22 => ?_) (fun cq22 => ?_)
    · refine ei_aload_n X dX10_wrongRow_30 rfl rfl ?_
      refine ei_getf X fl_RX10_26 dX10_wrongRow_31 rfl rfl ?_
      refine ei_iload_n X dX10_wrongRow_34 rfl rfl ?_
      refine ei_iaload_n X dX10_wrongRow_35 rfl (by first | omega | assumption) (by decide) ?_
      refine ei_iconst (v := 2) X dX10_wrongRow_36 rfl ?_
      refine ei_icmp_eq (tgt := 45) X dX10_wrongRow_37 (by decide) (fun cq37 => ?_) (fun cq37 => ?_)
      · refine ei_iconst (v := 0) X dX10_wrongRow_45 rfl ?_
        refine ei_ireturn X F dX10_wrongRow_46 ?_
        exact ⟨by simp only [wrongRowF, cq9, if_true, hnc, ← hz, if_neg cq22, if_pos cq37], rfl⟩
      · refine ei_bipush (v := -12) X dX10_wrongRow_40 rfl ?_
        refine ei_goto (tgt := 46) X dX10_wrongRow_42 (by decide) ?_
        refine ei_ireturn X F dX10_wrongRow_46 ?_
        exact ⟨by simp only [wrongRowF, cq9, if_true, hnc, ← hz, if_neg cq22, if_neg cq37], rfl⟩
    · refine ei_bipush (v := -11) X dX10_wrongRow_25 rfl ?_
      refine ei_goto (tgt := 46) X dX10_wrongRow_27 (by decide) ?_
      refine ei_ireturn X F dX10_wrongRow_46 ?_
      exact ⟨by simp only [wrongRowF, cq9, if_true, hnc, ← hz, if_pos cq22], rfl⟩
  · refine ei_iconst (v := -1) X dX10_wrongRow_12 rfl ?_
    refine ei_goto (tgt := 46) X dX10_wrongRow_13 (by decide) ?_
    refine ei_ireturn X F dX10_wrongRow_46 ?_
    exact ⟨by simp only [wrongRowF, cq9, Bool.false_eq_true, if_false], rfl⟩
set_option maxRecDepth 100000 in
set_option maxHeartbeats 4000000 in
theorem ct_X10_wrongKept (n : Nat) (w se sp hr lt hd sc : Int32) (so fi wo : Nat → Int32) (I : Nat → Int32) (A : Nat → Nat → Int32) (B : Nat → Nat → Int64) (K : Value) (Z : Nat → Sh) (d : Int32) (h_R : RS Z (I, A, B, K)) : e_Ct yX10_wrongKept cX10_wrongKept 2 (some .int) 2 [.ref 0, .int d] (mH (n, w, se, sp, hr, lt, hd, sc, so, fi, wo) (I, A, B, K)) (e_eq (some (.int (wrongKeptF Z d))) (mH (n, w, se, sp, hr, lt, hd, sc, so, fi, wo) (I, A, B, K))) := by
  refine e_open RX10 rfl (by decide +kernel) rfl (fun _ => Nat.le_of_ble_eq_true rfl) (fun x X F => ?_)
  refine ei_iload_n X dX10_wrongKept_0 rfl rfl ?_
  refine ei_i2l X dX10_wrongKept_1 ?_
  refine ei_lconst (v := 0) X dX10_wrongKept_2 rfl ?_
  refine ei_ldc2 X cw_RX10_253 dX10_wrongKept_3 ?_
  refine ei_callT1 X ml_RX10_84 dX10_wrongKept_6 (ct_X10_in _ _ _ _) rfl rfl (by decide) (by decide) (Nat.le_of_ble_eq_true rfl) ?_
  rw [in_0_7]
  refine ei_ifz_ne (tgt := 16) X dX10_wrongKept_9 (by decide) (fun cq9 => ?_) (fun cq9 => ?_)
  · obtain ⟨k, -, hk, rfl⟩ := (inI_iff (lo := 0) (hi := 7) (by decide) (by decide)).mp cq9
    have hnc : nc (nI k) = k := nc_nI (by omega)
    have hz : A 4 k = zH (Z k) := (h_R k (by omega)).2.1
    refine ei_aload_n X dX10_wrongKept_16 rfl rfl ?_
    refine ei_getf X fl_RX10_26 dX10_wrongKept_17 rfl rfl ?_
    refine ei_iload_n X dX10_wrongKept_20 rfl rfl ?_
    refine ei_iaload_n X dX10_wrongKept_21 rfl (by first | omega | assumption) (by decide) ?_
    refine ei_if_ne (tgt := 30) X dX10_wrongKept_22 (by decide) (fun cq22 => ?_) (fun cq22 => ?_)
    · refine ei_aload_n X dX10_wrongKept_30 rfl rfl ?_
      refine ei_getf X fl_RX10_26 dX10_wrongKept_31 rfl rfl ?_
      refine ei_iload_n X dX10_wrongKept_34 rfl rfl ?_
      refine ei_iaload_n X dX10_wrongKept_35 rfl (by first | omega | assumption) (by decide) ?_
      refine ei_iconst (v := 2) X dX10_wrongKept_36 rfl ?_
      refine ei_icmp_ne (tgt := 45) X dX10_wrongKept_37 (by decide) (fun cq37 => ?_) (fun cq37 => ?_)
      · refine ei_iconst (v := 0) X dX10_wrongKept_45 rfl ?_
        refine ei_ireturn X F dX10_wrongKept_46 ?_
        exact ⟨by simp only [wrongKeptF, cq9, if_true, hnc, ← hz, if_neg cq22, if_neg cq37], rfl⟩
      · refine ei_bipush (v := -12) X dX10_wrongKept_40 rfl ?_
        refine ei_goto (tgt := 46) X dX10_wrongKept_42 (by decide) ?_
        refine ei_ireturn X F dX10_wrongKept_46 ?_
        exact ⟨by simp only [wrongKeptF, cq9, if_true, hnc, ← hz, if_neg cq22, if_pos cq37], rfl⟩
    · refine ei_bipush (v := -11) X dX10_wrongKept_25 rfl ?_
      refine ei_goto (tgt := 46) X dX10_wrongKept_27 (by decide) ?_
      refine ei_ireturn X F dX10_wrongKept_46 ?_
      exact ⟨by simp only [wrongKeptF, cq9, if_true, hnc, ← hz, if_pos cq22], rfl⟩
  · refine ei_iconst (v := -1) X dX10_wrongKept_12 rfl ?_
    refine ei_goto (tgt := 46) X dX10_wrongKept_13 (by decide) ?_
    refine ei_ireturn X F dX10_wrongKept_46 ?_
    exact ⟨by simp only [wrongKeptF, cq9, Bool.false_eq_true, if_false], rfl⟩
theorem RS_20 {Z : Nat → Sh} (I : Nat → Int32) (A : Nat → Nat → Int32) (B : Nat → Nat → Int64) (K : Value) (h : RS Z (I, A, B, K)) (v : Int32) : RS Z (upd I 20 v, A, B, K) := RS_k h (kM_20 _ _ _ _ v)
theorem RS_ok {Z : Nat → Sh} {M : MX} (h : RS Z M) : ∀ k, k < 8 → okZ (Z k) := fun k hk => (h k hk).1
set_option maxRecDepth 100000 in
set_option maxHeartbeats 4000000 in
theorem ct_X10_bulbComes (n : Nat) (w se sp hr lt hd sc : Int32) (so fi wo : Nat → Int32) (I : Nat → Int32) (A : Nat → Nat → Int32) (B : Nat → Nat → Int64) (K : Value) (ks fg : Int32) (h_k : Gd1 ks 9) (h_n : n ≤ 10) : e_Ct yX10_bulbComes cX10_bulbComes 4 (some .boolean) 1 [.ref 0, .int ks, .int fg] (mH (n, w, se, sp, hr, lt, hd, sc, so, fi, wo) (I, A, B, K)) (e_eq (some (.int (bz (decide (ks ≤ 7) && decide (n < 10))))) (mH (if (decide (ks ≤ 7) && decide (n < 10)) = true then hungS (n, w, se, sp, hr, lt, hd, sc, so, fi, wo) ks fg else (n, w, se, sp, hr, lt, hd, sc, so, fi, wo)) (I, A, B, K))) := by
  refine e_open RX10 rfl (by decide +kernel) rfl (fun _ => Nat.le_of_ble_eq_true rfl) (fun x X F => ?_)
  have h8 : 8 ≤ ks ↔ ¬ ks ≤ 7 := by
    rw [Int32.le_iff_toInt_le, Int32.le_iff_toInt_le, show (8 : Int32).toInt = 8 from rfl, show (7 : Int32).toInt = 7 from rfl]
    omega
  refine ei_iload_n X dX10_bulbComes_0 rfl rfl ?_
  refine ei_bipush (v := 8) X dX10_bulbComes_1 rfl ?_
  refine ei_icmp_ge (tgt := 19) X dX10_bulbComes_3 (by decide) (fun cq3 => ?_) (fun cq3 => ?_)
  · refine ei_iconst (v := 0) X dX10_bulbComes_19 rfl ?_
    refine ei_istore_n X dX10_bulbComes_20 rfl (Nat.le_of_ble_eq_true rfl) rfl ?_
    refine ei_iload_n X dX10_bulbComes_21 rfl rfl ?_
    refine ei_if_eq (tgt := 95) X dX10_bulbComes_22 (by decide) (fun cq22 => ?_) (fun cq22 => ?_)
    · refine ei_iload_n X dX10_bulbComes_95 rfl rfl ?_
      refine ei_zreturn X F dX10_bulbComes_96 (by decide) ?_
      exact ⟨by simp [h8.mp cq3, bz], by simp [h8.mp cq3]⟩
    · first | exact absurd cq22 (by decide) | exact absurd (by decide) cq22
  · refine ei_aload_n X dX10_bulbComes_6 rfl rfl ?_
    refine ei_getf X fl_RX10_81 dX10_bulbComes_7 rfl rfl ?_
    refine ei_bipush (v := nI 10) X dX10_bulbComes_10 rfl ?_
    refine ei_icmpn_ge (tgt := 19) X dX10_bulbComes_12 (by decide) (by first | omega | assumption) (by first | omega | assumption) (fun cq12 => ?_) (fun cq12 => ?_)
    · refine ei_iconst (v := 0) X dX10_bulbComes_19 rfl ?_
      refine ei_istore_n X dX10_bulbComes_20 rfl (Nat.le_of_ble_eq_true rfl) rfl ?_
      refine ei_iload_n X dX10_bulbComes_21 rfl rfl ?_
      refine ei_if_eq (tgt := 95) X dX10_bulbComes_22 (by decide) (fun cq22 => ?_) (fun cq22 => ?_)
      · refine ei_iload_n X dX10_bulbComes_95 rfl rfl ?_
        refine ei_zreturn X F dX10_bulbComes_96 (by decide) ?_
        exact ⟨by simp [show ¬ n < 10 by omega, bz], by simp [show ¬ n < 10 by omega]⟩
      · first | exact absurd cq22 (by decide) | exact absurd (by decide) cq22
    · refine ei_iconst (v := 1) X dX10_bulbComes_15 rfl ?_
      refine ei_goto (tgt := 20) X dX10_bulbComes_16 (by decide) ?_
      refine ei_istore_n X dX10_bulbComes_20 rfl (Nat.le_of_ble_eq_true rfl) rfl ?_
      refine ei_iload_n X dX10_bulbComes_21 rfl rfl ?_
      refine ei_if_eq (tgt := 95) X dX10_bulbComes_22 (by decide) (fun cq22 => ?_) (fun cq22 => ?_)
      · first | exact absurd cq22 (by decide) | exact absurd (by decide) cq22
      · refine ei_aload_n X dX10_bulbComes_25 rfl rfl ?_
        refine ei_getf X fl_RX10_7 dX10_bulbComes_26 rfl rfl ?_
        refine ei_aload_n X dX10_bulbComes_29 rfl rfl ?_
        refine ei_getf X fl_RX10_81 dX10_bulbComes_30 rfl rfl ?_
        refine ei_iload_n X dX10_bulbComes_33 rfl rfl ?_
        refine ei_iastore_n X dX10_bulbComes_34 rfl (by first | omega | assumption) (by decide) (pm_r1 _ _ _ _ _ _ _ _ _ _ _ _ _ _ _ _) ?_
        refine ei_aload_n X dX10_bulbComes_35 rfl rfl ?_
        refine ei_getf X fl_RX10_13 dX10_bulbComes_36 rfl rfl ?_
        refine ei_aload_n X dX10_bulbComes_39 rfl rfl ?_
        refine ei_getf X fl_RX10_81 dX10_bulbComes_40 rfl rfl ?_
        refine ei_iload_n X dX10_bulbComes_43 rfl rfl ?_
        refine ei_iastore_n X dX10_bulbComes_44 rfl (by first | omega | assumption) (by decide) (pm_r2 _ _ _ _ _ _ _ _ _ _ _ _ _ _ _ _) ?_
        refine ei_aload_n X dX10_bulbComes_45 rfl rfl ?_
        refine ei_getf X fl_RX10_16 dX10_bulbComes_46 rfl rfl ?_
        refine ei_aload_n X dX10_bulbComes_49 rfl rfl ?_
        refine ei_getf X fl_RX10_81 dX10_bulbComes_50 rfl rfl ?_
        refine ei_iconst (v := 0) X dX10_bulbComes_53 rfl ?_
        refine ei_iastore_n X dX10_bulbComes_54 rfl (by first | omega | assumption) (by decide) (pm_r3 _ _ _ _ _ _ _ _ _ _ _ _ _ _ _ _) ?_
        refine ei_aload_n X dX10_bulbComes_55 rfl rfl ?_
        refine ei_dup X dX10_bulbComes_56 rfl ?_
        refine ei_getf X fl_RX10_88 dX10_bulbComes_57 rfl rfl ?_
        refine ei_iconst (v := 1) X dX10_bulbComes_60 rfl ?_
        refine ei_aload_n X dX10_bulbComes_61 rfl rfl ?_
        refine ei_getf X fl_RX10_81 dX10_bulbComes_62 rfl rfl ?_
        refine ei_ishl X dX10_bulbComes_65 ?_
        refine ei_ior X dX10_bulbComes_66 ?_
        refine ei_puti X fp_RX10_88 dX10_bulbComes_67 rfl (Nat.le_of_ble_eq_true rfl) (pm_4 _ _ _ _ _ _ _ _ _ _ _ _ _ _ _ _) ?_
        refine ei_aload_n X dX10_bulbComes_70 rfl rfl ?_
        refine ei_dup X dX10_bulbComes_71 rfl ?_
        refine ei_getf X fl_RX10_95 dX10_bulbComes_72 rfl rfl ?_
        refine ei_iconst (v := 1) X dX10_bulbComes_75 rfl ?_
        refine ei_aload_n X dX10_bulbComes_76 rfl rfl ?_
        refine ei_getf X fl_RX10_81 dX10_bulbComes_77 rfl rfl ?_
        refine ei_ishl X dX10_bulbComes_80 ?_
        refine ei_ior X dX10_bulbComes_81 ?_
        refine ei_puti X fp_RX10_95 dX10_bulbComes_82 rfl (Nat.le_of_ble_eq_true rfl) (pm_5 _ _ _ _ _ _ _ _ _ _ _ _ _ _ _ _) ?_
        refine ei_aload_n X dX10_bulbComes_85 rfl rfl ?_
        refine ei_dup X dX10_bulbComes_86 rfl ?_
        refine ei_getf X fl_RX10_81 dX10_bulbComes_87 rfl rfl ?_
        refine ei_iconst (v := 1) X dX10_bulbComes_90 rfl ?_
        refine ei_iadd X dX10_bulbComes_91 ?_
        rw [nI_1]
        refine ei_puti X fp_RX10_81 dX10_bulbComes_92 rfl (Nat.le_of_ble_eq_true rfl) (pm_0 _ _ _ _ _ _ _ _ _ _ _ _ _ _ _ _) ?_
        refine ei_iload_n X dX10_bulbComes_95 rfl rfl ?_
        refine ei_zreturn X F dX10_bulbComes_96 (by decide) ?_
        exact ⟨by simp [show n < 10 by omega, Decidable.not_not.mp (fun z => cq3 (h8.mpr z)), bz], by simp [show n < 10 by omega, Decidable.not_not.mp (fun z => cq3 (h8.mpr z)), hungS, sN, sW, sE, sP, sH, sL, sD, sC, sO, sG, sR]⟩
set_option maxRecDepth 100000 in
set_option maxHeartbeats 4000000 in
theorem ct_X10_hangs (n : Nat) (w se sp hr lt hd sc : Int32) (so fi wo : Nat → Int32) (I : Nat → Int32) (A : Nat → Nat → Int32) (B : Nat → Nat → Int64) (K : Value) (Z : Nat → Sh) (d : Int32) (h_S : Good (n, w, se, sp, hr, lt, hd, sc, so, fi, wo)) (h_R : RS Z (I, A, B, K)) : e_Ct yX10_hangs cX10_hangs 2 (some .int) 3 [.ref 0, .int d] (mH (n, w, se, sp, hr, lt, hd, sc, so, fi, wo) (I, A, B, K)) (mP (some (.int (hangsF (n, w, se, sp, hr, lt, hd, sc, so, fi, wo) Z d))) (hangsS (n, w, se, sp, hr, lt, hd, sc, so, fi, wo) Z d) (I, A, B, K)) := by
  refine e_open RX10 rfl (by decide +kernel) rfl (fun _ => Nat.le_of_ble_eq_true rfl) (fun x X F => ?_)
  have hn : n ≤ 10 := h_S.1
  have hR := RS_20 _ _ _ _ h_R 0
  refine ei_aload_n X dX10_hangs_0 rfl rfl ?_
  refine ei_iconst (v := 0) X dX10_hangs_1 rfl ?_
  refine ei_puti X fp_RX10_78 dX10_hangs_2 rfl (Nat.le_of_ble_eq_true rfl) (pm_20 _ _ _ _ _ _ _ _ _ _ _ _ _ _ _ _) ?_
  refine ei_iload_n X dX10_hangs_5 rfl rfl ?_
  refine ei_i2l X dX10_hangs_6 ?_
  refine ei_lconst (v := 0) X dX10_hangs_7 rfl ?_
  refine ei_ldc2 X cw_RX10_253 dX10_hangs_8 ?_
  refine ei_callT1 X ml_RX10_84 dX10_hangs_11 (ct_X10_in _ _ _ _) rfl rfl (by decide) (by decide) (Nat.le_of_ble_eq_true rfl) ?_
  rw [in_0_7]
  refine ei_ifz_ne (tgt := 19) X dX10_hangs_14 (by decide) (fun cq14 => ?_) (fun cq14 => ?_)
  · refine ei_aload_n X dX10_hangs_19 rfl rfl ?_
    refine ei_iload_n X dX10_hangs_20 rfl rfl ?_
    refine ei_callI1 X ml_RX10_255 dX10_hangs_21 (ct_X10_wrongKept _ _ _ _ _ _ _ _ _ _ _ _ _ _ _ Z _ hR) rfl rfl (by decide) (by decide) rfl (Nat.le_of_ble_eq_true rfl) ?_
    refine ei_if_lt (tgt := 36) X dX10_hangs_24 (by decide) (fun cq24 => ?_) (fun cq24 => ?_)
    · refine ei_aload_n X dX10_hangs_36 rfl rfl ?_
      refine ei_iload_n X dX10_hangs_37 rfl rfl ?_
      refine ei_callI1 X ml_RX10_255 dX10_hangs_38 (ct_X10_wrongKept _ _ _ _ _ _ _ _ _ _ _ _ _ _ _ Z _ hR) rfl rfl (by decide) (by decide) rfl (Nat.le_of_ble_eq_true rfl) ?_
      refine ei_if_ge (tgt := 52) X dX10_hangs_41 (by decide) (fun cq41 => ?_) (fun cq41 => ?_)
      · refine ei_bipush (v := -2) X dX10_hangs_52 rfl ?_
        refine ei_ireturn X F dX10_hangs_54 ?_
        exact (Int32.lt_irrefl (Int32.lt_of_lt_of_le cq24 cq41)).elim
      · refine ei_aload_n X dX10_hangs_44 rfl rfl ?_
        refine ei_iload_n X dX10_hangs_45 rfl rfl ?_
        refine ei_callI1 X ml_RX10_255 dX10_hangs_46 (ct_X10_wrongKept _ _ _ _ _ _ _ _ _ _ _ _ _ _ _ Z _ hR) rfl rfl (by decide) (by decide) rfl (Nat.le_of_ble_eq_true rfl) ?_
        refine ei_goto (tgt := 54) X dX10_hangs_49 (by decide) ?_
        refine ei_ireturn X F dX10_hangs_54 ?_
        exact ⟨by simp only [hangsF, if_neg (wrongKept_n.mp cq24)], _, kM_20 _ _ _ _ 0, by simp only [hangsS, if_neg (wrongKept_n.mp cq24)]⟩
    · refine ei_aload_n X dX10_hangs_27 rfl rfl ?_
      refine ei_getf X fl_RX10_81 dX10_hangs_28 rfl rfl ?_
      refine ei_bipush (v := nI 10) X dX10_hangs_31 rfl ?_
      refine ei_icmpn_ne (tgt := 55) X dX10_hangs_33 (by decide) (by first | omega | assumption) (by first | omega | assumption) (fun cq33 => ?_) (fun cq33 => ?_)
      · obtain ⟨k, hk, rfl, hz⟩ := wrongKept_0 (RS_ok h_R) (wrongKept_ge.mp (Int32.not_lt.mp cq24))
        have hnc : nc (nI k) = k := nc_nI (by omega)
        obtain ⟨o1, o2, o3, o4⟩ := h_R k hk
        obtain ⟨z5, z6⟩ := o3 hz
        have g7 := (o1.2.1 hz).1
        have h7 : decide (zS (Z k) ≤ 7) = true := decide_eq_true (by rw [Int32.le_iff_toInt_le]; exact g7.2)
        have h10 : decide (n < 10) = true := decide_eq_true (by omega)
        refine ei_aload_n X dX10_hangs_55 rfl rfl ?_
        refine ei_aload_n X dX10_hangs_56 rfl rfl ?_
        refine ei_getf X fl_RX10_29 dX10_hangs_57 rfl rfl ?_
        refine ei_iload_n X dX10_hangs_60 rfl rfl ?_
        refine ei_iaload_n X dX10_hangs_61 rfl (by first | omega | assumption) (by decide) ?_
        refine ei_aload_n X dX10_hangs_62 rfl rfl ?_
        refine ei_getf X fl_RX10_32 dX10_hangs_63 rfl rfl ?_
        refine ei_iload_n X dX10_hangs_66 rfl rfl ?_
        refine ei_iaload_n X dX10_hangs_67 rfl (by first | omega | assumption) (by decide) ?_
        simp only at z5 z6
        rw [z5, z6]
        refine ei_callI1 X ml_RX10_207 dX10_hangs_68 (ct_X10_bulbComes _ _ _ _ _ _ _ _ _ _ _ _ _ _ _ _ _ ⟨g7.1, by have := g7.2; omega⟩ hn) rfl rfl (by decide) (by decide) rfl (Nat.le_of_ble_eq_true rfl) ?_
        rw [h7, h10, Bool.and_self, if_pos rfl]
        refine ei_pop X dX10_hangs_71 rfl ?_
        refine ei_aload_n X dX10_hangs_72 rfl rfl ?_
        refine ei_getf X fl_RX10_81 dX10_hangs_73 rfl rfl ?_
        refine ei_iconst (v := 1) X dX10_hangs_76 rfl ?_
        refine ei_isub X dX10_hangs_77 ?_
        rw [nI_pred]
        refine ei_ireturn X F dX10_hangs_78 ?_
        exact ⟨by simp only [hangsF, if_pos (wrongKept_ge.mp (Int32.not_lt.mp cq24)), sN, sW, sE, sP, sH, sL, sD, sC, sO, sG, sR, if_neg cq33], _, kM_20 _ _ _ _ 0, by simp only [hangsS, if_pos (wrongKept_ge.mp (Int32.not_lt.mp cq24)), sN, sW, sE, sP, sH, sL, sD, sC, sO, sG, sR, if_neg cq33, hnc, hungS]⟩
      · refine ei_aload_n X dX10_hangs_36 rfl rfl ?_
        refine ei_iload_n X dX10_hangs_37 rfl rfl ?_
        refine ei_callI1 X ml_RX10_255 dX10_hangs_38 (ct_X10_wrongKept _ _ _ _ _ _ _ _ _ _ _ _ _ _ _ Z _ hR) rfl rfl (by decide) (by decide) rfl (Nat.le_of_ble_eq_true rfl) ?_
        refine ei_if_ge (tgt := 52) X dX10_hangs_41 (by decide) (fun cq41 => ?_) (fun cq41 => ?_)
        · refine ei_bipush (v := -2) X dX10_hangs_52 rfl ?_
          refine ei_ireturn X F dX10_hangs_54 ?_
          exact ⟨by simp only [hangsF, if_pos (wrongKept_ge.mp cq41), sN, sW, sE, sP, sH, sL, sD, sC, sO, sG, sR, if_pos cq33], _, kM_20 _ _ _ _ 0, by simp only [hangsS, if_pos (wrongKept_ge.mp cq41), sN, sW, sE, sP, sH, sL, sD, sC, sO, sG, sR, if_pos cq33]⟩
        · refine ei_aload_n X dX10_hangs_44 rfl rfl ?_
          refine ei_iload_n X dX10_hangs_45 rfl rfl ?_
          refine ei_callI1 X ml_RX10_255 dX10_hangs_46 (ct_X10_wrongKept _ _ _ _ _ _ _ _ _ _ _ _ _ _ _ Z _ hR) rfl rfl (by decide) (by decide) rfl (Nat.le_of_ble_eq_true rfl) ?_
          refine ei_goto (tgt := 54) X dX10_hangs_49 (by decide) ?_
          refine ei_ireturn X F dX10_hangs_54 ?_
          exact absurd (Int32.not_lt.mp cq24) cq41
  · refine ei_iconst (v := -1) X dX10_hangs_17 rfl ?_
    refine ei_ireturn X F dX10_hangs_18 ?_
    exact ⟨by simp only [hangsF, wrongKeptF, cq14, Bool.false_eq_true, if_false, show ¬ (-1 : Int32) = 0 by decide], _, kM_20 _ _ _ _ 0, by simp only [hangsS, wrongKeptF, cq14, Bool.false_eq_true, if_false, show ¬ (-1 : Int32) = 0 by decide]⟩
set_option maxRecDepth 100000 in
set_option maxHeartbeats 4000000 in
theorem ct_X10_costOf (h : List eC) (ks fg : Int32) (h_k : Gd1 ks 7) : e_Ct yX10_costOf cX10_costOf 2 (some .int) 1 [.int ks, .int fg] h (e_eq (some (.int (priceF ks fg))) h) := by
  refine e_open RX10 rfl (by decide +kernel) rfl (fun _ => Nat.le_of_ble_eq_true rfl) (fun x X F => ?_)
  have k7 : ¬ ks = 0 → ¬ ks = 1 → ¬ ks = 2 → ¬ ks = 3 → ¬ ks = 4 → ¬ ks = 5 → ¬ ks = 6 → ks = 7 := by
    obtain ⟨k, hk, rfl⟩ := i32_of (m := 7) (by decide) h_k
    intro a b c d e f g
    rcases (by omega : k = 0 ∨ k = 1 ∨ k = 2 ∨ k = 3 ∨ k = 4 ∨ k = 5 ∨ k = 6 ∨ k = 7) with rfl | rfl | rfl | rfl | rfl | rfl | rfl | rfl
    · exact absurd rfl a
    · exact absurd rfl b
    · exact absurd rfl c
    · exact absurd rfl d
    · exact absurd rfl e
    · exact absurd rfl f
    · exact absurd rfl g
    · rfl
  refine ei_iload_n X dX10_costOf_0 rfl rfl ?_
  refine ei_table [(0, 44), (1, 46), (2, 48), (3, 52), (4, 54), (5, 57), (6, 61)] 63 X dX10_costOf_1 (by decide) (by decide) (by decide) ⟨fun cq1 => ?_, fun cq1 => ?_, fun cq1 => ?_, fun cq1 => ?_, fun cq1 => ?_, fun cq1 => ?_, fun cq1 => ?_, trivial⟩ (fun cq1 => ?_)
  · refine ei_iload_n X dX10_costOf_44 rfl rfl ?_
    refine ei_ireturn X F dX10_costOf_45 ?_
    exact ⟨by simp [priceF, cq1, Int32.add_comm], rfl⟩
  · refine ei_iconst (v := 1) X dX10_costOf_46 rfl ?_
    refine ei_ireturn X F dX10_costOf_47 ?_
    exact ⟨by simp [priceF, cq1, Int32.add_comm], rfl⟩
  · refine ei_iconst (v := 2) X dX10_costOf_48 rfl ?_
    refine ei_iload_n X dX10_costOf_49 rfl rfl ?_
    refine ei_iadd X dX10_costOf_50 ?_
    refine ei_ireturn X F dX10_costOf_51 ?_
    exact ⟨by simp [priceF, cq1, Int32.add_comm], rfl⟩
  · refine ei_iconst (v := 0) X dX10_costOf_52 rfl ?_
    refine ei_ireturn X F dX10_costOf_53 ?_
    exact ⟨by simp [priceF, cq1, Int32.add_comm], rfl⟩
  · refine ei_bipush (v := 7) X dX10_costOf_54 rfl ?_
    refine ei_ireturn X F dX10_costOf_56 ?_
    exact ⟨by simp [priceF, cq1, Int32.add_comm], rfl⟩
  · refine ei_iconst (v := 2) X dX10_costOf_57 rfl ?_
    refine ei_iload_n X dX10_costOf_58 rfl rfl ?_
    refine ei_imul X dX10_costOf_59 ?_
    refine ei_ireturn X F dX10_costOf_60 ?_
    exact ⟨by simp [priceF, cq1, Int32.add_comm], rfl⟩
  · refine ei_iconst (v := 3) X dX10_costOf_61 rfl ?_
    refine ei_ireturn X F dX10_costOf_62 ?_
    exact ⟨by simp [priceF, cq1, Int32.add_comm], rfl⟩
  · refine ei_iconst (v := 2) X dX10_costOf_63 rfl ?_
    refine ei_iload_n X dX10_costOf_64 rfl rfl ?_
    refine ei_imul X dX10_costOf_65 ?_
    refine ei_iconst (v := 1) X dX10_costOf_66 rfl ?_
    refine ei_iadd X dX10_costOf_67 ?_
    refine ei_ireturn X F dX10_costOf_68 ?_
    exact ⟨by obtain ⟨a, b, c, d, e, f, g, -⟩ := cq1; rw [k7 a b c d e f g]; simp [priceF], rfl⟩
set_option maxRecDepth 100000 in
set_option maxHeartbeats 4000000 in
theorem ct_X10_cost (n : Nat) (w se sp hr lt hd sc : Int32) (so fi wo : Nat → Int32) (I : Nat → Int32) (A : Nat → Nat → Int32) (B : Nat → Nat → Int64) (K : Value) (Z : Nat → Sh) (d : Int32) (h_R : RS Z (I, A, B, K)) : e_Ct yX10_cost cX10_cost 2 (some .int) 3 [.ref 0, .int d] (mH (n, w, se, sp, hr, lt, hd, sc, so, fi, wo) (I, A, B, K)) (mP (some (.int (costF Z d))) (n, w, se, sp, hr, lt, hd, sc, so, fi, wo) (I, A, B, K)) := by
  refine e_open RX10 rfl (by decide +kernel) rfl (fun _ => Nat.le_of_ble_eq_true rfl) (fun x X F => ?_)
  have hR := RS_20 _ _ _ _ h_R 0
  refine ei_aload_n X dX10_cost_0 rfl rfl ?_
  refine ei_iconst (v := 0) X dX10_cost_1 rfl ?_
  refine ei_puti X fp_RX10_78 dX10_cost_2 rfl (Nat.le_of_ble_eq_true rfl) (pm_20 _ _ _ _ _ _ _ _ _ _ _ _ _ _ _ _) ?_
  refine ei_aload_n X dX10_cost_5 rfl rfl ?_
  refine ei_iload_n X dX10_cost_6 rfl rfl ?_
  refine ei_callI1 X ml_RX10_255 dX10_cost_7 (ct_X10_wrongKept _ _ _ _ _ _ _ _ _ _ _ _ _ _ _ Z _ hR) rfl rfl (by decide) (by decide) rfl (Nat.le_of_ble_eq_true rfl) ?_
  refine ei_if_ge (tgt := 21) X dX10_cost_10 (by decide) (fun cq10 => ?_) (fun cq10 => ?_)
  · have w0 := wrongKept_ge.mp cq10
    obtain ⟨k, hk, rfl, hz⟩ := wrongKept_0 (RS_ok h_R) w0
    have hnc : nc (nI k) = k := nc_nI (by omega)
    obtain ⟨o1, o2, o3, o4⟩ := h_R k hk
    obtain ⟨z5, z6⟩ := o3 hz
    have g7 := (o1.2.1 hz).1
    simp only at z5 z6
    refine ei_aload_n X dX10_cost_21 rfl rfl ?_
    refine ei_getf X fl_RX10_29 dX10_cost_22 rfl rfl ?_
    refine ei_iload_n X dX10_cost_25 rfl rfl ?_
    refine ei_iaload_n X dX10_cost_26 rfl (by first | omega | assumption) (by decide) ?_
    refine ei_aload_n X dX10_cost_27 rfl rfl ?_
    refine ei_getf X fl_RX10_32 dX10_cost_28 rfl rfl ?_
    refine ei_iload_n X dX10_cost_31 rfl rfl ?_
    refine ei_iaload_n X dX10_cost_32 rfl (by first | omega | assumption) (by decide) ?_
    rw [z5, z6]
    refine ei_callT1 X ml_RX10_368 dX10_cost_33 (ct_X10_costOf _ _ _ g7) rfl rfl (by decide) (by decide) (Nat.le_of_ble_eq_true rfl) ?_
    refine ei_ireturn X F dX10_cost_36 ?_
    exact ⟨by simp only [costF, if_pos w0, hnc], _, kM_20 _ _ _ _ 0, rfl⟩
  · refine ei_aload_n X dX10_cost_13 rfl rfl ?_
    refine ei_iload_n X dX10_cost_14 rfl rfl ?_
    refine ei_callI1 X ml_RX10_255 dX10_cost_15 (ct_X10_wrongKept _ _ _ _ _ _ _ _ _ _ _ _ _ _ _ Z _ hR) rfl rfl (by decide) (by decide) rfl (Nat.le_of_ble_eq_true rfl) ?_
    refine ei_goto (tgt := 36) X dX10_cost_18 (by decide) ?_
    refine ei_ireturn X F dX10_cost_36 ?_
    exact ⟨by simp only [costF, if_neg (fun z => cq10 (wrongKept_ge.mpr z))], _, kM_20 _ _ _ _ 0, rfl⟩
set_option maxRecDepth 100000 in
set_option maxHeartbeats 4000000 in
theorem ct_X10_toss (n : Nat) (w se sp hr lt hd sc : Int32) (so fi wo : Nat → Int32) (I : Nat → Int32) (A : Nat → Nat → Int32) (B : Nat → Nat → Int64) (K : Value) (Z : Nat → Sh) (d : Int32) (h_R : RS Z (I, A, B, K)) : e_Ct yX10_toss cX10_toss 4 (some .int) 3 [.ref 0, .int d] (mH (n, w, se, sp, hr, lt, hd, sc, so, fi, wo) (I, A, B, K)) (mP (some (.int (tossF Z d))) (n, w, se, sp, hr, lt, hd, sc, so, fi, wo) (I, A, B, K)) := by
  refine e_open RX10 rfl (by decide +kernel) rfl (fun _ => Nat.le_of_ble_eq_true rfl) (fun x X F => ?_)
  have hR := RS_20 _ _ _ _ h_R 0
  refine ei_aload_n X dX10_toss_0 rfl rfl ?_
  refine ei_iconst (v := 0) X dX10_toss_1 rfl ?_
  refine ei_puti X fp_RX10_78 dX10_toss_2 rfl (Nat.le_of_ble_eq_true rfl) (pm_20 _ _ _ _ _ _ _ _ _ _ _ _ _ _ _ _) ?_
  refine ei_aload_n X dX10_toss_5 rfl rfl ?_
  refine ei_iload_n X dX10_toss_6 rfl rfl ?_
  refine ei_callI1 X ml_RX10_255 dX10_toss_7 (ct_X10_wrongKept _ _ _ _ _ _ _ _ _ _ _ _ _ _ _ Z _ hR) rfl rfl (by decide) (by decide) rfl (Nat.le_of_ble_eq_true rfl) ?_
  refine ei_if_ge (tgt := 19) X dX10_toss_10 (by decide) (fun cq10 => ?_) (fun cq10 => ?_)
  · have w0 := wrongKept_ge.mp cq10
    obtain ⟨k, hk, rfl, hz⟩ := wrongKept_0 (RS_ok h_R) w0
    have hnc : nc (nI k) = k := nc_nI (by omega)
    obtain ⟨o1, o2, o3, o4⟩ := h_R k hk
    obtain ⟨z5, z6⟩ := o3 hz
    have g7 := (o1.2.1 hz).1
    simp only at z5 z6
    refine ei_aload_n X dX10_toss_19 rfl rfl ?_
    refine ei_getf X fl_RX10_29 dX10_toss_20 rfl rfl ?_
    refine ei_iload_n X dX10_toss_23 rfl rfl ?_
    refine ei_iaload_n X dX10_toss_24 rfl (by first | omega | assumption) (by decide) ?_
    rw [z5]
    refine ei_istore_n X dX10_toss_25 rfl (Nat.le_of_ble_eq_true rfl) rfl ?_
    refine ei_aload_n X dX10_toss_26 rfl rfl ?_
    refine ei_getf X fl_RX10_32 dX10_toss_27 rfl rfl ?_
    refine ei_iload_n X dX10_toss_30 rfl rfl ?_
    refine ei_iaload_n X dX10_toss_31 rfl (by first | omega | assumption) (by decide) ?_
    rw [z6]
    refine ei_istore_n X dX10_toss_32 rfl (Nat.le_of_ble_eq_true rfl) rfl ?_
    refine ei_iload_n X dX10_toss_33 rfl rfl ?_
    refine ei_iconst (v := 2) X dX10_toss_34 rfl ?_
    refine ei_icmp_eq (tgt := 53) X dX10_toss_35 (by decide) (fun cq35 => ?_) (fun cq35 => ?_)
    · refine ei_bipush (v := -15) X dX10_toss_53 rfl ?_
      refine ei_ireturn X F dX10_toss_55 ?_
      exact ⟨by simp only [tossF, if_pos w0, hnc]; simp_all [failF], _, kM_20 _ _ _ _ 0, rfl⟩
    · refine ei_iload_n X dX10_toss_38 rfl rfl ?_
      refine ei_iconst (v := 3) X dX10_toss_39 rfl ?_
      refine ei_icmp_eq (tgt := 53) X dX10_toss_40 (by decide) (fun cq40 => ?_) (fun cq40 => ?_)
      · refine ei_bipush (v := -15) X dX10_toss_53 rfl ?_
        refine ei_ireturn X F dX10_toss_55 ?_
        exact ⟨by simp only [tossF, if_pos w0, hnc]; simp_all [failF], _, kM_20 _ _ _ _ 0, rfl⟩
      · refine ei_iload_n X dX10_toss_43 rfl rfl ?_
        refine ei_bipush (v := 6) X dX10_toss_44 rfl ?_
        refine ei_icmp_eq (tgt := 53) X dX10_toss_46 (by decide) (fun cq46 => ?_) (fun cq46 => ?_)
        · refine ei_bipush (v := -15) X dX10_toss_53 rfl ?_
          refine ei_ireturn X F dX10_toss_55 ?_
          exact ⟨by simp only [tossF, if_pos w0, hnc]; simp_all [failF], _, kM_20 _ _ _ _ 0, rfl⟩
        · refine ei_iload_n X dX10_toss_49 rfl rfl ?_
          refine ei_if_ne (tgt := 56) X dX10_toss_50 (by decide) (fun cq50 => ?_) (fun cq50 => ?_)
          · refine ei_iload_n X dX10_toss_56 rfl rfl ?_
            refine ei_iconst (v := 4) X dX10_toss_57 rfl ?_
            refine ei_icmp_ne (tgt := 68) X dX10_toss_58 (by decide) (fun cq58 => ?_) (fun cq58 => ?_)
            · refine ei_iload_n X dX10_toss_68 rfl rfl ?_
              refine ei_iconst (v := 5) X dX10_toss_69 rfl ?_
              refine ei_icmp_eq (tgt := 79) X dX10_toss_70 (by decide) (fun cq70 => ?_) (fun cq70 => ?_)
              · refine ei_sipush (v := 200) X dX10_toss_79 rfl ?_
                refine ei_iload_n X dX10_toss_82 rfl rfl ?_
                refine ei_iload_n X dX10_toss_83 rfl rfl ?_
                refine ei_callT1 X ml_RX10_368 dX10_toss_84 (ct_X10_costOf _ _ _ g7) rfl rfl (by decide) (by decide) (Nat.le_of_ble_eq_true rfl) ?_
                refine ei_iadd X dX10_toss_87 ?_
                refine ei_goto (tgt := 92) X dX10_toss_88 (by decide) ?_
                refine ei_ireturn X F dX10_toss_92 ?_
                exact ⟨by simp only [tossF, if_pos w0, hnc]; simp_all [failF], _, kM_20 _ _ _ _ 0, rfl⟩
              · refine ei_iload_n X dX10_toss_73 rfl rfl ?_
                refine ei_bipush (v := 7) X dX10_toss_74 rfl ?_
                refine ei_icmp_ne (tgt := 91) X dX10_toss_76 (by decide) (fun cq76 => ?_) (fun cq76 => ?_)
                · refine ei_iload_n X dX10_toss_91 rfl rfl ?_
                  refine ei_ireturn X F dX10_toss_92 ?_
                  exact ⟨by simp only [tossF, if_pos w0, hnc]; simp_all [failF], _, kM_20 _ _ _ _ 0, rfl⟩
                · refine ei_sipush (v := 200) X dX10_toss_79 rfl ?_
                  refine ei_iload_n X dX10_toss_82 rfl rfl ?_
                  refine ei_iload_n X dX10_toss_83 rfl rfl ?_
                  refine ei_callT1 X ml_RX10_368 dX10_toss_84 (ct_X10_costOf _ _ _ g7) rfl rfl (by decide) (by decide) (Nat.le_of_ble_eq_true rfl) ?_
                  refine ei_iadd X dX10_toss_87 ?_
                  refine ei_goto (tgt := 92) X dX10_toss_88 (by decide) ?_
                  refine ei_ireturn X F dX10_toss_92 ?_
                  exact ⟨by simp only [tossF, if_pos w0, hnc]; simp_all [failF], _, kM_20 _ _ _ _ 0, rfl⟩
            · refine ei_bipush (v := 100) X dX10_toss_61 rfl ?_
              refine ei_iload_n X dX10_toss_63 rfl rfl ?_
              refine ei_iadd X dX10_toss_64 ?_
              refine ei_goto (tgt := 92) X dX10_toss_65 (by decide) ?_
              refine ei_ireturn X F dX10_toss_92 ?_
              exact ⟨by simp only [tossF, if_pos w0, hnc]; simp_all [failF], _, kM_20 _ _ _ _ 0, rfl⟩
          · refine ei_bipush (v := -15) X dX10_toss_53 rfl ?_
            refine ei_ireturn X F dX10_toss_55 ?_
            exact ⟨by simp only [tossF, if_pos w0, hnc]; simp_all [failF], _, kM_20 _ _ _ _ 0, rfl⟩
  · refine ei_aload_n X dX10_toss_13 rfl rfl ?_
    refine ei_iload_n X dX10_toss_14 rfl rfl ?_
    refine ei_callI1 X ml_RX10_255 dX10_toss_15 (ct_X10_wrongKept _ _ _ _ _ _ _ _ _ _ _ _ _ _ _ Z _ hR) rfl rfl (by decide) (by decide) rfl (Nat.le_of_ble_eq_true rfl) ?_
    refine ei_ireturn X F dX10_toss_18 ?_
    exact ⟨by simp only [tossF, if_neg (fun z => cq10 (wrongKept_ge.mpr z))], _, kM_20 _ _ _ _ 0, rfl⟩

