/-! ===== the face ===== -/
set_option maxRecDepth 100000 in
set_option maxHeartbeats 1000000 in
theorem ct_X9_within (h : List eC) (v lo hi : Int32) : e_Ct yX9_within cX9_within 3 (some .boolean) 1 [.int v, .int lo, .int hi] h (e_eq (some (.int (bz (inI v lo hi)))) h) := by
  refine e_open RX9 rfl (by decide +kernel) rfl (fun _ => Nat.le_of_ble_eq_true rfl) (fun x X F => ?_)
  refine ei_iload_n X dX9_within_0 rfl rfl ?_
  refine ei_iload_n X dX9_within_1 rfl rfl ?_
  refine ei_icmp_lt (tgt := 14) X dX9_within_2 (by decide) (fun cq2 => ?_) (fun cq2 => ?_)
  · refine ei_iconst (v := 0) X dX9_within_14 rfl ?_
    refine ei_zreturn X F dX9_within_15 (by decide) ?_
    exact ⟨by unfold inI; rw [decide_eq_false (Int32.not_le.mpr cq2)]; rfl, rfl⟩
  · refine ei_iload_n X dX9_within_5 rfl rfl ?_
    refine ei_iload_n X dX9_within_6 rfl rfl ?_
    refine ei_icmp_gt (tgt := 14) X dX9_within_7 (by decide) (fun cq7 => ?_) (fun cq7 => ?_)
    · refine ei_iconst (v := 0) X dX9_within_14 rfl ?_
      refine ei_zreturn X F dX9_within_15 (by decide) ?_
      exact ⟨by unfold inI; rw [decide_eq_false (Int32.not_le.mpr cq7), Bool.and_false]; rfl, rfl⟩
    · refine ei_iconst (v := 1) X dX9_within_10 rfl ?_
      refine ei_goto (tgt := 15) X dX9_within_11 (by decide) ?_
      refine ei_zreturn X F dX9_within_15 (by decide) ?_
      exact ⟨by unfold inI; rw [decide_eq_true (Int32.not_lt.mp cq2), decide_eq_true (Int32.not_lt.mp cq7)]; rfl, rfl⟩
set_option maxRecDepth 100000 in
set_option maxHeartbeats 1000000 in
theorem ct_X9_isPart (h : List eC) (v : Int32) : e_Ct yX9_isPart cX9_isPart 1 (some .boolean) 2 [.int v] h (e_eq (some (.int (bz (inI v 0 1)))) h) := by
  refine e_open RX9 rfl (by decide +kernel) rfl (fun _ => Nat.le_of_ble_eq_true rfl) (fun x X F => ?_)
  refine ei_iload_n X dX9_isPart_0 rfl rfl ?_
  refine ei_iconst (v := 0) X dX9_isPart_1 rfl ?_
  refine ei_iconst (v := 1) X dX9_isPart_2 rfl ?_
  refine ei_callT1 X ml_RX9_112 dX9_isPart_3 (ct_X9_within _ _ _ _) rfl rfl (by decide) (by decide) (Nat.le_of_ble_eq_true rfl) ?_
  refine ei_zreturn X F dX9_isPart_6 (bz_nar _) ?_
  exact ⟨rfl, rfl⟩
set_option maxRecDepth 100000 in
set_option maxHeartbeats 1000000 in
theorem ct_X9_isShelf (h : List eC) (v : Int32) : e_Ct yX9_isShelf cX9_isShelf 1 (some .boolean) 2 [.int v] h (e_eq (some (.int (bz (inI v 0 7)))) h) := by
  refine e_open RX9 rfl (by decide +kernel) rfl (fun _ => Nat.le_of_ble_eq_true rfl) (fun x X F => ?_)
  refine ei_iload_n X dX9_isShelf_0 rfl rfl ?_
  refine ei_iconst (v := 0) X dX9_isShelf_1 rfl ?_
  refine ei_bipush (v := 7) X dX9_isShelf_2 rfl ?_
  refine ei_callT1 X ml_RX9_112 dX9_isShelf_4 (ct_X9_within _ _ _ _) rfl rfl (by decide) (by decide) (Nat.le_of_ble_eq_true rfl) ?_
  refine ei_zreturn X F dX9_isShelf_7 (bz_nar _) ?_
  exact ⟨rfl, rfl⟩
set_option maxRecDepth 100000 in
set_option maxHeartbeats 1000000 in
theorem ct_X9_bit (h : List eC) (c : Bool) : e_Ct yX9_bit cX9_bit 1 (some .int) 1 [.int (bz c)] h (e_eq (some (.int (bz c))) h) := by
  refine e_open RX9 rfl (by decide +kernel) rfl (fun _ => Nat.le_of_ble_eq_true rfl) (fun x X F => ?_)
  refine ei_iload_n X dX9_bit_0 rfl rfl ?_
  refine ei_ifz_eq (tgt := 8) X dX9_bit_1 (by decide) (fun cq1 => ?_) (fun cq1 => ?_)
  · refine ei_iconst (v := 0) X dX9_bit_8 rfl ?_
    refine ei_ireturn X F dX9_bit_9 ?_
    exact ⟨by rw [cq1]; rfl, rfl⟩
  · refine ei_iconst (v := 1) X dX9_bit_4 rfl ?_
    refine ei_goto (tgt := 9) X dX9_bit_5 (by decide) ?_
    refine ei_ireturn X F dX9_bit_9 ?_
    exact ⟨by rw [cq1]; rfl, rfl⟩
set_option maxRecDepth 100000 in
set_option maxHeartbeats 1000000 in
theorem ct_X9_longRefusal (h : List eC) (v : Int32) : e_Ct yX9_longRefusal cX9_longRefusal 1 (some .long) 1 [.int v] h (e_eq (some (.long (1000000000 - v.toInt64))) h) := by
  refine e_open RX9 rfl (by decide +kernel) rfl (fun _ => Nat.le_of_ble_eq_true rfl) (fun x X F => ?_)
  refine ei_ldc2 X cw_RX9_347 dX9_longRefusal_0 ?_
  refine ei_iload_n X dX9_longRefusal_3 rfl rfl ?_
  refine ei_i2l X dX9_longRefusal_4 ?_
  refine ei_lsub X dX9_longRefusal_5 ?_
  refine ei_lreturn X F dX9_longRefusal_6 ?_
  exact ⟨rfl, rfl⟩
theorem lRef : (1000000000 : Int64) - (-1 : Int32).toInt64 = 1000000001 := by decide +kernel
theorem okZ_n {Z : Nat → Sh} (h : ∀ k, k < 8 → okZ (Z k)) {k : Nat} (hk : k < 8) (hz : zH (Z k) = 2) : zN (Z k) ≤ 100 ∧ (zK (Z k) = 0 ∨ zK (Z k) = 1 ∨ zK (Z k) = 2) := ⟨((h k hk).2.2 hz).2, ((h k hk).2.2 hz).1⟩
set_option maxRecDepth 100000 in
set_option maxHeartbeats 1000000 in
theorem ct_X9_rowRefusal (n : Nat) (w se sp hr lt hd sc : Int32) (so fi wo : Nat → Int32) (D T : St) (im : Bool) (Z : Nat → Sh) (be : Nat → Int32) (d : Int32) : e_Ct yX9_rowRefusal cX9_rowRefusal 2 (some .int) 3 [.ref 0, .int d] (oH (n, w, se, sp, hr, lt, hd, sc, so, fi, wo) D T im Z be) (e_eq (some (.int (wrongRowF Z d))) (oH (n, w, se, sp, hr, lt, hd, sc, so, fi, wo) D T im Z be)) := by
  refine e_open RX9 rfl (by decide +kernel) rfl (fun _ => Nat.le_of_ble_eq_true rfl) (fun x X F => ?_)
  refine ei_iload_n X dX9_rowRefusal_0 rfl rfl ?_
  refine ei_callT1 X ml_RX9_228 dX9_rowRefusal_1 (ct_X9_isShelf _ _) rfl rfl (by decide) (by decide) (Nat.le_of_ble_eq_true rfl) ?_
  refine ei_ifz_ne (tgt := 9) X dX9_rowRefusal_4 (by decide) (fun cq4 => ?_) (fun cq4 => ?_)
  · obtain ⟨k, -, hk7, rfl⟩ := (inI_iff (lo := 0) (hi := 7) (by decide) (by decide)).mp cq4
    have hnc : nc (nI k) = k := nc_nI (by omega)
    have hk : k < 8 := (by omega)
    refine ei_aload_n X dX9_rowRefusal_9 rfl rfl ?_
    refine ei_getf X fl_RX9_24 dX9_rowRefusal_10 rfl rfl ?_
    refine ei_iload_n X dX9_rowRefusal_13 rfl rfl ?_
    refine ei_aaload_n X dX9_rowRefusal_14 rfl (by first | omega | assumption) (by decide) rfl ?_
    refine ei_getf X fl_RX9_329 dX9_rowRefusal_15 (oH_sO _ _ _ _ _ _ hk) rfl ?_
    refine ei_if_ne (tgt := 24) X dX9_rowRefusal_18 (by decide) (fun cq18 => ?_) (fun cq18 => ?_)
    · refine ei_aload_n X dX9_rowRefusal_24 rfl rfl ?_
      refine ei_getf X fl_RX9_24 dX9_rowRefusal_25 rfl rfl ?_
      refine ei_iload_n X dX9_rowRefusal_28 rfl rfl ?_
      refine ei_aaload_n X dX9_rowRefusal_29 rfl (by first | omega | assumption) (by decide) rfl ?_
      refine ei_getf X fl_RX9_329 dX9_rowRefusal_30 (oH_sO _ _ _ _ _ _ hk) rfl ?_
      refine ei_iconst (v := 2) X dX9_rowRefusal_33 rfl ?_
      refine ei_icmp_ne (tgt := 41) X dX9_rowRefusal_34 (by decide) (fun cq34 => ?_) (fun cq34 => ?_)
      · refine ei_bipush (v := -12) X dX9_rowRefusal_41 rfl ?_
        refine ei_ireturn X F dX9_rowRefusal_43 ?_
        exact ⟨by unfold wrongRowF; rw [cq4, if_pos rfl, hnc, if_neg cq18, if_neg cq34], rfl⟩
      · refine ei_iconst (v := 0) X dX9_rowRefusal_37 rfl ?_
        refine ei_goto (tgt := 43) X dX9_rowRefusal_38 (by decide) ?_
        refine ei_ireturn X F dX9_rowRefusal_43 ?_
        exact ⟨by unfold wrongRowF; rw [cq4, if_pos rfl, hnc, if_neg cq18, if_pos cq34], rfl⟩
    · refine ei_bipush (v := -11) X dX9_rowRefusal_21 rfl ?_
      refine ei_ireturn X F dX9_rowRefusal_23 ?_
      exact ⟨by unfold wrongRowF; rw [cq4, if_pos rfl, hnc, if_pos cq18], rfl⟩
  · refine ei_iconst (v := -1) X dX9_rowRefusal_7 rfl ?_
    refine ei_ireturn X F dX9_rowRefusal_8 ?_
    exact ⟨by unfold wrongRowF; rw [cq4, if_neg Bool.false_ne_true], rfl⟩
set_option maxRecDepth 100000 in
set_option maxHeartbeats 1000000 in
theorem ct_X9_bulbRefusal (n : Nat) (w se sp hr lt hd sc : Int32) (so fi wo : Nat → Int32) (D T : St) (im : Bool) (Z : Nat → Sh) (be : Nat → Int32) (d : Int32) (h_Z : ∀ k, k < 8 → okZ (Z k)) : e_Ct yX9_bulbRefusal cX9_bulbRefusal 2 (some .int) 3 [.ref 0, .int d] (oH (n, w, se, sp, hr, lt, hd, sc, so, fi, wo) D T im Z be) (e_eq (some (.int (wrongKeptF Z d))) (oH (n, w, se, sp, hr, lt, hd, sc, so, fi, wo) D T im Z be)) := by
  refine e_open RX9 rfl (by decide +kernel) rfl (fun _ => Nat.le_of_ble_eq_true rfl) (fun x X F => ?_)
  refine ei_iload_n X dX9_bulbRefusal_0 rfl rfl ?_
  refine ei_callT1 X ml_RX9_228 dX9_bulbRefusal_1 (ct_X9_isShelf _ _) rfl rfl (by decide) (by decide) (Nat.le_of_ble_eq_true rfl) ?_
  refine ei_ifz_ne (tgt := 9) X dX9_bulbRefusal_4 (by decide) (fun cq4 => ?_) (fun cq4 => ?_)
  · obtain ⟨k, -, hk7, rfl⟩ := (inI_iff (lo := 0) (hi := 7) (by decide) (by decide)).mp cq4
    have hnc : nc (nI k) = k := nc_nI (by omega)
    have hk : k < 8 := (by omega)
    have ho := (h_Z k hk).1
    refine ei_aload_n X dX9_bulbRefusal_9 rfl rfl ?_
    refine ei_getf X fl_RX9_24 dX9_bulbRefusal_10 rfl rfl ?_
    refine ei_iload_n X dX9_bulbRefusal_13 rfl rfl ?_
    refine ei_aaload_n X dX9_bulbRefusal_14 rfl (by first | omega | assumption) (by decide) rfl ?_
    refine ei_getf X fl_RX9_329 dX9_bulbRefusal_15 (oH_sO _ _ _ _ _ _ hk) rfl ?_
    refine ei_if_ne (tgt := 24) X dX9_bulbRefusal_18 (by decide) (fun cq18 => ?_) (fun cq18 => ?_)
    · refine ei_aload_n X dX9_bulbRefusal_24 rfl rfl ?_
      refine ei_getf X fl_RX9_24 dX9_bulbRefusal_25 rfl rfl ?_
      refine ei_iload_n X dX9_bulbRefusal_28 rfl rfl ?_
      refine ei_aaload_n X dX9_bulbRefusal_29 rfl (by first | omega | assumption) (by decide) rfl ?_
      refine ei_getf X fl_RX9_329 dX9_bulbRefusal_30 (oH_sO _ _ _ _ _ _ hk) rfl ?_
      refine ei_iconst (v := 1) X dX9_bulbRefusal_33 rfl ?_
      refine ei_icmp_ne (tgt := 41) X dX9_bulbRefusal_34 (by decide) (fun cq34 => ?_) (fun cq34 => ?_)
      · refine ei_bipush (v := -12) X dX9_bulbRefusal_41 rfl ?_
        refine ei_ireturn X F dX9_bulbRefusal_43 ?_
        exact ⟨by unfold wrongKeptF; rw [cq4, if_pos rfl, hnc, if_neg cq18, if_pos (by rcases ho with y | y | y; exact absurd y cq18; exact absurd y cq34; exact y)], rfl⟩
      · refine ei_iconst (v := 0) X dX9_bulbRefusal_37 rfl ?_
        refine ei_goto (tgt := 43) X dX9_bulbRefusal_38 (by decide) ?_
        refine ei_ireturn X F dX9_bulbRefusal_43 ?_
        exact ⟨by unfold wrongKeptF; rw [cq4, if_pos rfl, hnc, if_neg cq18, if_neg (by rw [cq34]; decide)], rfl⟩
    · refine ei_bipush (v := -11) X dX9_bulbRefusal_21 rfl ?_
      refine ei_ireturn X F dX9_bulbRefusal_23 ?_
      exact ⟨by unfold wrongKeptF; rw [cq4, if_pos rfl, hnc, if_pos cq18], rfl⟩
  · refine ei_iconst (v := -1) X dX9_bulbRefusal_7 rfl ?_
    refine ei_ireturn X F dX9_bulbRefusal_8 ?_
    exact ⟨by unfold wrongKeptF; rw [cq4, if_neg Bool.false_ne_true], rfl⟩
theorem not07 {v : Int32} (h0 : ¬ v = 0) (h1 : ¬ v = 1) (h2 : ¬ v = 2) (h3 : ¬ v = 3) (h4 : ¬ v = 4) (h5 : ¬ v = 5) (h6 : ¬ v = 6) (h7 : ¬ v = 7) : inI v 0 7 = false := by
  refine Classical.byContradiction fun q => ?_
  have q2 : inI v 0 7 = true := by simpa using q
  obtain ⟨k, -, hk, rfl⟩ := (inI_iff (x := v) (lo := 0) (hi := 7) (by decide) (by decide)).mp q2
  rcases (by omega : k = 0 ∨ k = 1 ∨ k = 2 ∨ k = 3 ∨ k = 4 ∨ k = 5 ∨ k = 6 ∨ k = 7) with rfl | rfl | rfl | rfl | rfl | rfl | rfl | rfl
  · exact h0 rfl
  · exact h1 rfl
  · exact h2 rfl
  · exact h3 rfl
  · exact h4 rfl
  · exact h5 rfl
  · exact h6 rfl
  · exact h7 rfl
set_option maxRecDepth 100000 in
set_option maxHeartbeats 1000000 in
theorem ct_X9_bulb (n : Nat) (w se sp hr lt hd sc : Int32) (so fi wo : Nat → Int32) (D T : St) (im : Bool) (Z : Nat → Sh) (be : Nat → Int32) (b what : Int32) (h_S : Good (n, w, se, sp, hr, lt, hd, sc, so, fi, wo)) (h_0 : dg0 be) : e_Ct yX9_bulb cX9_bulb 3 (some .int) 3 [.ref 0, .int b, .int what] (oH (n, w, se, sp, hr, lt, hd, sc, so, fi, wo) D T im Z be) (fP (.int (bulbF (n, w, se, sp, hr, lt, hd, sc, so, fi, wo) b what)) (n, w, se, sp, hr, lt, hd, sc, so, fi, wo) T im Z) := by
  refine e_open RX9 rfl (by decide +kernel) rfl (fun _ => Nat.le_of_ble_eq_true rfl) (fun x X F => ?_)
  have hn : n ≤ 10 := h_S.1
  have RV : ∀ (v : Int32), bulbF (n, w, se, sp, hr, lt, hd, sc, so, fi, wo) b what = v → fP (.int (bulbF (n, w, se, sp, hr, lt, hd, sc, so, fi, wo) b what)) (n, w, se, sp, hr, lt, hd, sc, so, fi, wo) T im Z (some (.int v)) (oH (n, w, se, sp, hr, lt, hd, sc, so, fi, wo) D T im Z be) := fun v h => ⟨by rw [h], D, be, h_0, rfl⟩
  refine ei_aload_n X dX9_bulb_0 rfl rfl ?_
  refine ei_getf X fl_RX9_10 dX9_bulb_1 rfl rfl ?_
  refine ei_iload_n X dX9_bulb_4 rfl rfl ?_
  refine ei_cv1 [1, 2, 3, 4] (oH_gN _ _ _ _ _ _) (oH_pN _ _ _ _ _ _ _) X ml_RX9_54 dX9_bulb_5 (ct_X2_has _ _ _ _ _ _ _ _ _ _ _ _) rfl rfl (by decide) (by decide) rfl (Nat.le_of_ble_eq_true rfl) (by decide) ?_
  refine ei_ifz_ne (tgt := 13) X dX9_bulb_8 (by decide) (fun cq8 => ?_) (fun cq8 => ?_)
  · obtain ⟨k, hk, rfl⟩ := (hasF_iff (by omega)).mp cq8
    have hnc : nc (nI k) = k := nc_nI (by omega)
    have ev : inI what 0 7 = true → bulbF (n, w, se, sp, hr, lt, hd, sc, so, fi, wo) (nI k) what = bulbG (n, w, se, sp, hr, lt, hd, sc, so, fi, wo) k what := (fun cq22 => by unfold bulbF; rw [if_pos ⟨cq8, cq22⟩, hnc])
    refine ei_iload_n X dX9_bulb_13 rfl rfl ?_
    refine ei_table [(0, 60), (1, 70), (2, 80), (3, 90), (4, 102), (5, 114), (6, 123), (7, 145)] 166 X dX9_bulb_14 (by decide) (by decide) (by decide) ⟨fun cq14 => ?_, fun cq14 => ?_, fun cq14 => ?_, fun cq14 => ?_, fun cq14 => ?_, fun cq14 => ?_, fun cq14 => ?_, fun cq14 => ?_, trivial⟩ (fun cq14 => ?_)
    · refine ei_aload_n X dX9_bulb_60 rfl rfl ?_
      refine ei_getf X fl_RX9_10 dX9_bulb_61 rfl rfl ?_
      refine ei_getf X fl_RX9_58 dX9_bulb_64 rfl rfl ?_
      refine ei_iload_n X dX9_bulb_67 rfl rfl ?_
      refine ei_iaload_n X dX9_bulb_68 rfl (by first | omega | assumption) (by decide) ?_
      refine ei_ireturn X F dX9_bulb_69 ?_
      exact RV _ (by rw [ev (by rw [cq14]; decide)]; simp [bulbG, cq14])
    · refine ei_aload_n X dX9_bulb_70 rfl rfl ?_
      refine ei_getf X fl_RX9_10 dX9_bulb_71 rfl rfl ?_
      refine ei_getf X fl_RX9_62 dX9_bulb_74 rfl rfl ?_
      refine ei_iload_n X dX9_bulb_77 rfl rfl ?_
      refine ei_iaload_n X dX9_bulb_78 rfl (by first | omega | assumption) (by decide) ?_
      refine ei_ireturn X F dX9_bulb_79 ?_
      exact RV _ (by rw [ev (by rw [cq14]; decide)]; simp [bulbG, cq14])
    · refine ei_aload_n X dX9_bulb_80 rfl rfl ?_
      refine ei_getf X fl_RX9_10 dX9_bulb_81 rfl rfl ?_
      refine ei_getf X fl_RX9_65 dX9_bulb_84 rfl rfl ?_
      refine ei_iload_n X dX9_bulb_87 rfl rfl ?_
      refine ei_iaload_n X dX9_bulb_88 rfl (by first | omega | assumption) (by decide) ?_
      refine ei_ireturn X F dX9_bulb_89 ?_
      exact RV _ (by rw [ev (by rw [cq14]; decide)]; simp [bulbG, cq14])
    · refine ei_aload_n X dX9_bulb_90 rfl rfl ?_
      refine ei_getf X fl_RX9_10 dX9_bulb_91 rfl rfl ?_
      refine ei_iload_n X dX9_bulb_94 rfl rfl ?_
      refine ei_cv1 [1, 2, 3, 4] (oH_gN _ _ _ _ _ _) (oH_pN _ _ _ _ _ _ _) X ml_RX9_68 dX9_bulb_95 (ct_X2_isWhole _ _ _ _ _ _ _ _ _ _ _ _) rfl rfl (by decide) (by decide) rfl (Nat.le_of_ble_eq_true rfl) (by decide) ?_
      refine ei_callT1 X ml_RX9_71 dX9_bulb_98 (ct_X9_bit _ _) rfl rfl (by decide) (by decide) (Nat.le_of_ble_eq_true rfl) ?_
      refine ei_ireturn X F dX9_bulb_101 ?_
      exact RV _ (by rw [ev (by rw [cq14]; decide)]; simp [bulbG, cq14])
    · refine ei_aload_n X dX9_bulb_102 rfl rfl ?_
      refine ei_getf X fl_RX9_10 dX9_bulb_103 rfl rfl ?_
      refine ei_iload_n X dX9_bulb_106 rfl rfl ?_
      refine ei_cv1 [1, 2, 3, 4] (oH_gN _ _ _ _ _ _) (oH_pN _ _ _ _ _ _ _) X ml_RX9_75 dX9_bulb_107 (ct_X2_isSeated _ _ _ _ _ _ _ _ _ _ _ _) rfl rfl (by decide) (by decide) rfl (Nat.le_of_ble_eq_true rfl) (by decide) ?_
      refine ei_callT1 X ml_RX9_71 dX9_bulb_110 (ct_X9_bit _ _) rfl rfl (by decide) (by decide) (Nat.le_of_ble_eq_true rfl) ?_
      refine ei_ireturn X F dX9_bulb_113 ?_
      exact RV _ (by rw [ev (by rw [cq14]; decide)]; simp [bulbG, cq14])
    · refine ei_aload_n X dX9_bulb_114 rfl rfl ?_
      refine ei_getf X fl_RX9_10 dX9_bulb_115 rfl rfl ?_
      refine ei_iload_n X dX9_bulb_118 rfl rfl ?_
      refine ei_cv1 [1, 2, 3, 4] (oH_gN _ _ _ _ _ _) (oH_pN _ _ _ _ _ _ _) X ml_RX9_78 dX9_bulb_119 (ct_X2_lifeOf _ _ _ _ _ _ _ _ _ _ _ _ (by first | omega | assumption)) rfl rfl (by decide) (by decide) rfl (Nat.le_of_ble_eq_true rfl) (by decide) ?_
      refine ei_ireturn X F dX9_bulb_122 ?_
      exact RV _ (by rw [ev (by rw [cq14]; decide)]; simp [bulbG, cq14])
    · refine ei_aload_n X dX9_bulb_123 rfl rfl ?_
      refine ei_getf X fl_RX9_10 dX9_bulb_124 rfl rfl ?_
      refine ei_getf X fl_RX9_58 dX9_bulb_127 rfl rfl ?_
      refine ei_iload_n X dX9_bulb_130 rfl rfl ?_
      refine ei_iaload_n X dX9_bulb_131 rfl (by first | omega | assumption) (by decide) ?_
      refine ei_aload_n X dX9_bulb_132 rfl rfl ?_
      refine ei_getf X fl_RX9_10 dX9_bulb_133 rfl rfl ?_
      refine ei_getf X fl_RX9_62 dX9_bulb_136 rfl rfl ?_
      refine ei_iload_n X dX9_bulb_139 rfl rfl ?_
      refine ei_iaload_n X dX9_bulb_140 rfl (by first | omega | assumption) (by decide) ?_
      refine ei_callT1 X ml_RX9_81 dX9_bulb_141 (ct_X5_glow _ _ _) rfl rfl (by decide) (by decide) (Nat.le_of_ble_eq_true rfl) ?_
      refine ei_ireturn X F dX9_bulb_144 ?_
      exact RV _ (by rw [ev (by rw [cq14]; decide)]; simp [bulbG, cq14])
    · refine ei_aload_n X dX9_bulb_145 rfl rfl ?_
      refine ei_getf X fl_RX9_10 dX9_bulb_146 rfl rfl ?_
      refine ei_iload_n X dX9_bulb_149 rfl rfl ?_
      refine ei_aload_n X dX9_bulb_150 rfl rfl ?_
      refine ei_getf X fl_RX9_10 dX9_bulb_151 rfl rfl ?_
      refine ei_getf X fl_RX9_87 dX9_bulb_154 rfl rfl ?_
      refine ei_iconst (v := 1) X dX9_bulb_157 rfl ?_
      refine ei_iadd X dX9_bulb_158 ?_
      refine ei_cv1 [1, 2, 3, 4] (oH_gN _ _ _ _ _ _) (oH_pN _ _ _ _ _ _ _) X ml_RX9_90 dX9_bulb_159 (ct_X2_leads _ _ _ _ _ _ _ _ _ _ _ _ _ (by first | omega | assumption)) rfl rfl (by decide) (by decide) rfl (Nat.le_of_ble_eq_true rfl) (by decide) ?_
      refine ei_callT1 X ml_RX9_71 dX9_bulb_162 (ct_X9_bit _ _) rfl rfl (by decide) (by decide) (Nat.le_of_ble_eq_true rfl) ?_
      refine ei_ireturn X F dX9_bulb_165 ?_
      exact RV _ (by rw [ev (by rw [cq14]; decide)]; simp [bulbG, cq14])
    · refine ei_iconst (v := -1) X dX9_bulb_166 rfl ?_
      refine ei_ireturn X F dX9_bulb_167 ?_
      obtain ⟨a, b, c, d, e, f, g, i, -⟩ := cq14
      exact RV _ (by unfold bulbF; rw [if_neg (fun z => Bool.false_ne_true ((not07 a b c d e f g i).symm.trans z.2))])
  · refine ei_iconst (v := -1) X dX9_bulb_11 rfl ?_
    refine ei_ireturn X F dX9_bulb_12 ?_
    exact RV _ (by unfold bulbF; rw [if_neg (fun z => Bool.false_ne_true (cq8.symm.trans z.1))])
set_option maxRecDepth 100000 in
set_option maxHeartbeats 1000000 in
theorem ct_X9_hangs (n : Nat) (w se sp hr lt hd sc : Int32) (so fi wo : Nat → Int32) (D T : St) (im : Bool) (Z : Nat → Sh) (be : Nat → Int32) (d : Int32) (h_S : Good (n, w, se, sp, hr, lt, hd, sc, so, fi, wo)) (h_Z : ∀ k, k < 8 → okZ (Z k)) (h_0 : dg0 be) : e_Ct yX9_hangs cX9_hangs 3 (some .int) 4 [.ref 0, .int d] (oH (n, w, se, sp, hr, lt, hd, sc, so, fi, wo) D T im Z be) (fP (.int (hangsF (n, w, se, sp, hr, lt, hd, sc, so, fi, wo) Z d)) (hangsS (n, w, se, sp, hr, lt, hd, sc, so, fi, wo) Z d) T im Z) := by
  refine e_open RX9 rfl (by decide +kernel) rfl (fun _ => Nat.le_of_ble_eq_true rfl) (fun x X F => ?_)
  have hn : n ≤ 10 := h_S.1
  refine ei_aload_n X dX9_hangs_0 rfl rfl ?_
  refine ei_iload_n X dX9_hangs_1 rfl rfl ?_
  refine ei_callI1 X ml_RX9_94 dX9_hangs_2 (ct_X9_bulbRefusal _ _ _ _ _ _ _ _ _ _ _ _ _ _ _ _ _ h_Z) rfl rfl (by decide) (by decide) rfl (Nat.le_of_ble_eq_true rfl) ?_
  refine ei_istore_n X dX9_hangs_5 rfl (Nat.le_of_ble_eq_true rfl) rfl ?_
  refine ei_iload_n X dX9_hangs_6 rfl rfl ?_
  refine ei_if_eq (tgt := 12) X dX9_hangs_7 (by decide) (fun cq7 => ?_) (fun cq7 => ?_)
  · obtain ⟨k, hk, rfl, hz⟩ := wrongKept_0 h_Z cq7
    have hnc : nc (nI k) = k := nc_nI (by omega)
    refine ei_aload_n X dX9_hangs_12 rfl rfl ?_
    refine ei_getf X fl_RX9_10 dX9_hangs_13 rfl rfl ?_
    refine ei_cv1 [1, 2, 3, 4] (oH_gN _ _ _ _ _ _) (oH_pN _ _ _ _ _ _ _) X ml_RX9_97 dX9_hangs_16 (ct_X2_isFull _ _ _ _ _ _ _ _ _ _ _ (by first | omega | assumption)) rfl rfl (by decide) (by decide) rfl (Nat.le_of_ble_eq_true rfl) (by decide) ?_
    refine ei_ifz_eq (tgt := 25) X dX9_hangs_19 (by decide) (fun cq19 => ?_) (fun cq19 => ?_)
    · have h10 : ¬ 10 ≤ n := of_decide_eq_false cq19
      refine ei_aload_n X dX9_hangs_25 rfl rfl ?_
      refine ei_getf X fl_RX9_10 dX9_hangs_26 rfl rfl ?_
      refine ei_aload_n X dX9_hangs_29 rfl rfl ?_
      refine ei_getf X fl_RX9_24 dX9_hangs_30 rfl rfl ?_
      refine ei_iload_n X dX9_hangs_33 rfl rfl ?_
      refine ei_aaload_n X dX9_hangs_34 rfl (by first | omega | assumption) (by decide) rfl ?_
      refine ei_getf X fl_RX9_101 dX9_hangs_35 (oH_sO _ _ _ _ _ _ hk) rfl ?_
      refine ei_aload_n X dX9_hangs_38 rfl rfl ?_
      refine ei_getf X fl_RX9_24 dX9_hangs_39 rfl rfl ?_
      refine ei_iload_n X dX9_hangs_42 rfl rfl ?_
      refine ei_aaload_n X dX9_hangs_43 rfl (by first | omega | assumption) (by decide) rfl ?_
      refine ei_getf X fl_RX9_103 dX9_hangs_44 (oH_sO _ _ _ _ _ _ hk) rfl ?_
      refine ei_cv0 [1, 2, 3, 4] (oH_gN _ _ _ _ _ _) (oH_pN _ _ _ _ _ _ _) X ml_RX9_105 dX9_hangs_47 (ct_X2_hang _ _ _ _ _ _ _ _ _ _ _ _ _ (by first | omega | assumption)) rfl rfl (by decide) (by decide) rfl (Nat.le_of_ble_eq_true rfl) (by decide) ?_
      rw [if_neg h10]
      refine ei_aload_n X dX9_hangs_50 rfl rfl ?_
      refine ei_getf X fl_RX9_10 dX9_hangs_51 rfl rfl ?_
      refine ei_getf X fl_RX9_109 dX9_hangs_54 rfl rfl ?_
      refine ei_iconst (v := 1) X dX9_hangs_57 rfl ?_
      refine ei_isub X dX9_hangs_58 ?_
      refine ei_ireturn X F dX9_hangs_59 ?_
      have h10' : ¬ sN (n, w, se, sp, hr, lt, hd, sc, so, fi, wo) = 10 := (fun z => h10 (show 10 ≤ n from Nat.le_of_eq z.symm))
      exact ⟨by unfold hangsF; rw [if_pos cq7, if_neg h10']; show some (Value.int (nI (n + 1) - 1)) = some (Value.int (nI n)); rw [nI_pred], D, be, h_0, by unfold hangsS; rw [if_pos cq7, if_neg h10', hnc]; rfl⟩
    · refine ei_bipush (v := -2) X dX9_hangs_22 rfl ?_
      refine ei_ireturn X F dX9_hangs_24 ?_
      have h10 : n = 10 := (by have := of_decide_eq_true cq19; omega)
      exact ⟨by unfold hangsF; rw [if_pos cq7, if_pos h10], D, be, h_0, by unfold hangsS; rw [if_pos cq7, if_pos h10]⟩
  · refine ei_iload_n X dX9_hangs_10 rfl rfl ?_
    refine ei_ireturn X F dX9_hangs_11 ?_
    exact ⟨by unfold hangsF; rw [if_neg cq7], D, be, h_0, by unfold hangsS; rw [if_neg cq7]⟩
set_option maxRecDepth 100000 in
set_option maxHeartbeats 1000000 in
theorem ct_X9_wears (n : Nat) (w se sp hr lt hd sc : Int32) (so fi wo : Nat → Int32) (D T : St) (im : Bool) (Z : Nat → Sh) (be : Nat → Int32) (b v : Int32) (h_S : Good (n, w, se, sp, hr, lt, hd, sc, so, fi, wo)) (h_0 : dg0 be) : e_Ct yX9_wears cX9_wears 4 (some .int) 2 [.ref 0, .int b, .int v] (oH (n, w, se, sp, hr, lt, hd, sc, so, fi, wo) D T im Z be) (fP (.int (wearsF (n, w, se, sp, hr, lt, hd, sc, so, fi, wo) b v)) (n, w, se, sp, hr, lt, hd, sc, so, fi, wearsR (n, w, se, sp, hr, lt, hd, sc, so, fi, wo) b v) T im Z) := by
  refine e_open RX9 rfl (by decide +kernel) rfl (fun _ => Nat.le_of_ble_eq_true rfl) (fun x X F => ?_)
  have hn : n ≤ 10 := h_S.1
  refine ei_aload_n X dX9_wears_0 rfl rfl ?_
  refine ei_getf X fl_RX9_10 dX9_wears_1 rfl rfl ?_
  refine ei_iload_n X dX9_wears_4 rfl rfl ?_
  refine ei_cv1 [1, 2, 3, 4] (oH_gN _ _ _ _ _ _) (oH_pN _ _ _ _ _ _ _) X ml_RX9_54 dX9_wears_5 (ct_X2_has _ _ _ _ _ _ _ _ _ _ _ _) rfl rfl (by decide) (by decide) rfl (Nat.le_of_ble_eq_true rfl) (by decide) ?_
  refine ei_ifz_eq (tgt := 22) X dX9_wears_8 (by decide) (fun cq8 => ?_) (fun cq8 => ?_)
  · refine ei_iconst (v := -1) X dX9_wears_22 rfl ?_
    refine ei_ireturn X F dX9_wears_23 ?_
    have e : wearsC (n, w, se, sp, hr, lt, hd, sc, so, fi, wo) b v = false := (by unfold wearsC; rw [show hasF (sN (n, w, se, sp, hr, lt, hd, sc, so, fi, wo)) b = false from cq8, Bool.false_and])
    exact ⟨by unfold wearsF; rw [e, if_neg Bool.false_ne_true], D, be, h_0, by unfold wearsR; rw [e, if_neg Bool.false_ne_true]⟩
  · obtain ⟨k, hk, rfl⟩ := (hasF_iff (by omega)).mp cq8
    have hnc : nc (nI k) = k := nc_nI (by omega)
    refine ei_iload_n X dX9_wears_11 rfl rfl ?_
    refine ei_iconst (v := 0) X dX9_wears_12 rfl ?_
    refine ei_sipush (v := 999) X dX9_wears_13 rfl ?_
    refine ei_callT1 X ml_RX9_112 dX9_wears_16 (ct_X9_within _ _ _ _) rfl rfl (by decide) (by decide) (Nat.le_of_ble_eq_true rfl) ?_
    refine ei_ifz_ne (tgt := 24) X dX9_wears_19 (by decide) (fun cq19 => ?_) (fun cq19 => ?_)
    · refine ei_aload_n X dX9_wears_24 rfl rfl ?_
      refine ei_getf X fl_RX9_10 dX9_wears_25 rfl rfl ?_
      refine ei_getf X fl_RX9_65 dX9_wears_28 rfl rfl ?_
      refine ei_iload_n X dX9_wears_31 rfl rfl ?_
      refine ei_iaload_n X dX9_wears_32 rfl (by first | omega | assumption) (by decide) ?_
      refine ei_istore_n X dX9_wears_33 rfl (Nat.le_of_ble_eq_true rfl) rfl ?_
      refine ei_aload_n X dX9_wears_34 rfl rfl ?_
      refine ei_getf X fl_RX9_10 dX9_wears_35 rfl rfl ?_
      refine ei_getf X fl_RX9_65 dX9_wears_38 rfl rfl ?_
      refine ei_iload_n X dX9_wears_41 rfl rfl ?_
      refine ei_iload_n X dX9_wears_42 rfl rfl ?_
      refine ei_iastore_n X dX9_wears_43 rfl (by first | omega | assumption) (by decide) (po_N4 _ _ _ _ _ _ _) ?_
      refine ei_iload_n X dX9_wears_44 rfl rfl ?_
      refine ei_ireturn X F dX9_wears_45 ?_
      have e : wearsC (n, w, se, sp, hr, lt, hd, sc, so, fi, wo) (nI k) v = true := (by unfold wearsC; rw [show hasF (sN (n, w, se, sp, hr, lt, hd, sc, so, fi, wo)) (nI k) = true from cq8, cq19]; rfl)
      exact ⟨by unfold wearsF; rw [e, if_pos rfl, hnc], D, be, h_0, by unfold wearsR; rw [e, if_pos rfl, hnc]⟩
    · refine ei_iconst (v := -1) X dX9_wears_22 rfl ?_
      refine ei_ireturn X F dX9_wears_23 ?_
      have e : wearsC (n, w, se, sp, hr, lt, hd, sc, so, fi, wo) (nI k) v = false := (by unfold wearsC; rw [cq19, Bool.and_false])
      exact ⟨by unfold wearsF; rw [e, if_neg Bool.false_ne_true], D, be, h_0, by unfold wearsR; rw [e, if_neg Bool.false_ne_true]⟩
set_option maxRecDepth 100000 in
set_option maxHeartbeats 1000000 in
theorem ct_X9_breaks (n : Nat) (w se sp hr lt hd sc : Int32) (so fi wo : Nat → Int32) (D T : St) (im : Bool) (Z : Nat → Sh) (be : Nat → Int32) (b : Int32) (h_S : Good (n, w, se, sp, hr, lt, hd, sc, so, fi, wo)) (h_0 : dg0 be) : e_Ct yX9_breaks cX9_breaks 2 (some .int) 2 [.ref 0, .int b] (oH (n, w, se, sp, hr, lt, hd, sc, so, fi, wo) D T im Z be) (fP (.int (breaksF (n, w, se, sp, hr, lt, hd, sc, so, fi, wo) b)) (n, breaksW (n, w, se, sp, hr, lt, hd, sc, so, fi, wo) b, se, sp, hr, lt, hd, sc, so, fi, wo) T im Z) := by
  refine e_open RX9 rfl (by decide +kernel) rfl (fun _ => Nat.le_of_ble_eq_true rfl) (fun x X F => ?_)
  have hn : n ≤ 10 := h_S.1
  refine ei_aload_n X dX9_breaks_0 rfl rfl ?_
  refine ei_getf X fl_RX9_10 dX9_breaks_1 rfl rfl ?_
  refine ei_iload_n X dX9_breaks_4 rfl rfl ?_
  refine ei_cv1 [1, 2, 3, 4] (oH_gN _ _ _ _ _ _) (oH_pN _ _ _ _ _ _ _) X ml_RX9_54 dX9_breaks_5 (ct_X2_has _ _ _ _ _ _ _ _ _ _ _ _) rfl rfl (by decide) (by decide) rfl (Nat.le_of_ble_eq_true rfl) (by decide) ?_
  refine ei_ifz_ne (tgt := 13) X dX9_breaks_8 (by decide) (fun cq8 => ?_) (fun cq8 => ?_)
  · obtain ⟨k, hk, rfl⟩ := (hasF_iff (by omega)).mp cq8
    have hnc : nc (nI k) = k := nc_nI (by omega)
    refine ei_aload_n X dX9_breaks_13 rfl rfl ?_
    refine ei_getf X fl_RX9_10 dX9_breaks_14 rfl rfl ?_
    refine ei_iload_n X dX9_breaks_17 rfl rfl ?_
    refine ei_cv0 [1, 2, 3, 4] (oH_gN _ _ _ _ _ _) (oH_pN _ _ _ _ _ _ _) X ml_RX9_116 dX9_breaks_18 (ct_X2_breakOrMend _ _ _ _ _ _ _ _ _ _ _ _) rfl rfl (by decide) (by decide) rfl (Nat.le_of_ble_eq_true rfl) (by decide) ?_
    refine ei_aload_n X dX9_breaks_21 rfl rfl ?_
    refine ei_getf X fl_RX9_10 dX9_breaks_22 rfl rfl ?_
    refine ei_iload_n X dX9_breaks_25 rfl rfl ?_
    refine ei_cv1 [1, 2, 3, 4] (oH_gN _ _ _ _ _ _) (oH_pN _ _ _ _ _ _ _) X ml_RX9_68 dX9_breaks_26 (ct_X2_isWhole _ _ _ _ _ _ _ _ _ _ _ _) rfl rfl (by decide) (by decide) rfl (Nat.le_of_ble_eq_true rfl) (by decide) ?_
    refine ei_callT1 X ml_RX9_71 dX9_breaks_29 (ct_X9_bit _ _) rfl rfl (by decide) (by decide) (Nat.le_of_ble_eq_true rfl) ?_
    refine ei_ireturn X F dX9_breaks_32 ?_
    exact ⟨by unfold breaksF; rw [show hasF (sN (n, w, se, sp, hr, lt, hd, sc, so, fi, wo)) (nI k) = true from cq8, if_pos rfl, hnc], D, be, h_0, by unfold breaksW; rw [show hasF (sN (n, w, se, sp, hr, lt, hd, sc, so, fi, wo)) (nI k) = true from cq8, if_pos rfl, hnc]⟩
  · refine ei_iconst (v := -1) X dX9_breaks_11 rfl ?_
    refine ei_ireturn X F dX9_breaks_12 ?_
    exact ⟨by unfold breaksF; rw [show hasF (sN (n, w, se, sp, hr, lt, hd, sc, so, fi, wo)) b = false from cq8, if_neg Bool.false_ne_true], D, be, h_0, by unfold breaksW; rw [show hasF (sN (n, w, se, sp, hr, lt, hd, sc, so, fi, wo)) b = false from cq8, if_neg Bool.false_ne_true]⟩
set_option maxRecDepth 100000 in
set_option maxHeartbeats 1000000 in
theorem ct_X9_spares (n : Nat) (w se sp hr lt hd sc : Int32) (so fi wo : Nat → Int32) (D T : St) (im : Bool) (Z : Nat → Sh) (be : Nat → Int32) (v : Int32) (h_0 : dg0 be) : e_Ct yX9_spares cX9_spares 3 (some .int) 2 [.ref 0, .int v] (oH (n, w, se, sp, hr, lt, hd, sc, so, fi, wo) D T im Z be) (fP (.int (sparesF (n, w, se, sp, hr, lt, hd, sc, so, fi, wo) v)) (n, w, se, sparesP (n, w, se, sp, hr, lt, hd, sc, so, fi, wo) v, hr, lt, hd, sc, so, fi, wo) T im Z) := by
  refine e_open RX9 rfl (by decide +kernel) rfl (fun _ => Nat.le_of_ble_eq_true rfl) (fun x X F => ?_)
  refine ei_iload_n X dX9_spares_0 rfl rfl ?_
  refine ei_iconst (v := 0) X dX9_spares_1 rfl ?_
  refine ei_bipush (v := 9) X dX9_spares_2 rfl ?_
  refine ei_callT1 X ml_RX9_112 dX9_spares_4 (ct_X9_within _ _ _ _) rfl rfl (by decide) (by decide) (Nat.le_of_ble_eq_true rfl) ?_
  refine ei_ifz_ne (tgt := 12) X dX9_spares_7 (by decide) (fun cq7 => ?_) (fun cq7 => ?_)
  · refine ei_aload_n X dX9_spares_12 rfl rfl ?_
    refine ei_getf X fl_RX9_10 dX9_spares_13 rfl rfl ?_
    refine ei_getf X fl_RX9_120 dX9_spares_16 rfl rfl ?_
    refine ei_istore_n X dX9_spares_19 rfl (Nat.le_of_ble_eq_true rfl) rfl ?_
    refine ei_aload_n X dX9_spares_20 rfl rfl ?_
    refine ei_getf X fl_RX9_10 dX9_spares_21 rfl rfl ?_
    refine ei_iload_n X dX9_spares_24 rfl rfl ?_
    refine ei_puti X fp_RX9_120 dX9_spares_25 rfl (Nat.le_of_ble_eq_true rfl) (po_N6 _ _ _ _ _ _ _) ?_
    refine ei_iload_n X dX9_spares_28 rfl rfl ?_
    refine ei_ireturn X F dX9_spares_29 ?_
    exact ⟨by unfold sparesF; rw [cq7, if_pos rfl], D, be, h_0, by unfold sparesP; rw [cq7, if_pos rfl]⟩
  · refine ei_iconst (v := -1) X dX9_spares_10 rfl ?_
    refine ei_ireturn X F dX9_spares_11 ?_
    exact ⟨by unfold sparesF; rw [cq7, if_neg Bool.false_ne_true], D, be, h_0, by unfold sparesP; rw [cq7, if_neg Bool.false_ne_true]⟩
set_option maxRecDepth 100000 in
set_option maxHeartbeats 1000000 in
theorem ct_X9_twist (n : Nat) (w se sp hr lt hd sc : Int32) (so fi wo : Nat → Int32) (D T : St) (im : Bool) (Z : Nat → Sh) (be : Nat → Int32) (b : Int32) (h_S : Good (n, w, se, sp, hr, lt, hd, sc, so, fi, wo)) (h_0 : dg0 be) : e_Ct yX9_twist cX9_twist 2 (some .int) 4 [.ref 0, .int b] (oH (n, w, se, sp, hr, lt, hd, sc, so, fi, wo) D T im Z be) (fP (.int (twistF (n, w, se, sp, hr, lt, hd, sc, so, fi, wo) b)) (twistS (n, w, se, sp, hr, lt, hd, sc, so, fi, wo) b) T im Z) := by
  refine e_open RX9 rfl (by decide +kernel) rfl (fun _ => Nat.le_of_ble_eq_true rfl) (fun x X F => ?_)
  have hn : n ≤ 10 := h_S.1
  refine ei_aload_n X dX9_twist_0 rfl rfl ?_
  refine ei_getf X fl_RX9_10 dX9_twist_1 rfl rfl ?_
  refine ei_iload_n X dX9_twist_4 rfl rfl ?_
  refine ei_cv1 [1, 2, 3, 4] (oH_gN _ _ _ _ _ _) (oH_pN _ _ _ _ _ _ _) X ml_RX9_54 dX9_twist_5 (ct_X2_has _ _ _ _ _ _ _ _ _ _ _ _) rfl rfl (by decide) (by decide) rfl (Nat.le_of_ble_eq_true rfl) (by decide) ?_
  refine ei_ifz_ne (tgt := 13) X dX9_twist_8 (by decide) (fun cq8 => ?_) (fun cq8 => ?_)
  · obtain ⟨k, hk, rfl⟩ := (hasF_iff (by omega)).mp cq8
    have hnc : nc (nI k) = k := nc_nI (by omega)
    refine ei_aload_n X dX9_twist_13 rfl rfl ?_
    refine ei_getf X fl_RX9_10 dX9_twist_14 rfl rfl ?_
    refine ei_getf X fl_RX9_120 dX9_twist_17 rfl rfl ?_
    refine ei_if_gt (tgt := 26) X dX9_twist_20 (by decide) (fun cq20 => ?_) (fun cq20 => ?_)
    · refine ei_aload_n X dX9_twist_26 rfl rfl ?_
      refine ei_getf X fl_RX9_10 dX9_twist_27 rfl rfl ?_
      refine ei_iload_n X dX9_twist_30 rfl rfl ?_
      refine ei_cv1 [1, 2, 3, 4] (oH_gN _ _ _ _ _ _) (oH_pN _ _ _ _ _ _ _) X ml_RX9_123 dX9_twist_31 (ct_X2_twistIn _ _ _ _ _ _ _ _ _ _ _ _ (by first | omega | assumption)) rfl rfl (by decide) (by decide) rfl (Nat.le_of_ble_eq_true rfl) (by decide) ?_
      refine ei_ireturn X F dX9_twist_34 ?_
      have e : ¬ sP (n, w, se, sp, hr, lt, hd, sc, so, fi, wo) ≤ 0 := Int32.not_le.mpr cq20
      exact ⟨by unfold twistF; rw [show hasF (sN (n, w, se, sp, hr, lt, hd, sc, so, fi, wo)) (nI k) = true from cq8, if_pos rfl, if_neg e], D, be, h_0, by unfold twistS; rw [show hasF (sN (n, w, se, sp, hr, lt, hd, sc, so, fi, wo)) (nI k) = true from cq8, if_pos rfl, if_neg e, hnc]; rfl⟩
    · refine ei_bipush (v := -3) X dX9_twist_23 rfl ?_
      refine ei_ireturn X F dX9_twist_25 ?_
      have e : sP (n, w, se, sp, hr, lt, hd, sc, so, fi, wo) ≤ 0 := Int32.not_lt.mp cq20
      exact ⟨by unfold twistF; rw [show hasF (sN (n, w, se, sp, hr, lt, hd, sc, so, fi, wo)) (nI k) = true from cq8, if_pos rfl, if_pos e], D, be, h_0, by unfold twistS; rw [show hasF (sN (n, w, se, sp, hr, lt, hd, sc, so, fi, wo)) (nI k) = true from cq8, if_pos rfl, if_pos e]⟩
  · refine ei_iconst (v := -1) X dX9_twist_11 rfl ?_
    refine ei_ireturn X F dX9_twist_12 ?_
    exact ⟨by unfold twistF; rw [show hasF (sN (n, w, se, sp, hr, lt, hd, sc, so, fi, wo)) b = false from cq8, if_neg Bool.false_ne_true], D, be, h_0, by unfold twistS; rw [show hasF (sN (n, w, se, sp, hr, lt, hd, sc, so, fi, wo)) b = false from cq8, if_neg Bool.false_ne_true]⟩
set_option maxRecDepth 100000 in
set_option maxHeartbeats 1000000 in
theorem ct_X9_use (n : Nat) (w se sp hr lt hd sc : Int32) (so fi wo : Nat → Int32) (D T : St) (im : Bool) (Z : Nat → Sh) (be : Nat → Int32) (t i j : Int32) (h_S : Good (n, w, se, sp, hr, lt, hd, sc, so, fi, wo)) (h_0 : dg0 be) : e_Ct yX9_use cX9_use 4 (some .int) 6 [.ref 0, .int t, .int i, .int j] (oH (n, w, se, sp, hr, lt, hd, sc, so, fi, wo) D T im Z be) (fP (.int (useF (n, w, se, sp, hr, lt, hd, sc, so, fi, wo) t i j)) (useSS (n, w, se, sp, hr, lt, hd, sc, so, fi, wo) t i j) T im Z) := by
  refine e_open RX9 rfl (by decide +kernel) rfl (fun _ => Nat.le_of_ble_eq_true rfl) (fun x X F => ?_)
  have hn : n ≤ 10 := h_S.1
  refine ei_aload_n X dX9_use_0 rfl rfl ?_
  refine ei_getf X fl_RX9_10 dX9_use_1 rfl rfl ?_
  refine ei_iload_n X dX9_use_4 rfl rfl ?_
  refine ei_iload_n X dX9_use_5 rfl rfl ?_
  refine ei_iload_n X dX9_use_6 rfl rfl ?_
  refine ei_cv1 [1, 2, 3, 4] (oH_gN _ _ _ _ _ _) (oH_pN _ _ _ _ _ _ _) X ml_RX9_126 dX9_use_7 (ct_X2_canUse _ _ _ _ _ _ _ _ _ _ _ _ _ _) rfl rfl (by decide) (by decide) rfl (Nat.le_of_ble_eq_true rfl) (by decide) ?_
  refine ei_ifz_ne (tgt := 15) X dX9_use_10 (by decide) (fun cq10 => ?_) (fun cq10 => ?_)
  · have hC : canU (sN (n, w, se, sp, hr, lt, hd, sc, so, fi, wo)) t i j = true := cq10
    obtain ⟨a, b, hab, hb, rfl, rfl⟩ := canU_iff hn hC
    have na : nc (nI a) = a := nc_nI (by omega)
    have nb : nc (nI b) = b := nc_nI (by omega)
    refine ei_aload_n X dX9_use_15 rfl rfl ?_
    refine ei_getf X fl_RX9_10 dX9_use_16 rfl rfl ?_
    refine ei_iload_n X dX9_use_19 rfl rfl ?_
    refine ei_iload_n X dX9_use_20 rfl rfl ?_
    refine ei_iload_n X dX9_use_21 rfl rfl ?_
    refine ei_cv1 [1, 2, 3, 4] (oH_gN _ _ _ _ _ _) (oH_pN _ _ _ _ _ _ _) X ml_RX9_129 dX9_use_22 (ct_X2_useTool _ _ _ _ _ _ _ _ _ _ _ _ _ _ (by first | omega | assumption) (by first | omega | assumption) (by first | omega | assumption)) rfl rfl (by decide) (by decide) rfl (Nat.le_of_ble_eq_true rfl) (by decide) ?_
    refine ei_callT1 X ml_RX9_71 dX9_use_25 (ct_X9_bit _ _) rfl rfl (by decide) (by decide) (Nat.le_of_ble_eq_true rfl) ?_
    refine ei_ireturn X F dX9_use_28 ?_
    exact ⟨by unfold useF; rw [hC, if_pos rfl, na, nb], D, be, h_0, by unfold useSS; rw [hC, if_pos rfl, na, nb]⟩
  · refine ei_iconst (v := -1) X dX9_use_13 rfl ?_
    refine ei_ireturn X F dX9_use_14 ?_
    have hC : canU (sN (n, w, se, sp, hr, lt, hd, sc, so, fi, wo)) t i j = false := cq10
    exact ⟨by unfold useF; rw [hC, if_neg Bool.false_ne_true], D, be, h_0, by unfold useSS; rw [hC, if_neg Bool.false_ne_true]⟩
theorem hours60 {m : Int32} (h : inI m 1 60 = true) : ∃ k, 1 ≤ k ∧ k ≤ 60 ∧ m = nI k := (inI_iff (lo := 1) (hi := 60) (by decide) (by decide)).mp h
set_option maxRecDepth 100000 in
set_option maxHeartbeats 1000000 in
theorem ct_X9_hours (n : Nat) (w se sp hr lt hd sc : Int32) (so fi wo : Nat → Int32) (D T : St) (im : Bool) (Z : Nat → Sh) (be : Nat → Int32) (m : Int32) (h_S : Good (n, w, se, sp, hr, lt, hd, sc, so, fi, wo)) (h_0 : dg0 be) : e_Ct yX9_hours cX9_hours 2 (some .int) 6 [.ref 0, .int m] (oH (n, w, se, sp, hr, lt, hd, sc, so, fi, wo) D T im Z be) (fP (.int (hoursF (n, w, se, sp, hr, lt, hd, sc, so, fi, wo) m)) (hoursSS (n, w, se, sp, hr, lt, hd, sc, so, fi, wo) m) T im Z) := by
  refine e_open RX9 rfl (by decide +kernel) rfl (fun _ => Nat.le_of_ble_eq_true rfl) (fun x X F => ?_)
  have hn : n ≤ 10 := h_S.1
  refine ei_iload_n X dX9_hours_0 rfl rfl ?_
  refine ei_iconst (v := 1) X dX9_hours_1 rfl ?_
  refine ei_bipush (v := 60) X dX9_hours_2 rfl ?_
  refine ei_callT1 X ml_RX9_112 dX9_hours_4 (ct_X9_within _ _ _ _) rfl rfl (by decide) (by decide) (Nat.le_of_ble_eq_true rfl) ?_
  refine ei_ifz_ne (tgt := 12) X dX9_hours_7 (by decide) (fun cq7 => ?_) (fun cq7 => ?_)
  · obtain ⟨k, hk1, hk2, rfl⟩ := hours60 cq7
    have hnc : nc (nI k) = k := nc_nI (by omega)
    refine ei_aload_n X dX9_hours_12 rfl rfl ?_
    refine ei_getf X fl_RX9_10 dX9_hours_13 rfl rfl ?_
    refine ei_iload_n X dX9_hours_16 rfl rfl ?_
    refine ei_cv1 [1, 2, 3, 4] (oH_gN _ _ _ _ _ _) (oH_pN _ _ _ _ _ _ _) X ml_RX9_132 dX9_hours_17 (ct_X2_passes _ _ _ _ _ _ _ _ _ _ _ _ (by first | omega | assumption) (by first | omega | assumption)) rfl rfl (by decide) (by decide) rfl (Nat.le_of_ble_eq_true rfl) (by decide) ?_
    refine ei_ifz_eq (tgt := 33) X dX9_hours_20 (by decide) (fun cq20 => ?_) (fun cq20 => ?_)
    · have hC := of_decide_eq_false cq20
      rw [if_neg hC]
      have h9 : ¬ sH (n, w, se, sp, hr, lt, hd, sc, so, fi, wo) + nI k ≤ 999 := (fun z => hC ⟨hk1, hk2, z⟩)
      have hS2 : hoursC (n, w, se, sp, hr, lt, hd, sc, so, fi, wo) (nI k) = false := (by unfold hoursC; rw [decide_eq_false h9, Bool.and_false])
      refine ei_bipush (v := -3) X dX9_hours_33 rfl ?_
      refine ei_ireturn X F dX9_hours_35 ?_
      exact ⟨by unfold hoursF; rw [cq7, if_pos rfl, if_neg h9], D, be, h_0, by unfold hoursSS; rw [hS2, if_neg Bool.false_ne_true]⟩
    · have hC := of_decide_eq_true cq20
      rw [if_pos hC]
      obtain ⟨w2, se2, hr2, lt2, wo2, e2⟩ := hours_ex (n, w, se, sp, hr, lt, hd, sc, so, fi, wo) k
      have hS2 : hoursC (n, w, se, sp, hr, lt, hd, sc, so, fi, wo) (nI k) = true := (by unfold hoursC; rw [cq7]; exact decide_eq_true hC.2.2)
      refine ei_aload_n X dX9_hours_23 rfl rfl ?_
      refine ei_getf X fl_RX9_10 dX9_hours_24 rfl rfl ?_
      refine ei_getf X fl_RX9_135 dX9_hours_27 rfl rfl ?_
      refine ei_goto (tgt := 35) X dX9_hours_30 (by decide) ?_
      refine ei_ireturn X F dX9_hours_35 ?_
      exact ⟨by unfold hoursF; rw [cq7, if_pos rfl, if_pos hC.2.2, hnc], D, be, h_0, by unfold hoursSS; rw [hS2, if_pos rfl, hnc]⟩
  · refine ei_iconst (v := -1) X dX9_hours_10 rfl ?_
    refine ei_ireturn X F dX9_hours_11 ?_
    exact ⟨by unfold hoursF; rw [cq7, if_neg Bool.false_ne_true], D, be, h_0, by unfold hoursSS hoursC; rw [cq7, Bool.false_and, if_neg Bool.false_ne_true]⟩

