set_option maxRecDepth 100000 in
set_option maxHeartbeats 4000000 in
theorem ct_X10_in (h : List eC) (v lo hi : Int64) : e_Ct yX10_in cX10_in 6 (some .boolean) 1 [.long v, .long lo, .long hi] h (e_eq (some (.int (bz (inF v lo hi)))) h) := by
  refine e_open RX10 rfl (by decide +kernel) rfl (fun _ => Nat.le_of_ble_eq_true rfl) (fun x X F => ?_)
  refine ei_lload_n X dX10_in_0 rfl rfl ?_
  refine ei_lload_n X dX10_in_1 rfl rfl ?_
  refine ei_lcmp X dX10_in_2 ?_
  refine ei_ifc_lt (tgt := 17) X dX10_in_3 (by decide) (fun cq3 => ?_) (fun cq3 => ?_)
  · refine ei_iconst (v := 0) X dX10_in_17 rfl ?_
    refine ei_zreturn X F dX10_in_18 (by decide) ?_
    exact ⟨by have h1 := Int64.not_le.mpr cq3; simp only [inF, decide_eq_false h1]; rfl, rfl⟩
  · refine ei_lload_n X dX10_in_6 rfl rfl ?_
    refine ei_lload X dX10_in_7 rfl ?_
    refine ei_lcmp X dX10_in_9 ?_
    refine ei_ifc_gt (tgt := 17) X dX10_in_10 (by decide) (fun cq10 => ?_) (fun cq10 => ?_)
    · refine ei_iconst (v := 0) X dX10_in_17 rfl ?_
      refine ei_zreturn X F dX10_in_18 (by decide) ?_
      exact ⟨by have h1 := Int64.not_le.mpr cq10; simp only [inF, decide_eq_false h1, Bool.and_false]; rfl, rfl⟩
    · refine ei_iconst (v := 1) X dX10_in_13 rfl ?_
      refine ei_goto (tgt := 18) X dX10_in_14 (by decide) ?_
      refine ei_zreturn X F dX10_in_18 (by decide) ?_
      exact ⟨by have h1 := Int64.not_lt.mp cq3; have h2 := Int64.not_lt.mp cq10; simp only [inF, decide_eq_true h1, decide_eq_true h2]; rfl, rfl⟩
set_option maxRecDepth 100000 in
set_option maxHeartbeats 4000000 in
theorem ct_X10_hasBit (h : List eC) (v : Int32) (b : Nat) : e_Ct yX10_hasBit cX10_hasBit 2 (some .boolean) 1 [.int v, .int (nI b)] h (e_eq (some (.int (bz (hasB v b)))) h) := by
  refine e_open RX10 rfl (by decide +kernel) rfl (fun _ => Nat.le_of_ble_eq_true rfl) (fun x X F => ?_)
  refine ei_iload_n X dX10_hasBit_0 rfl rfl ?_
  refine ei_iload_n X dX10_hasBit_1 rfl rfl ?_
  refine ei_ishr X dX10_hasBit_2 ?_
  refine ei_iconst (v := 1) X dX10_hasBit_3 rfl ?_
  refine ei_iand X dX10_hasBit_4 ?_
  refine ei_iconst (v := 1) X dX10_hasBit_5 rfl ?_
  refine ei_icmp_ne (tgt := 13) X dX10_hasBit_6 (by decide) (fun cq6 => ?_) (fun cq6 => ?_)
  · refine ei_iconst (v := 0) X dX10_hasBit_13 rfl ?_
    refine ei_zreturn X F dX10_hasBit_14 (by decide) ?_
    exact ⟨by rw [show hasB v b = false from decide_eq_false cq6]; rfl, rfl⟩
  · refine ei_iconst (v := 1) X dX10_hasBit_9 rfl ?_
    refine ei_goto (tgt := 14) X dX10_hasBit_10 (by decide) ?_
    refine ei_zreturn X F dX10_hasBit_14 (by decide) ?_
    exact ⟨by rw [show hasB v b = true from decide_eq_true cq6]; rfl, rfl⟩
set_option maxRecDepth 100000 in
set_option maxHeartbeats 4000000 in
theorem ct_X10_held (h : List eC) (v hi : Int32) : e_Ct yX10_held cX10_held 2 (some .int) 1 [.int v, .int hi] h (e_eq (some (.int (heldF v hi))) h) := by
  refine e_open RX10 rfl (by decide +kernel) rfl (fun _ => Nat.le_of_ble_eq_true rfl) (fun x X F => ?_)
  refine ei_iload_n X dX10_held_0 rfl rfl ?_
  refine ei_if_ge (tgt := 8) X dX10_held_1 (by decide) (fun cq1 => ?_) (fun cq1 => ?_)
  · refine ei_iload_n X dX10_held_8 rfl rfl ?_
    refine ei_iload_n X dX10_held_9 rfl rfl ?_
    refine ei_icmp_le (tgt := 17) X dX10_held_10 (by decide) (fun cq10 => ?_) (fun cq10 => ?_)
    · refine ei_iload_n X dX10_held_17 rfl rfl ?_
      refine ei_ireturn X F dX10_held_18 ?_
      exact ⟨by simp only [heldF, if_neg (Int32.not_lt.mpr cq1), if_neg (Int32.not_lt.mpr cq10)], rfl⟩
    · refine ei_iload_n X dX10_held_13 rfl rfl ?_
      refine ei_goto (tgt := 18) X dX10_held_14 (by decide) ?_
      refine ei_ireturn X F dX10_held_18 ?_
      exact ⟨by simp only [heldF, if_neg (Int32.not_lt.mpr cq1), if_pos (Int32.not_le.mp cq10)], rfl⟩
  · refine ei_iconst (v := 0) X dX10_held_4 rfl ?_
    refine ei_goto (tgt := 18) X dX10_held_5 (by decide) ?_
    refine ei_ireturn X F dX10_held_18 ?_
    exact ⟨by simp only [heldF, if_pos (Int32.not_le.mp cq1)], rfl⟩
set_option maxRecDepth 100000 in
set_option maxHeartbeats 4000000 in
theorem ct_X10_far (h : List eC) (a b : Int32) : e_Ct yX10_far cX10_far 2 (some .int) 1 [.int a, .int b] h (e_eq (some (.int (farF a b))) h) := by
  refine e_open RX10 rfl (by decide +kernel) rfl (fun _ => Nat.le_of_ble_eq_true rfl) (fun x X F => ?_)
  refine ei_iload_n X dX10_far_0 rfl rfl ?_
  refine ei_iload_n X dX10_far_1 rfl rfl ?_
  refine ei_icmp_ge (tgt := 11) X dX10_far_2 (by decide) (fun cq2 => ?_) (fun cq2 => ?_)
  · refine ei_iload_n X dX10_far_11 rfl rfl ?_
    refine ei_iload_n X dX10_far_12 rfl rfl ?_
    refine ei_isub X dX10_far_13 ?_
    refine ei_ireturn X F dX10_far_14 ?_
    exact ⟨by simp only [farF, if_pos cq2], rfl⟩
  · refine ei_iload_n X dX10_far_5 rfl rfl ?_
    refine ei_iload_n X dX10_far_6 rfl rfl ?_
    refine ei_isub X dX10_far_7 ?_
    refine ei_goto (tgt := 14) X dX10_far_8 (by decide) ?_
    refine ei_ireturn X F dX10_far_14 ?_
    exact ⟨by simp only [farF, if_neg cq2], rfl⟩
set_option maxRecDepth 100000 in
set_option maxHeartbeats 4000000 in
theorem ct_X10_isBulb (n : Nat) (w se sp hr lt hd sc : Int32) (so fi wo : Nat → Int32) (I : Nat → Int32) (A : Nat → Nat → Int32) (B : Nat → Nat → Int64) (K : Value) (b : Int32) (h_n : n ≤ 10) : e_Ct yX10_isBulb cX10_isBulb 2 (some .boolean) 2 [.ref 0, .int b] (mH (n, w, se, sp, hr, lt, hd, sc, so, fi, wo) (I, A, B, K)) (e_eq (some (.int (bz (hasF n b)))) (mH (n, w, se, sp, hr, lt, hd, sc, so, fi, wo) (I, A, B, K))) := by
  refine e_open RX10 rfl (by decide +kernel) rfl (fun _ => Nat.le_of_ble_eq_true rfl) (fun x X F => ?_)
  refine ei_iload_n X dX10_isBulb_0 rfl rfl ?_
  refine ei_i2l X dX10_isBulb_1 ?_
  refine ei_lconst (v := 0) X dX10_isBulb_2 rfl ?_
  refine ei_aload_n X dX10_isBulb_3 rfl rfl ?_
  refine ei_getf X fl_RX10_81 dX10_isBulb_4 rfl rfl ?_
  refine ei_iconst (v := 1) X dX10_isBulb_7 rfl ?_
  refine ei_isub X dX10_isBulb_8 ?_
  refine ei_i2l X dX10_isBulb_9 ?_
  refine ei_callT1 X ml_RX10_84 dX10_isBulb_10 (ct_X10_in _ _ _ _) rfl rfl (by decide) (by decide) (Nat.le_of_ble_eq_true rfl) ?_
  refine ei_zreturn X F dX10_isBulb_13 (bz_nar _) ?_
  exact ⟨by rw [show inF b.toInt64 0 (nI n - 1).toInt64 = hasF n b from (inF_I b 0 (nI n - 1)).trans (inI_has (by omega) b)], rfl⟩
set_option maxRecDepth 100000 in
set_option maxHeartbeats 4000000 in
theorem ct_X10_lifeOf (n : Nat) (w se sp hr lt hd sc : Int32) (so fi wo : Nat → Int32) (I : Nat → Int32) (A : Nat → Nat → Int32) (B : Nat → Nat → Int64) (K : Value) (b : Nat) (h_b : b < 10) (h_S : Good (n, w, se, sp, hr, lt, hd, sc, so, fi, wo)) : e_Ct yX10_lifeOf cX10_lifeOf 3 (some .int) 1 [.ref 0, .int (nI b)] (mH (n, w, se, sp, hr, lt, hd, sc, so, fi, wo) (I, A, B, K)) (e_eq (some (.int (lifeS (n, w, se, sp, hr, lt, hd, sc, so, fi, wo) b))) (mH (n, w, se, sp, hr, lt, hd, sc, so, fi, wo) (I, A, B, K))) := by
  refine e_open RX10 rfl (by decide +kernel) rfl (fun _ => Nat.le_of_ble_eq_true rfl) (fun x X F => ?_)
  obtain ⟨a1, a2, a3⟩ := life_alt1 (h_S.2.2.1 b h_b)
  refine ei_aload_n X dX10_lifeOf_0 rfl rfl ?_
  refine ei_getf X fl_RX10_13 dX10_lifeOf_1 rfl rfl ?_
  refine ei_iload_n X dX10_lifeOf_4 rfl rfl ?_
  refine ei_iaload_n X dX10_lifeOf_5 rfl (by first | omega | assumption) (by decide) ?_
  refine ei_istore_n X dX10_lifeOf_6 rfl (Nat.le_of_ble_eq_true rfl) rfl ?_
  refine ei_aload_n X dX10_lifeOf_7 rfl rfl ?_
  refine ei_getf X fl_RX10_7 dX10_lifeOf_8 rfl rfl ?_
  refine ei_iload_n X dX10_lifeOf_11 rfl rfl ?_
  refine ei_iaload_n X dX10_lifeOf_12 rfl (by first | omega | assumption) (by decide) ?_
  refine ei_table [(2, 52), (3, 79), (4, 79), (5, 59), (6, 67), (7, 71)] 79 X dX10_lifeOf_13 (by decide) (by decide) (by decide) ⟨fun cq13 => ?_, fun cq13 => ?_, fun cq13 => ?_, fun cq13 => ?_, fun cq13 => ?_, fun cq13 => ?_, trivial⟩ (fun cq13 => ?_)
  · refine ei_bipush (v := 30) X dX10_lifeOf_52 rfl ?_
    refine ei_iconst (v := 5) X dX10_lifeOf_54 rfl ?_
    refine ei_iload_n X dX10_lifeOf_55 rfl rfl ?_
    refine ei_imul X dX10_lifeOf_56 ?_
    refine ei_iadd X dX10_lifeOf_57 ?_
    refine ei_ireturn X F dX10_lifeOf_58 ?_
    exact ⟨by simp_all [lifeF, e_tn, sN, sW, sE, sP, sH, sL, sD, sC, sO, sG, sR], rfl⟩
  · refine ei_bipush (v := 60) X dX10_lifeOf_79 rfl ?_
    refine ei_bipush (v := 10) X dX10_lifeOf_81 rfl ?_
    refine ei_iload_n X dX10_lifeOf_83 rfl rfl ?_
    refine ei_imul X dX10_lifeOf_84 ?_
    refine ei_iadd X dX10_lifeOf_85 ?_
    refine ei_ireturn X F dX10_lifeOf_86 ?_
    exact ⟨by simp_all [lifeF, e_tn, sN, sW, sE, sP, sH, sL, sD, sC, sO, sG, sR], rfl⟩
  · refine ei_bipush (v := 60) X dX10_lifeOf_79 rfl ?_
    refine ei_bipush (v := 10) X dX10_lifeOf_81 rfl ?_
    refine ei_iload_n X dX10_lifeOf_83 rfl rfl ?_
    refine ei_imul X dX10_lifeOf_84 ?_
    refine ei_iadd X dX10_lifeOf_85 ?_
    refine ei_ireturn X F dX10_lifeOf_86 ?_
    exact ⟨by simp_all [lifeF, e_tn, sN, sW, sE, sP, sH, sL, sD, sC, sO, sG, sR], rfl⟩
  · refine ei_bipush (v := 40) X dX10_lifeOf_59 rfl ?_
    refine ei_bipush (v := 10) X dX10_lifeOf_61 rfl ?_
    refine ei_iload_n X dX10_lifeOf_63 rfl rfl ?_
    refine ei_imul X dX10_lifeOf_64 ?_
    refine ei_iadd X dX10_lifeOf_65 ?_
    refine ei_ireturn X F dX10_lifeOf_66 ?_
    exact ⟨by simp_all [lifeF, e_tn, sN, sW, sE, sP, sH, sL, sD, sC, sO, sG, sR], rfl⟩
  · refine ei_sipush (v := 150) X dX10_lifeOf_67 rfl ?_
    refine ei_ireturn X F dX10_lifeOf_70 ?_
    exact ⟨by simp_all [lifeF, e_tn, sN, sW, sE, sP, sH, sL, sD, sC, sO, sG, sR], rfl⟩
  · refine ei_bipush (v := 80) X dX10_lifeOf_71 rfl ?_
    refine ei_bipush (v := 20) X dX10_lifeOf_73 rfl ?_
    refine ei_iload_n X dX10_lifeOf_75 rfl rfl ?_
    refine ei_imul X dX10_lifeOf_76 ?_
    refine ei_iadd X dX10_lifeOf_77 ?_
    refine ei_ireturn X F dX10_lifeOf_78 ?_
    exact ⟨by simp_all [lifeF, e_tn, sN, sW, sE, sP, sH, sL, sD, sC, sO, sG, sR], rfl⟩
  · refine ei_bipush (v := 60) X dX10_lifeOf_79 rfl ?_
    refine ei_bipush (v := 10) X dX10_lifeOf_81 rfl ?_
    refine ei_iload_n X dX10_lifeOf_83 rfl rfl ?_
    refine ei_imul X dX10_lifeOf_84 ?_
    refine ei_iadd X dX10_lifeOf_85 ?_
    refine ei_ireturn X F dX10_lifeOf_86 ?_
    exact ⟨by simp_all [lifeF, e_tn, sN, sW, sE, sP, sH, sL, sD, sC, sO, sG, sR], rfl⟩
set_option maxRecDepth 100000 in
set_option maxHeartbeats 4000000 in
theorem ct_X10_glowOf (n : Nat) (w se sp hr lt hd sc : Int32) (so fi wo : Nat → Int32) (I : Nat → Int32) (A : Nat → Nat → Int32) (B : Nat → Nat → Int64) (K : Value) (b : Nat) (h_b : b < 10) : e_Ct yX10_glowOf cX10_glowOf 2 (some .int) 1 [.ref 0, .int (nI b)] (mH (n, w, se, sp, hr, lt, hd, sc, so, fi, wo) (I, A, B, K)) (e_eq (some (.int (glowS (n, w, se, sp, hr, lt, hd, sc, so, fi, wo) b))) (mH (n, w, se, sp, hr, lt, hd, sc, so, fi, wo) (I, A, B, K))) := by
  refine e_open RX10 rfl (by decide +kernel) rfl (fun _ => Nat.le_of_ble_eq_true rfl) (fun x X F => ?_)
  refine ei_aload_n X dX10_glowOf_0 rfl rfl ?_
  refine ei_getf X fl_RX10_7 dX10_glowOf_1 rfl rfl ?_
  refine ei_iload_n X dX10_glowOf_4 rfl rfl ?_
  refine ei_iaload_n X dX10_glowOf_5 rfl (by first | omega | assumption) (by decide) ?_
  refine ei_table [(2, 44), (3, 46), (4, 63), (5, 48), (6, 50), (7, 61)] 63 X dX10_glowOf_6 (by decide) (by decide) (by decide) ⟨fun cq6 => ?_, fun cq6 => ?_, fun cq6 => ?_, fun cq6 => ?_, fun cq6 => ?_, fun cq6 => ?_, trivial⟩ (fun cq6 => ?_)
  · refine ei_iconst (v := 1) X dX10_glowOf_44 rfl ?_
    refine ei_ireturn X F dX10_glowOf_45 ?_
    exact ⟨by simp_all [glowF, e_tn, sN, sW, sE, sP, sH, sL, sD, sC, sO, sG, sR], rfl⟩
  · refine ei_iconst (v := 0) X dX10_glowOf_46 rfl ?_
    refine ei_ireturn X F dX10_glowOf_47 ?_
    exact ⟨by simp_all [glowF, e_tn, sN, sW, sE, sP, sH, sL, sD, sC, sO, sG, sR], rfl⟩
  · refine ei_iconst (v := 4) X dX10_glowOf_63 rfl ?_
    refine ei_ireturn X F dX10_glowOf_64 ?_
    exact ⟨by simp_all [glowF, e_tn, sN, sW, sE, sP, sH, sL, sD, sC, sO, sG, sR], rfl⟩
  · refine ei_iconst (v := 3) X dX10_glowOf_48 rfl ?_
    refine ei_ireturn X F dX10_glowOf_49 ?_
    exact ⟨by simp_all [glowF, e_tn, sN, sW, sE, sP, sH, sL, sD, sC, sO, sG, sR], rfl⟩
  · refine ei_iconst (v := 4) X dX10_glowOf_50 rfl ?_
    refine ei_aload_n X dX10_glowOf_51 rfl rfl ?_
    refine ei_getf X fl_RX10_13 dX10_glowOf_52 rfl rfl ?_
    refine ei_iload_n X dX10_glowOf_55 rfl rfl ?_
    refine ei_iaload_n X dX10_glowOf_56 rfl (by first | omega | assumption) (by decide) ?_
    refine ei_iconst (v := 2) X dX10_glowOf_57 rfl ?_
    refine ei_idiv X dX10_glowOf_58 (by decide) ?_
    refine ei_iadd X dX10_glowOf_59 ?_
    refine ei_ireturn X F dX10_glowOf_60 ?_
    exact ⟨by simp_all [glowF, e_tn, sN, sW, sE, sP, sH, sL, sD, sC, sO, sG, sR], rfl⟩
  · refine ei_iconst (v := 5) X dX10_glowOf_61 rfl ?_
    refine ei_ireturn X F dX10_glowOf_62 ?_
    exact ⟨by simp_all [glowF, e_tn, sN, sW, sE, sP, sH, sL, sD, sC, sO, sG, sR], rfl⟩
  · refine ei_iconst (v := 4) X dX10_glowOf_63 rfl ?_
    refine ei_ireturn X F dX10_glowOf_64 ?_
    exact ⟨by simp_all [glowF, e_tn, sN, sW, sE, sP, sH, sL, sD, sC, sO, sG, sR], rfl⟩
set_option maxRecDepth 100000 in
set_option maxHeartbeats 4000000 in
theorem ct_X10_isBrown (n : Nat) (w se sp hr lt hd sc : Int32) (so fi wo : Nat → Int32) (I : Nat → Int32) (A : Nat → Nat → Int32) (B : Nat → Nat → Int64) (K : Value) (b : Nat) (h_b : b < 10) (h_S : Good (n, w, se, sp, hr, lt, hd, sc, so, fi, wo)) : e_Ct yX10_isBrown cX10_isBrown 2 (some .boolean) 2 [.ref 0, .int (nI b)] (mH (n, w, se, sp, hr, lt, hd, sc, so, fi, wo) (I, A, B, K)) (e_eq (some (.int (bz (brownF (n, w, se, sp, hr, lt, hd, sc, so, fi, wo) b)))) (mH (n, w, se, sp, hr, lt, hd, sc, so, fi, wo) (I, A, B, K))) := by
  refine e_open RX10 rfl (by decide +kernel) rfl (fun _ => Nat.le_of_ble_eq_true rfl) (fun x X F => ?_)
  refine ei_aload_n X dX10_isBrown_0 rfl rfl ?_
  refine ei_getf X fl_RX10_16 dX10_isBrown_1 rfl rfl ?_
  refine ei_iload_n X dX10_isBrown_4 rfl rfl ?_
  refine ei_iaload_n X dX10_isBrown_5 rfl (by first | omega | assumption) (by decide) ?_
  refine ei_aload_n X dX10_isBrown_6 rfl rfl ?_
  refine ei_iload_n X dX10_isBrown_7 rfl rfl ?_
  refine ei_callI1 X ml_RX10_98 dX10_isBrown_8 (ct_X10_lifeOf _ _ _ _ _ _ _ _ _ _ _ _ _ _ _ _ (by first | omega | assumption) (by first | omega | assumption)) rfl rfl (by decide) (by decide) rfl (Nat.le_of_ble_eq_true rfl) ?_
  refine ei_iconst (v := 2) X dX10_isBrown_11 rfl ?_
  refine ei_idiv X dX10_isBrown_12 (by decide) ?_
  refine ei_icmp_lt (tgt := 20) X dX10_isBrown_13 (by decide) (fun cq13 => ?_) (fun cq13 => ?_)
  · refine ei_iconst (v := 0) X dX10_isBrown_20 rfl ?_
    refine ei_zreturn X F dX10_isBrown_21 (by decide) ?_
    exact ⟨by rw [show brownF (n, w, se, sp, hr, lt, hd, sc, so, fi, wo) b = false from decide_eq_false (Int32.not_le.mpr cq13)]; rfl, rfl⟩
  · refine ei_iconst (v := 1) X dX10_isBrown_16 rfl ?_
    refine ei_goto (tgt := 21) X dX10_isBrown_17 (by decide) ?_
    refine ei_zreturn X F dX10_isBrown_21 (by decide) ?_
    exact ⟨by rw [show brownF (n, w, se, sp, hr, lt, hd, sc, so, fi, wo) b = true from decide_eq_true (Int32.not_lt.mp cq13)]; rfl, rfl⟩
set_option maxRecDepth 100000 in
set_option maxHeartbeats 4000000 in
theorem ct_X10_leads (n : Nat) (w se sp hr lt hd sc : Int32) (so fi wo : Nat → Int32) (I : Nat → Int32) (A : Nat → Nat → Int32) (B : Nat → Nat → Int64) (K : Value) (b : Nat) (h : Int32) (h_b : b < 10) (h_S : Good (n, w, se, sp, hr, lt, hd, sc, so, fi, wo)) : e_Ct yX10_leads cX10_leads 5 (some .boolean) 2 [.ref 0, .int (nI b), .int h] (mH (n, w, se, sp, hr, lt, hd, sc, so, fi, wo) (I, A, B, K)) (e_eq (some (.int (bz (leadsF (n, w, se, sp, hr, lt, hd, sc, so, fi, wo) b h)))) (mH (n, w, se, sp, hr, lt, hd, sc, so, fi, wo) (I, A, B, K))) := by
  refine e_open RX10 rfl (by decide +kernel) rfl (fun _ => Nat.le_of_ble_eq_true rfl) (fun x X F => ?_)
  obtain ⟨a1, a2, a3, a4⟩ := fig_pos (h_S.2.2.1 b h_b)
  refine ei_aload_n X dX10_leads_0 rfl rfl ?_
  refine ei_getf X fl_RX10_88 dX10_leads_1 rfl rfl ?_
  refine ei_iload_n X dX10_leads_4 rfl rfl ?_
  refine ei_callT1 X ml_RX10_91 dX10_leads_5 (ct_X10_hasBit _ _ _) rfl rfl (by decide) (by decide) (Nat.le_of_ble_eq_true rfl) ?_
  refine ei_istore_n X dX10_leads_8 rfl (Nat.le_of_ble_eq_true rfl) rfl ?_
  refine ei_aload_n X dX10_leads_9 rfl rfl ?_
  refine ei_getf X fl_RX10_13 dX10_leads_10 rfl rfl ?_
  refine ei_iload_n X dX10_leads_13 rfl rfl ?_
  refine ei_iaload_n X dX10_leads_14 rfl (by first | omega | assumption) (by decide) ?_
  refine ei_istore X dX10_leads_15 (Nat.le_of_ble_eq_true rfl) rfl ?_
  refine ei_aload_n X dX10_leads_17 rfl rfl ?_
  refine ei_getf X fl_RX10_7 dX10_leads_18 rfl rfl ?_
  refine ei_iload_n X dX10_leads_21 rfl rfl ?_
  refine ei_iaload_n X dX10_leads_22 rfl (by first | omega | assumption) (by decide) ?_
  refine ei_table [(1, 52), (2, 73), (3, 103), (4, 105)] 124 X dX10_leads_23 (by decide) (by decide) (by decide) ⟨fun cq23 => ?_, fun cq23 => ?_, fun cq23 => ?_, fun cq23 => ?_, trivial⟩ (fun cq23 => ?_)
  · refine ei_iload_n X dX10_leads_52 rfl rfl ?_
    refine ei_ifz_eq (tgt := 71) X dX10_leads_53 (by decide) (fun cq53 => ?_) (fun cq53 => ?_)
    · refine ei_iconst (v := 0) X dX10_leads_71 rfl ?_
      refine ei_zreturn X F dX10_leads_72 (by decide) ?_
      exact ⟨by first | (simp_all [leadsF, e_tn, sN, sW, sE, sP, sH, sL, sD, sC, sO, sG, sR, bz_t, bz_f, divs]; done) | (rw [show leadsF (n, w, se, sp, hr, lt, hd, sc, so, fi, wo) b h = false from by simp only [leadsF, sN, sW, sE, sP, sH, sL, sD, sC, sO, sG, sR, cq23, cq74, divs, decide_eq_false cq88, decide_eq_false cq94]; rfl]; rfl), rfl⟩
    · refine ei_aload_n X dX10_leads_56 rfl rfl ?_
      refine ei_getf X fl_RX10_95 dX10_leads_57 rfl rfl ?_
      refine ei_iload_n X dX10_leads_60 rfl rfl ?_
      refine ei_callT1 X ml_RX10_91 dX10_leads_61 (ct_X10_hasBit _ _ _) rfl rfl (by decide) (by decide) (Nat.le_of_ble_eq_true rfl) ?_
      refine ei_ifz_eq (tgt := 71) X dX10_leads_64 (by decide) (fun cq64 => ?_) (fun cq64 => ?_)
      · refine ei_iconst (v := 0) X dX10_leads_71 rfl ?_
        refine ei_zreturn X F dX10_leads_72 (by decide) ?_
        exact ⟨by first | (simp_all [leadsF, e_tn, sN, sW, sE, sP, sH, sL, sD, sC, sO, sG, sR, bz_t, bz_f, divs]; done) | (rw [show leadsF (n, w, se, sp, hr, lt, hd, sc, so, fi, wo) b h = false from by simp only [leadsF, sN, sW, sE, sP, sH, sL, sD, sC, sO, sG, sR, cq23, cq74, divs, decide_eq_false cq88, decide_eq_false cq94]; rfl]; rfl), rfl⟩
      · refine ei_iconst (v := 1) X dX10_leads_67 rfl ?_
        refine ei_goto (tgt := 72) X dX10_leads_68 (by decide) ?_
        refine ei_zreturn X F dX10_leads_72 (by decide) ?_
        exact ⟨by first | (simp_all [leadsF, e_tn, sN, sW, sE, sP, sH, sL, sD, sC, sO, sG, sR, bz_t, bz_f, divs]; done) | (rw [show leadsF (n, w, se, sp, hr, lt, hd, sc, so, fi, wo) b h = false from by simp only [leadsF, sN, sW, sE, sP, sH, sL, sD, sC, sO, sG, sR, cq23, cq74, divs, decide_eq_false cq88, decide_eq_false cq94]; rfl]; rfl), rfl⟩
  · refine ei_iload_n X dX10_leads_73 rfl rfl ?_
    refine ei_ifz_eq (tgt := 101) X dX10_leads_74 (by decide) (fun cq74 => ?_) (fun cq74 => ?_)
    · refine ei_iconst (v := 0) X dX10_leads_101 rfl ?_
      refine ei_zreturn X F dX10_leads_102 (by decide) ?_
      exact ⟨by first | (simp_all [leadsF, e_tn, sN, sW, sE, sP, sH, sL, sD, sC, sO, sG, sR, bz_t, bz_f, divs]; done) | (rw [show leadsF (n, w, se, sp, hr, lt, hd, sc, so, fi, wo) b h = false from by simp only [leadsF, sN, sW, sE, sP, sH, sL, sD, sC, sO, sG, sR, cq23, cq74, divs, decide_eq_false cq88, decide_eq_false cq94]; rfl]; rfl), rfl⟩
    · refine ei_aload_n X dX10_leads_77 rfl rfl ?_
      refine ei_getf X fl_RX10_16 dX10_leads_78 rfl rfl ?_
      refine ei_iload_n X dX10_leads_81 rfl rfl ?_
      refine ei_iaload_n X dX10_leads_82 rfl (by first | omega | assumption) (by decide) ?_
      refine ei_bipush (v := 10) X dX10_leads_83 rfl ?_
      refine ei_iload X dX10_leads_85 rfl ?_
      refine ei_imul X dX10_leads_87 ?_
      refine ei_icmp_lt (tgt := 97) X dX10_leads_88 (by decide) (fun cq88 => ?_) (fun cq88 => ?_)
      · refine ei_iconst (v := 1) X dX10_leads_97 rfl ?_
        refine ei_goto (tgt := 102) X dX10_leads_98 (by decide) ?_
        refine ei_zreturn X F dX10_leads_102 (by decide) ?_
        exact ⟨by first | (simp_all [leadsF, e_tn, sN, sW, sE, sP, sH, sL, sD, sC, sO, sG, sR, bz_t, bz_f, divs]; done) | (rw [show leadsF (n, w, se, sp, hr, lt, hd, sc, so, fi, wo) b h = false from by simp only [leadsF, sN, sW, sE, sP, sH, sL, sD, sC, sO, sG, sR, cq23, cq74, divs, decide_eq_false cq88, decide_eq_false cq94]; rfl]; rfl), rfl⟩
      · refine ei_iload_n X dX10_leads_91 rfl rfl ?_
        refine ei_iconst (v := 2) X dX10_leads_92 rfl ?_
        refine ei_irem X dX10_leads_93 (by decide) ?_
        refine ei_if_ne (tgt := 101) X dX10_leads_94 (by decide) (fun cq94 => ?_) (fun cq94 => ?_)
        · refine ei_iconst (v := 0) X dX10_leads_101 rfl ?_
          refine ei_zreturn X F dX10_leads_102 (by decide) ?_
          exact ⟨by first | (simp_all [leadsF, e_tn, sN, sW, sE, sP, sH, sL, sD, sC, sO, sG, sR, bz_t, bz_f, divs]; done) | (rw [show leadsF (n, w, se, sp, hr, lt, hd, sc, so, fi, wo) b h = false from by simp only [leadsF, sN, sW, sE, sP, sH, sL, sD, sC, sO, sG, sR, cq23, cq74, divs, decide_eq_false cq88, decide_eq_false cq94]; rfl]; rfl), rfl⟩
        · refine ei_iconst (v := 1) X dX10_leads_97 rfl ?_
          refine ei_goto (tgt := 102) X dX10_leads_98 (by decide) ?_
          refine ei_zreturn X F dX10_leads_102 (by decide) ?_
          exact ⟨by first | (simp_all [leadsF, e_tn, sN, sW, sE, sP, sH, sL, sD, sC, sO, sG, sR, bz_t, bz_f, divs]; done) | (rw [show leadsF (n, w, se, sp, hr, lt, hd, sc, so, fi, wo) b h = false from by simp only [leadsF, sN, sW, sE, sP, sH, sL, sD, sC, sO, sG, sR, cq23, cq74, divs, decide_eq_false cq88, decide_eq_false cq94]; rfl]; rfl), rfl⟩
  · refine ei_iconst (v := 1) X dX10_leads_103 rfl ?_
    refine ei_zreturn X F dX10_leads_104 (by decide) ?_
    exact ⟨by first | (simp_all [leadsF, e_tn, sN, sW, sE, sP, sH, sL, sD, sC, sO, sG, sR, bz_t, bz_f, divs]; done) | (rw [show leadsF (n, w, se, sp, hr, lt, hd, sc, so, fi, wo) b h = false from by simp only [leadsF, sN, sW, sE, sP, sH, sL, sD, sC, sO, sG, sR, cq23, cq74, divs, decide_eq_false cq88, decide_eq_false cq94]; rfl]; rfl), rfl⟩
  · refine ei_iload_n X dX10_leads_105 rfl rfl ?_
    refine ei_ifz_eq (tgt := 122) X dX10_leads_106 (by decide) (fun cq106 => ?_) (fun cq106 => ?_)
    · refine ei_iconst (v := 0) X dX10_leads_122 rfl ?_
      refine ei_zreturn X F dX10_leads_123 (by decide) ?_
      exact ⟨by first | (simp_all [leadsF, e_tn, sN, sW, sE, sP, sH, sL, sD, sC, sO, sG, sR, bz_t, bz_f, divs]; done) | (rw [show leadsF (n, w, se, sp, hr, lt, hd, sc, so, fi, wo) b h = false from by simp only [leadsF, sN, sW, sE, sP, sH, sL, sD, sC, sO, sG, sR, cq23, cq74, divs, decide_eq_false cq88, decide_eq_false cq94]; rfl]; rfl), rfl⟩
    · refine ei_iload_n X dX10_leads_109 rfl rfl ?_
      refine ei_iload X dX10_leads_110 rfl ?_
      refine ei_iconst (v := 2) X dX10_leads_112 rfl ?_
      refine ei_iadd X dX10_leads_113 ?_
      refine ei_irem X dX10_leads_114 a2 ?_
      refine ei_if_eq (tgt := 122) X dX10_leads_115 (by decide) (fun cq115 => ?_) (fun cq115 => ?_)
      · refine ei_iconst (v := 0) X dX10_leads_122 rfl ?_
        refine ei_zreturn X F dX10_leads_123 (by decide) ?_
        exact ⟨by first | (simp_all [leadsF, e_tn, sN, sW, sE, sP, sH, sL, sD, sC, sO, sG, sR, bz_t, bz_f, divs]; done) | (rw [show leadsF (n, w, se, sp, hr, lt, hd, sc, so, fi, wo) b h = false from by simp only [leadsF, sN, sW, sE, sP, sH, sL, sD, sC, sO, sG, sR, cq23, cq74, divs, decide_eq_false cq88, decide_eq_false cq94]; rfl]; rfl), rfl⟩
      · refine ei_iconst (v := 1) X dX10_leads_118 rfl ?_
        refine ei_goto (tgt := 123) X dX10_leads_119 (by decide) ?_
        refine ei_zreturn X F dX10_leads_123 (by decide) ?_
        exact ⟨by first | (simp_all [leadsF, e_tn, sN, sW, sE, sP, sH, sL, sD, sC, sO, sG, sR, bz_t, bz_f, divs]; done) | (rw [show leadsF (n, w, se, sp, hr, lt, hd, sc, so, fi, wo) b h = false from by simp only [leadsF, sN, sW, sE, sP, sH, sL, sD, sC, sO, sG, sR, cq23, cq74, divs, decide_eq_false cq88, decide_eq_false cq94]; rfl]; rfl), rfl⟩
  · refine ei_iload_n X dX10_leads_124 rfl rfl ?_
    refine ei_zreturn X F dX10_leads_125 (bz_nar _) ?_
    exact ⟨by first | (simp_all [leadsF, e_tn, sN, sW, sE, sP, sH, sL, sD, sC, sO, sG, sR, bz_t, bz_f, divs]; done) | (rw [show leadsF (n, w, se, sp, hr, lt, hd, sc, so, fi, wo) b h = false from by simp only [leadsF, sN, sW, sE, sP, sH, sL, sD, sC, sO, sG, sR, cq23, cq74, divs, decide_eq_false cq88, decide_eq_false cq94]; rfl]; rfl), rfl⟩
set_option maxRecDepth 100000 in
set_option maxHeartbeats 4000000 in
theorem ct_X10_allLead (n : Nat) (w se sp hr lt hd sc : Int32) (so fi wo : Nat → Int32) (I : Nat → Int32) (A : Nat → Nat → Int32) (B : Nat → Nat → Int64) (K : Value) (i e : Nat) (h : Int32) (h_i : i ≤ 10) (h_e : e ≤ 10) (h_S : Good (n, w, se, sp, hr, lt, hd, sc, so, fi, wo)) : e_Ct yX10_allLead cX10_allLead 6 (some .boolean) 3 [.ref 0, .int (nI i), .int (nI e), .int h] (mH (n, w, se, sp, hr, lt, hd, sc, so, fi, wo) (I, A, B, K)) (e_eq (some (.int (bz (leadAll (n, w, se, sp, hr, lt, hd, sc, so, fi, wo) i e h)))) (mH (n, w, se, sp, hr, lt, hd, sc, so, fi, wo) (I, A, B, K))) := by
  refine e_open RX10 rfl (by decide +kernel) rfl (fun _ => Nat.le_of_ble_eq_true rfl) (fun x X F => ?_)
  have L : ∀ (k j : Nat) (a : Bool), e - j < k → j ≤ 10 → leadAll (n, w, se, sp, hr, lt, hd, sc, so, fi, wo) i e h = (a && leadAll (n, w, se, sp, hr, lt, hd, sc, so, fi, wo) j e h) → e_E x 6 [some (.ref 0), some (.int (nI i)), some (.int (nI e)), some (.int h), some (.int (bz a)), some (.int (nI j))] [] (mH (n, w, se, sp, hr, lt, hd, sc, so, fi, wo) (I, A, B, K)) := by
    intro k
    induction k with
    | zero => intro j a hk; exact absurd hk (Nat.not_lt_zero _)
    | succ k ih =>
      intro j a hk hj hv
      refine ei_iload X dX10_allLead_6 rfl ?_
      refine ei_iload_n X dX10_allLead_8 rfl rfl ?_
      refine ei_icmpn_ge (tgt := 40) X dX10_allLead_9 (by decide) (by first | omega | assumption) (by first | omega | assumption) (fun cq9 => ?_) (fun cq9 => ?_)
      · refine ei_iload X dX10_allLead_40 rfl ?_
        refine ei_zreturn X F dX10_allLead_42 (bz_nar _) ?_
        exact ⟨by rw [hv, leadAll_ge cq9, Bool.and_true], rfl⟩
      · refine ei_iload X dX10_allLead_12 rfl ?_
        refine ei_ifz_eq (tgt := 31) X dX10_allLead_14 (by decide) (fun cq14 => ?_) (fun cq14 => ?_)
        · refine ei_iconst (v := 0) X dX10_allLead_31 rfl ?_
          refine ei_istore X dX10_allLead_32 (Nat.le_of_ble_eq_true rfl) rfl ?_
          refine ei_iinc_n X dX10_allLead_34 rfl rfl ?_
          refine ei_goto (tgt := 6) X dX10_allLead_37 (by decide) ?_
          exact ih (j + 1) false (by omega) (by omega) (by rw [hv, cq14, Bool.false_and, Bool.false_and])
        · refine ei_aload_n X dX10_allLead_17 rfl rfl ?_
          refine ei_iload X dX10_allLead_18 rfl ?_
          refine ei_iload_n X dX10_allLead_20 rfl rfl ?_
          refine ei_callI1 X ml_RX10_102 dX10_allLead_21 (ct_X10_leads _ _ _ _ _ _ _ _ _ _ _ _ _ _ _ _ _ (by first | omega | assumption) (by first | omega | assumption)) rfl rfl (by decide) (by decide) rfl (Nat.le_of_ble_eq_true rfl) ?_
          refine ei_ifz_eq (tgt := 31) X dX10_allLead_24 (by decide) (fun cq24 => ?_) (fun cq24 => ?_)
          · refine ei_iconst (v := 0) X dX10_allLead_31 rfl ?_
            refine ei_istore X dX10_allLead_32 (Nat.le_of_ble_eq_true rfl) rfl ?_
            refine ei_iinc_n X dX10_allLead_34 rfl rfl ?_
            refine ei_goto (tgt := 6) X dX10_allLead_37 (by decide) ?_
            exact ih (j + 1) false (by omega) (by omega) (by rw [hv, leadAll_lt (by omega), cq24]; simp)
          · refine ei_iconst (v := 1) X dX10_allLead_27 rfl ?_
            refine ei_goto (tgt := 32) X dX10_allLead_28 (by decide) ?_
            refine ei_istore X dX10_allLead_32 (Nat.le_of_ble_eq_true rfl) rfl ?_
            refine ei_iinc_n X dX10_allLead_34 rfl rfl ?_
            refine ei_goto (tgt := 6) X dX10_allLead_37 (by decide) ?_
            exact ih (j + 1) true (by omega) (by omega) (by rw [hv, leadAll_lt (by omega), cq24, cq14]; simp)
  refine ei_iconst (v := 1) X dX10_allLead_0 rfl ?_
  refine ei_istore X dX10_allLead_1 (Nat.le_of_ble_eq_true rfl) rfl ?_
  refine ei_iload_n X dX10_allLead_3 rfl rfl ?_
  refine ei_istore X dX10_allLead_4 (Nat.le_of_ble_eq_true rfl) rfl ?_
  exact L (e - i + 1) i true (by omega) h_i rfl
set_option maxRecDepth 100000 in
set_option maxHeartbeats 4000000 in
theorem ct_X10_wholeOf (n : Nat) (w se sp hr lt hd sc : Int32) (so fi wo : Nat → Int32) (I : Nat → Int32) (A : Nat → Nat → Int32) (B : Nat → Nat → Int64) (K : Value) (i e : Nat) (h_i : i ≤ 10) (h_e : e ≤ 10) : e_Ct yX10_wholeOf cX10_wholeOf 5 (some .int) 2 [.ref 0, .int (nI i), .int (nI e)] (mH (n, w, se, sp, hr, lt, hd, sc, so, fi, wo) (I, A, B, K)) (e_eq (some (.int (wholeN w i e))) (mH (n, w, se, sp, hr, lt, hd, sc, so, fi, wo) (I, A, B, K))) := by
  refine e_open RX10 rfl (by decide +kernel) rfl (fun _ => Nat.le_of_ble_eq_true rfl) (fun x X F => ?_)
  have L : ∀ (k j : Nat) (a : Int32), e - j < k → j ≤ 10 → wholeN w i e = cntF (fun b => hasB w b) a j e → e_E x 5 [some (.ref 0), some (.int (nI i)), some (.int (nI e)), some (.int a), some (.int (nI j))] [] (mH (n, w, se, sp, hr, lt, hd, sc, so, fi, wo) (I, A, B, K)) := by
    intro k
    induction k with
    | zero => intro j a hk; exact absurd hk (Nat.not_lt_zero _)
    | succ k ih =>
      intro j a hk hj hv
      refine ei_iload X dX10_wholeOf_5 rfl ?_
      refine ei_iload_n X dX10_wholeOf_7 rfl rfl ?_
      refine ei_icmpn_ge (tgt := 37) X dX10_wholeOf_8 (by decide) (by first | omega | assumption) (by first | omega | assumption) (fun cq8 => ?_) (fun cq8 => ?_)
      · refine ei_iload_n X dX10_wholeOf_37 rfl rfl ?_
        refine ei_ireturn X F dX10_wholeOf_38 ?_
        exact ⟨by rw [hv, cntF_ge cq8], rfl⟩
      · refine ei_iload_n X dX10_wholeOf_11 rfl rfl ?_
        refine ei_aload_n X dX10_wholeOf_12 rfl rfl ?_
        refine ei_getf X fl_RX10_88 dX10_wholeOf_13 rfl rfl ?_
        refine ei_iload X dX10_wholeOf_16 rfl ?_
        refine ei_callT1 X ml_RX10_91 dX10_wholeOf_18 (ct_X10_hasBit _ _ _) rfl rfl (by decide) (by decide) (Nat.le_of_ble_eq_true rfl) ?_
        refine ei_ifz_eq (tgt := 28) X dX10_wholeOf_21 (by decide) (fun cq21 => ?_) (fun cq21 => ?_)
        · refine ei_iconst (v := 0) X dX10_wholeOf_28 rfl ?_
          refine ei_iadd X dX10_wholeOf_29 ?_
          try rw [Int32.add_zero]
          refine ei_istore_n X dX10_wholeOf_30 rfl (Nat.le_of_ble_eq_true rfl) rfl ?_
          refine ei_iinc_n X dX10_wholeOf_31 rfl rfl ?_
          refine ei_goto (tgt := 5) X dX10_wholeOf_34 (by decide) ?_
          exact ih (j + 1) _ (by omega) (by omega) (by rw [hv, cntF_lt (by omega), cq21]; rfl)
        · refine ei_iconst (v := 1) X dX10_wholeOf_24 rfl ?_
          refine ei_goto (tgt := 29) X dX10_wholeOf_25 (by decide) ?_
          refine ei_iadd X dX10_wholeOf_29 ?_
          try rw [Int32.add_zero]
          refine ei_istore_n X dX10_wholeOf_30 rfl (Nat.le_of_ble_eq_true rfl) rfl ?_
          refine ei_iinc_n X dX10_wholeOf_31 rfl rfl ?_
          refine ei_goto (tgt := 5) X dX10_wholeOf_34 (by decide) ?_
          exact ih (j + 1) _ (by omega) (by omega) (by rw [hv, cntF_lt (by omega), cq21]; rfl)
  refine ei_iconst (v := 0) X dX10_wholeOf_0 rfl ?_
  refine ei_istore_n X dX10_wholeOf_1 rfl (Nat.le_of_ble_eq_true rfl) rfl ?_
  refine ei_iload_n X dX10_wholeOf_2 rfl rfl ?_
  refine ei_istore X dX10_wholeOf_3 (Nat.le_of_ble_eq_true rfl) rfl ?_
  exact L (e - i + 1) i 0 (by omega) h_i rfl
set_option maxRecDepth 100000 in
set_option maxHeartbeats 4000000 in
theorem ct_X10_burns (n : Nat) (w se sp hr lt hd sc : Int32) (so fi wo : Nat → Int32) (I : Nat → Int32) (A : Nat → Nat → Int32) (B : Nat → Nat → Int64) (K : Value) (i e : Nat) (h_i : i ≤ 10) (h_e : e ≤ 10) (h_S : Good (n, w, se, sp, hr, lt, hd, sc, so, fi, wo)) (h_t : I 12 = 1 ∨ I 12 = 2) : e_Ct yX10_burns cX10_burns 6 (some .boolean) 4 [.ref 0, .int (nI i), .int (nI e)] (mH (n, w, se, sp, hr, lt, hd, sc, so, fi, wo) (I, A, B, K)) (e_eq (some (.int (bz (burnM (n, w, se, sp, hr, lt, hd, sc, so, fi, wo) i e)))) (mH (n, (burnQ (n, w, se, sp, hr, lt, hd, sc, so, fi, wo) i e (I 12)).1, se, sp, hr, lt, hd, sc, so, fi, (burnQ (n, w, se, sp, hr, lt, hd, sc, so, fi, wo) i e (I 12)).2) (burnI I (burnM (n, w, se, sp, hr, lt, hd, sc, so, fi, wo) i e) (wholeN w i e), A, B, K))) := by
  refine e_open RX10 rfl (by decide +kernel) rfl (fun _ => Nat.le_of_ble_eq_true rfl) (fun x X F => ?_)
  have e1 := volts_alt w (i := i) (I 12) h_e
  have e2 := volts_gd w (i := i) h_e h_t
  have L : burnM (n, w, se, sp, hr, lt, hd, sc, so, fi, wo) i e = true → ∀ (k j : Nat) (w2 : Int32) (r : Nat → Int32), e - j < k → j ≤ 10 → Gd1 w2 1023 → GdV r 999 → wearV (n, w, se, sp, hr, lt, hd, sc, so, fi, wo) i e (I 12) = itr (wear1 so fi (voltsF (wholeN w i e) (I 12))) (w2, r) j (e - j) → e_E x 59 [some (.ref 0), some (.int (nI i)), some (.int (nI e)), some (.int (wholeN w i e)), some (.int (voltsF (wholeN w i e) (I 12))), some (.int (nI j))] [] (mH (n, w2, se, sp, hr, lt, hd, sc, so, fi, r) (upd I 13 (I 13 + wholeN w i e), A, B, K)) := by
    intro hb k
    induction k with
    | zero => intro j w2 r hk; exact absurd hk (Nat.not_lt_zero _)
    | succ k ih =>
      intro j w2 r hk hj hw hr2 hv
      refine ei_iload X dX10_burns_59 rfl ?_
      refine ei_iload_n X dX10_burns_61 rfl rfl ?_
      refine ei_icmpn_ge (tgt := 148) X dX10_burns_62 (by decide) (by first | omega | assumption) (by first | omega | assumption) (fun cq62 => ?_) (fun cq62 => ?_)
      · refine ei_iconst (v := 1) X dX10_burns_148 rfl ?_
        refine ei_zreturn X F dX10_burns_149 (by decide) ?_
        exact ⟨by rw [hb]; rfl, by simp only [burnQ, burnI, hb, if_true, hv, itr_ge _ _ cq62]⟩
      · refine ei_aload_n X dX10_burns_65 rfl rfl ?_
        refine ei_getf X fl_RX10_88 dX10_burns_66 rfl rfl ?_
        refine ei_iload X dX10_burns_69 rfl ?_
        refine ei_callT1 X ml_RX10_91 dX10_burns_71 (ct_X10_hasBit _ _ _) rfl rfl (by decide) (by decide) (Nat.le_of_ble_eq_true rfl) ?_
        refine ei_ifz_eq (tgt := 142) X dX10_burns_74 (by decide) (fun cq74 => ?_) (fun cq74 => ?_)
        · refine ei_iinc_n X dX10_burns_142 rfl rfl ?_
          refine ei_goto (tgt := 59) X dX10_burns_145 (by decide) ?_
          exact ih (j + 1) w2 r (by omega) (by omega) hw hr2 (by rw [hv, itr_lt _ _ (by omega)]; congr 1; simp [wear1, cq74])
        · refine ei_aload_n X dX10_burns_77 rfl rfl ?_
          refine ei_getf X fl_RX10_16 dX10_burns_78 rfl rfl ?_
          refine ei_iload X dX10_burns_81 rfl ?_
          refine ei_aload_n X dX10_burns_83 rfl rfl ?_
          refine ei_getf X fl_RX10_16 dX10_burns_84 rfl rfl ?_
          refine ei_iload X dX10_burns_87 rfl ?_
          refine ei_iaload_n X dX10_burns_89 rfl (by first | omega | assumption) (by decide) ?_
          refine ei_aload_n X dX10_burns_90 rfl rfl ?_
          refine ei_iload X dX10_burns_91 rfl ?_
          refine ei_callI1 X ml_RX10_119 dX10_burns_93 (ct_X10_glowOf _ _ _ _ _ _ _ _ _ _ _ _ _ _ _ _ (by first | omega | assumption)) rfl rfl (by decide) (by decide) rfl (Nat.le_of_ble_eq_true rfl) ?_
          refine ei_iadd X dX10_burns_96 ?_
          refine ei_iload X dX10_burns_97 rfl ?_
          refine ei_iadd X dX10_burns_99 ?_
          refine ei_sipush (v := 999) X dX10_burns_100 rfl ?_
          refine ei_callT1 X ml_RX10_122 dX10_burns_103 (ct_X10_held _ _ _) rfl rfl (by decide) (by decide) (Nat.le_of_ble_eq_true rfl) ?_
          have h0 := wear_sum (hr2 j (by omega)) (glow_gd (so := so j) (h_S.2.2.1 j (by omega))) e2
          have h3 := min9_gd h0
          rw [show glowS (n, w2, se, sp, hr, lt, hd, sc, so, fi, r) j = glowF (so j) (fi j) from rfl, heldF_pos h0]
          refine ei_iastore_n X dX10_burns_106 rfl (by first | omega | assumption) (by decide) (pm_r3 _ _ _ _ _ _ _ _ _ _ _ _ _ _ _ _) ?_
          refine ei_aload_n X dX10_burns_107 rfl rfl ?_
          refine ei_dup X dX10_burns_108 rfl ?_
          refine ei_getf X fl_RX10_88 dX10_burns_109 rfl rfl ?_
          refine ei_aload_n X dX10_burns_112 rfl rfl ?_
          refine ei_getf X fl_RX10_16 dX10_burns_113 rfl rfl ?_
          refine ei_iload X dX10_burns_116 rfl ?_
          refine ei_iaload_n X dX10_burns_118 rfl (by first | omega | assumption) (by decide) ?_
          refine ei_aload_n X dX10_burns_119 rfl rfl ?_
          refine ei_iload X dX10_burns_120 rfl ?_
          refine ei_callI1 X ml_RX10_98 dX10_burns_122 (ct_X10_lifeOf _ _ _ _ _ _ _ _ _ _ _ _ _ _ _ _ (by omega) ⟨h_S.1, h_S.2.1, h_S.2.2.1, gdV_upd hr2 h3, h_S.2.2.2.2.1, h_S.2.2.2.2.2.1, h_S.2.2.2.2.2.2.1, h_S.2.2.2.2.2.2.2.1, hw, h_S.2.2.2.2.2.2.2.2.2⟩) rfl rfl (by decide) (by decide) rfl (Nat.le_of_ble_eq_true rfl) ?_
          rw [pk_us]
          refine ei_icmp_lt (tgt := 137) X dX10_burns_125 (by decide) (fun cq125 => ?_) (fun cq125 => ?_)
          · refine ei_iconst (v := -1) X dX10_burns_137 rfl ?_
            refine ei_iand X dX10_burns_138 ?_
            refine ei_puti X fp_RX10_88 dX10_burns_139 rfl (Nat.le_of_ble_eq_true rfl) (pm_4 _ _ _ _ _ _ _ _ _ _ _ _ _ _ _ _) ?_
            refine ei_iinc_n X dX10_burns_142 rfl rfl ?_
            refine ei_goto (tgt := 59) X dX10_burns_145 (by decide) ?_
            rw [and_m1]
            exact ih (j + 1) _ _ (by omega) (by omega) hw (gdV_upd hr2 h3) (by rw [hv, itr_lt _ _ (by omega)]; congr 1; have h1 : ¬ lifeF (so j) (fi j) ≤ min9 (r j + glowF (so j) (fi j) + voltsF (wholeN w i e) (I 12)) 999 := Int32.not_le.mpr cq125; simp only [wear1, cq74, if_true, if_neg h1])
          · refine ei_iconst (v := 1) X dX10_burns_128 rfl ?_
            refine ei_iload X dX10_burns_129 rfl ?_
            refine ei_ishl X dX10_burns_131 ?_
            refine ei_iconst (v := -1) X dX10_burns_132 rfl ?_
            refine ei_ixor X dX10_burns_133 ?_
            refine ei_goto (tgt := 138) X dX10_burns_134 (by decide) ?_
            refine ei_iand X dX10_burns_138 ?_
            refine ei_puti X fp_RX10_88 dX10_burns_139 rfl (Nat.le_of_ble_eq_true rfl) (pm_4 _ _ _ _ _ _ _ _ _ _ _ _ _ _ _ _) ?_
            refine ei_iinc_n X dX10_burns_142 rfl rfl ?_
            refine ei_goto (tgt := 59) X dX10_burns_145 (by decide) ?_
            rw [xor_and hw (by omega) cq74]
            exact ih (j + 1) _ _ (by omega) (by omega) (gd_xor hw (by omega)) (gdV_upd hr2 h3) (by rw [hv, itr_lt _ _ (by omega)]; congr 1; have h1 : lifeF (so j) (fi j) ≤ min9 (r j + glowF (so j) (fi j) + voltsF (wholeN w i e) (I 12)) 999 := Int32.not_lt.mp cq125; simp only [wear1, cq74, if_true, if_pos h1])
  have J : burnM (n, w, se, sp, hr, lt, hd, sc, so, fi, wo) i e = false → e_E x 18 [some (.ref 0), some (.int (nI i)), some (.int (nI e)), none, none, none] [] (mH (n, w, se, sp, hr, lt, hd, sc, so, fi, wo) (I, A, B, K)) := by
    intro hb
    refine ei_iconst (v := 0) X dX10_burns_18 rfl ?_
    refine ei_zreturn X F dX10_burns_19 (by decide) ?_
    exact ⟨by rw [hb]; rfl, by simp only [burnQ, burnI, hb, if_false, Bool.false_eq_true, sN, sW, sE, sP, sH, sL, sD, sC, sO, sG, sR]⟩
  refine ei_iload_n X dX10_burns_0 rfl rfl ?_
  refine ei_iload_n X dX10_burns_1 rfl rfl ?_
  refine ei_icmpn_eq (tgt := 18) X dX10_burns_2 (by decide) (by first | omega | assumption) (by first | omega | assumption) (fun cq2 => ?_) (fun cq2 => ?_)
  · exact J (by simp [burnM, cq2])
  · refine ei_aload_n X dX10_burns_5 rfl rfl ?_
    refine ei_iload_n X dX10_burns_6 rfl rfl ?_
    refine ei_iload_n X dX10_burns_7 rfl rfl ?_
    refine ei_aload_n X dX10_burns_8 rfl rfl ?_
    refine ei_getf X fl_RX10_105 dX10_burns_9 rfl rfl ?_
    refine ei_callI1 X ml_RX10_108 dX10_burns_12 (ct_X10_allLead _ _ _ _ _ _ _ _ _ _ _ _ _ _ _ _ _ _ (by first | omega | assumption) (by first | omega | assumption) (by first | omega | assumption)) rfl rfl (by decide) (by decide) rfl (Nat.le_of_ble_eq_true rfl) ?_
    refine ei_ifz_ne (tgt := 20) X dX10_burns_15 (by decide) (fun cq15 => ?_) (fun cq15 => ?_)
    · refine ei_aload_n X dX10_burns_20 rfl rfl ?_
      refine ei_iload_n X dX10_burns_21 rfl rfl ?_
      refine ei_iload_n X dX10_burns_22 rfl rfl ?_
      refine ei_callI1 X ml_RX10_112 dX10_burns_23 (ct_X10_wholeOf _ _ _ _ _ _ _ _ _ _ _ _ _ _ _ _ _ (by first | omega | assumption) (by first | omega | assumption)) rfl rfl (by decide) (by decide) rfl (Nat.le_of_ble_eq_true rfl) ?_
      refine ei_istore_n X dX10_burns_26 rfl (Nat.le_of_ble_eq_true rfl) rfl ?_
      refine ei_iload_n X dX10_burns_27 rfl rfl ?_
      refine ei_if_ne (tgt := 35) X dX10_burns_28 (by decide) (fun cq28 => ?_) (fun cq28 => ?_)
      · refine ei_aload_n X dX10_burns_35 rfl rfl ?_
        refine ei_getf X fl_RX10_23 dX10_burns_36 rfl rfl ?_
        refine ei_bipush (v := 60) X dX10_burns_39 rfl ?_
        refine ei_iload_n X dX10_burns_41 rfl rfl ?_
        refine ei_idiv X dX10_burns_42 cq28 ?_
        refine ei_imul X dX10_burns_43 ?_
        refine ei_istore X dX10_burns_44 (Nat.le_of_ble_eq_true rfl) rfl ?_
        refine ei_aload_n X dX10_burns_46 rfl rfl ?_
        refine ei_dup X dX10_burns_47 rfl ?_
        refine ei_getf X fl_RX10_116 dX10_burns_48 rfl rfl ?_
        refine ei_iload_n X dX10_burns_51 rfl rfl ?_
        refine ei_iadd X dX10_burns_52 ?_
        refine ei_puti X fp_RX10_116 dX10_burns_53 rfl (Nat.le_of_ble_eq_true rfl) (pm_13 _ _ _ _ _ _ _ _ _ _ _ _ _ _ _ _) ?_
        refine ei_iload_n X dX10_burns_56 rfl rfl ?_
        refine ei_istore X dX10_burns_57 (Nat.le_of_ble_eq_true rfl) rfl ?_
        rw [show I 12 * (60 / wholeN w i e) = voltsF (wholeN w i e) (I 12) from by rw [e1, if_neg cq28]]
        exact L (by simp [burnM, sN, sW, sE, sP, sH, sL, sD, sC, sO, sG, sR, cq2, cq15]) (e - i + 1) i w wo (by omega) h_i h_S.2.2.2.2.2.2.2.2.1 h_S.2.2.2.1 rfl
      · refine ei_iconst (v := 0) X dX10_burns_31 rfl ?_
        refine ei_goto (tgt := 44) X dX10_burns_32 (by decide) ?_
        refine ei_istore X dX10_burns_44 (Nat.le_of_ble_eq_true rfl) rfl ?_
        refine ei_aload_n X dX10_burns_46 rfl rfl ?_
        refine ei_dup X dX10_burns_47 rfl ?_
        refine ei_getf X fl_RX10_116 dX10_burns_48 rfl rfl ?_
        refine ei_iload_n X dX10_burns_51 rfl rfl ?_
        refine ei_iadd X dX10_burns_52 ?_
        refine ei_puti X fp_RX10_116 dX10_burns_53 rfl (Nat.le_of_ble_eq_true rfl) (pm_13 _ _ _ _ _ _ _ _ _ _ _ _ _ _ _ _) ?_
        refine ei_iload_n X dX10_burns_56 rfl rfl ?_
        refine ei_istore X dX10_burns_57 (Nat.le_of_ble_eq_true rfl) rfl ?_
        have L2 := L (by simp [burnM, sN, sW, sE, sP, sH, sL, sD, sC, sO, sG, sR, cq2, cq15]) (e - i + 1) i w wo (by omega) h_i h_S.2.2.2.2.2.2.2.2.1 h_S.2.2.2.1 rfl
        rw [show voltsF (wholeN w i e) (I 12) = 0 from by rw [e1, if_pos cq28]] at L2
        exact L2
    · exact J (by simp [burnM, sN, sW, sE, sP, sH, sL, sD, sC, sO, sG, sR, cq15])
set_option maxRecDepth 100000 in
set_option maxHeartbeats 4000000 in
theorem ct_X10_hourOn (n : Nat) (w se sp hr lt hd sc : Int32) (so fi wo : Nat → Int32) (I : Nat → Int32) (A : Nat → Nat → Int32) (B : Nat → Nat → Int64) (K : Value) (h_S : Good (n, w, se, sp, hr, lt, hd, sc, so, fi, wo)) (h_t : I 12 = 1 ∨ I 12 = 2) (h_c : I 11 = 0) : e_Ct yX10_hourOn cX10_hourOn 3 (some .boolean) 5 [.ref 0] (mH (n, w, se, sp, hr, lt, hd, sc, so, fi, wo) (I, A, B, K)) (e_eq (some (.int (bz (hourB (n, w, se, sp, hr, lt, hd, sc, so, fi, wo))))) (mH (n, (hourQ (n, w, se, sp, hr, lt, hd, sc, so, fi, wo) (I 12)).1, hourE (n, w, se, sp, hr, lt, hd, sc, so, fi, wo), sp, hr + 1, hourL (n, w, se, sp, hr, lt, hd, sc, so, fi, wo), hd, sc, so, fi, (hourQ (n, w, se, sp, hr, lt, hd, sc, so, fi, wo) (I 12)).2) (burnI I (hourB (n, w, se, sp, hr, lt, hd, sc, so, fi, wo)) (wholeN w 0 n), A, B, K))) := by
  refine e_open RX10 rfl (by decide +kernel) rfl (fun _ => Nat.le_of_ble_eq_true rfl) (fun x X F => ?_)
  have hn : n ≤ 10 := h_S.1
  have hB : burnM (n, w, se, sp, hr + 1, lt, hd, sc, so, fi, wo) 0 n = hourB (n, w, se, sp, hr, lt, hd, sc, so, fi, wo) := by
    unfold burnM hourB burnsF
    congr 1
    rw [decide_eq_decide]
    simp only [sN, sW, sE, sP, sH, sL, sD, sC, sO, sG, sR]
    omega
  have hQ : burnQ (n, w, se, sp, hr + 1, lt, hd, sc, so, fi, wo) 0 n (I 12) = hourQ (n, w, se, sp, hr, lt, hd, sc, so, fi, wo) (I 12) := by
    unfold burnQ hourQ
    rw [hB]
    rfl
  have hl := h_S.2.2.2.2.1
  have hl1 : (lt + 1).toInt = lt.toInt + 1 := i32_add (by have := hl.1; simp only [sN, sW, sE, sP, sH, sL, sD, sC, sO, sG, sR] at this; omega) (by have := hl.2; simp only [sN, sW, sE, sP, sH, sL, sD, sC, sO, sG, sR] at this; omega) (by decide) (by decide)
  have L : ∀ (b : Bool) (lt2 : Int32) (q : WR) (J : Nat → Int32) (k j : Nat) (se2 : Int32), n - j < k → j ≤ 10 → hourE (n, w, se, sp, hr, lt, hd, sc, so, fi, wo) = itr (unseat1 so fi (hr + 1)) se2 j (n - j) → b = hourB (n, w, se, sp, hr, lt, hd, sc, so, fi, wo) → lt2 = hourL (n, w, se, sp, hr, lt, hd, sc, so, fi, wo) → q = hourQ (n, w, se, sp, hr, lt, hd, sc, so, fi, wo) (I 12) → J = burnI I (hourB (n, w, se, sp, hr, lt, hd, sc, so, fi, wo)) (wholeN w 0 n) → e_E x 91 [some (.ref 0), some (.int (bz b)), some (.int (nI j))] [] (mH (n, q.1, se2, sp, hr + 1, lt2, hd, sc, so, fi, q.2) (J, A, B, K)) := by
    intro b lt2 q J k
    induction k with
    | zero => intro j se2 hk; exact absurd hk (Nat.not_lt_zero _)
    | succ k ih =>
      intro j se2 hk hj hv hb hlt hq hJ
      obtain ⟨a1, a2, a3, a4⟩ := fig_pos (h_S.2.2.1 (min j 9) (by omega))
      refine ei_iload_n X dX10_hourOn_91 rfl rfl ?_
      refine ei_aload_n X dX10_hourOn_92 rfl rfl ?_
      refine ei_getf X fl_RX10_81 dX10_hourOn_93 rfl rfl ?_
      refine ei_icmpn_ge (tgt := 149) X dX10_hourOn_96 (by decide) (by first | omega | assumption) (by first | omega | assumption) (fun cq96 => ?_) (fun cq96 => ?_)
      · refine ei_iload_n X dX10_hourOn_149 rfl rfl ?_
        refine ei_zreturn X F dX10_hourOn_150 (bz_nar _) ?_
        exact ⟨by rw [hb], by rw [hv, itr_ge _ _ cq96, hlt, hq, hJ]⟩
      · refine ei_aload_n X dX10_hourOn_99 rfl rfl ?_
        refine ei_dup X dX10_hourOn_100 rfl ?_
        refine ei_getf X fl_RX10_95 dX10_hourOn_101 rfl rfl ?_
        refine ei_aload_n X dX10_hourOn_104 rfl rfl ?_
        refine ei_getf X fl_RX10_7 dX10_hourOn_105 rfl rfl ?_
        refine ei_iload_n X dX10_hourOn_108 rfl rfl ?_
        refine ei_iaload_n X dX10_hourOn_109 rfl (by first | omega | assumption) (by decide) ?_
        refine ei_iconst (v := 1) X dX10_hourOn_110 rfl ?_
        refine ei_icmp_ne (tgt := 138) X dX10_hourOn_111 (by decide) (fun cq111 => ?_) (fun cq111 => ?_)
        · refine ei_iconst (v := -1) X dX10_hourOn_138 rfl ?_
          refine ei_iand X dX10_hourOn_139 ?_
          refine ei_puti X fp_RX10_95 dX10_hourOn_140 rfl (Nat.le_of_ble_eq_true rfl) (pm_5 _ _ _ _ _ _ _ _ _ _ _ _ _ _ _ _) ?_
          refine ei_iinc_n X dX10_hourOn_143 rfl rfl ?_
          refine ei_goto (tgt := 91) X dX10_hourOn_146 (by decide) ?_
          rw [and_m1]
          exact ih (j + 1) _ (by omega) (by omega) (by rw [hv, itr_lt _ _ (by omega)]; congr 1; simp [unseat1, cq111]) hb hlt hq hJ
        · refine ei_aload_n X dX10_hourOn_114 rfl rfl ?_
          refine ei_getf X fl_RX10_105 dX10_hourOn_115 rfl rfl ?_
          refine ei_aload_n X dX10_hourOn_118 rfl rfl ?_
          refine ei_getf X fl_RX10_13 dX10_hourOn_119 rfl rfl ?_
          refine ei_iload_n X dX10_hourOn_122 rfl rfl ?_
          refine ei_iaload_n X dX10_hourOn_123 rfl (by first | omega | assumption) (by decide) ?_
          refine ei_iconst (v := 3) X dX10_hourOn_124 rfl ?_
          refine ei_iadd X dX10_hourOn_125 ?_
          refine ei_irem X dX10_hourOn_126 (by rw [show min j 9 = j by omega] at a4; exact a4) ?_
          refine ei_if_ne (tgt := 138) X dX10_hourOn_127 (by decide) (fun cq127 => ?_) (fun cq127 => ?_)
          · refine ei_iconst (v := -1) X dX10_hourOn_138 rfl ?_
            refine ei_iand X dX10_hourOn_139 ?_
            refine ei_puti X fp_RX10_95 dX10_hourOn_140 rfl (Nat.le_of_ble_eq_true rfl) (pm_5 _ _ _ _ _ _ _ _ _ _ _ _ _ _ _ _) ?_
            refine ei_iinc_n X dX10_hourOn_143 rfl rfl ?_
            refine ei_goto (tgt := 91) X dX10_hourOn_146 (by decide) ?_
            rw [and_m1]
            exact ih (j + 1) _ (by omega) (by omega) (by rw [hv, itr_lt _ _ (by omega)]; congr 1; simp [unseat1, divs, cq111, cq127]) hb hlt hq hJ
          · refine ei_iconst (v := 1) X dX10_hourOn_130 rfl ?_
            refine ei_iload_n X dX10_hourOn_131 rfl rfl ?_
            refine ei_ishl X dX10_hourOn_132 ?_
            refine ei_iconst (v := -1) X dX10_hourOn_133 rfl ?_
            refine ei_ixor X dX10_hourOn_134 ?_
            refine ei_goto (tgt := 139) X dX10_hourOn_135 (by decide) ?_
            refine ei_iand X dX10_hourOn_139 ?_
            refine ei_puti X fp_RX10_95 dX10_hourOn_140 rfl (Nat.le_of_ble_eq_true rfl) (pm_5 _ _ _ _ _ _ _ _ _ _ _ _ _ _ _ _) ?_
            refine ei_iinc_n X dX10_hourOn_143 rfl rfl ?_
            refine ei_goto (tgt := 91) X dX10_hourOn_146 (by decide) ?_
            exact ih (j + 1) _ (by omega) (by omega) (by rw [hv, itr_lt _ _ (by omega)]; congr 1; rw [show min j 9 = j by omega] at a3; simp only [sN, sW, sE, sP, sH, sL, sD, sC, sO, sG, sR] at a3; simp [unseat1, divs, cq111, cq127, a3]) hb hlt hq hJ
  refine ei_aload_n X dX10_hourOn_0 rfl rfl ?_
  refine ei_dup X dX10_hourOn_1 rfl ?_
  refine ei_getf X fl_RX10_105 dX10_hourOn_2 rfl rfl ?_
  refine ei_iconst (v := 1) X dX10_hourOn_5 rfl ?_
  refine ei_iadd X dX10_hourOn_6 ?_
  refine ei_puti X fp_RX10_105 dX10_hourOn_7 rfl (Nat.le_of_ble_eq_true rfl) (pm_7 _ _ _ _ _ _ _ _ _ _ _ _ _ _ _ _) ?_
  refine ei_aload_n X dX10_hourOn_10 rfl rfl ?_
  refine ei_getf X fl_RX10_125 dX10_hourOn_11 rfl rfl ?_
  refine ei_if_ne (tgt := 54) X dX10_hourOn_14 (by decide) (fun cq14 => ?_) (fun cq14 => ?_)
  · exact absurd h_c cq14
  · refine ei_aload_n X dX10_hourOn_17 rfl rfl ?_
    refine ei_iconst (v := 0) X dX10_hourOn_18 rfl ?_
    refine ei_aload_n X dX10_hourOn_19 rfl rfl ?_
    refine ei_getf X fl_RX10_81 dX10_hourOn_20 rfl rfl ?_
    refine ei_callI1 X ml_RX10_128 dX10_hourOn_23 (ct_X10_burns _ _ _ _ _ _ _ _ _ _ _ _ _ _ _ 0 _ (by omega) (by omega) (h_S : Good (n, w, se, sp, hr + 1, lt, hd, sc, so, fi, wo)) h_t) rfl rfl (by decide) (by decide) rfl (Nat.le_of_ble_eq_true rfl) ?_
    rw [hB, hQ]
    refine ei_istore_n X dX10_hourOn_26 rfl (Nat.le_of_ble_eq_true rfl) rfl ?_
    refine ei_aload_n X dX10_hourOn_27 rfl rfl ?_
    refine ei_aload_n X dX10_hourOn_28 rfl rfl ?_
    refine ei_getf X fl_RX10_131 dX10_hourOn_29 rfl rfl ?_
    refine ei_iload_n X dX10_hourOn_32 rfl rfl ?_
    refine ei_ifz_eq (tgt := 40) X dX10_hourOn_33 (by decide) (fun cq33 => ?_) (fun cq33 => ?_)
    · refine ei_iconst (v := 0) X dX10_hourOn_40 rfl ?_
      refine ei_iadd X dX10_hourOn_41 ?_
      refine ei_sipush (v := 999) X dX10_hourOn_42 rfl ?_
      refine ei_callT1 X ml_RX10_122 dX10_hourOn_45 (ct_X10_held _ _ _) rfl rfl (by decide) (by decide) (Nat.le_of_ble_eq_true rfl) ?_
      refine ei_puti X fp_RX10_131 dX10_hourOn_48 rfl (Nat.le_of_ble_eq_true rfl) (pm_8 _ _ _ _ _ _ _ _ _ _ _ _ _ _ _ _) ?_
      refine ei_goto (tgt := 89) X dX10_hourOn_51 (by decide) ?_
      refine ei_iconst (v := 0) X dX10_hourOn_89 rfl ?_
      refine ei_istore_n X dX10_hourOn_90 rfl (Nat.le_of_ble_eq_true rfl) rfl ?_
      exact L _ _ _ _ (n + 1) 0 se (by omega) (by omega) rfl rfl (by rw [Int32.add_zero, heldF_pos hl.1]; simp only [hourL, cq33, if_false, Bool.false_eq_true, min9, sN, sW, sE, sP, sH, sL, sD, sC, sO, sG, sR]; rw [if_neg]; rw [Int32.lt_iff_toInt_lt, show (999 : Int32).toInt = 999 from rfl]; have := hl.2; simp only [sN, sW, sE, sP, sH, sL, sD, sC, sO, sG, sR] at this; omega) rfl rfl
    · refine ei_iconst (v := 1) X dX10_hourOn_36 rfl ?_
      refine ei_goto (tgt := 41) X dX10_hourOn_37 (by decide) ?_
      refine ei_iadd X dX10_hourOn_41 ?_
      refine ei_sipush (v := 999) X dX10_hourOn_42 rfl ?_
      refine ei_callT1 X ml_RX10_122 dX10_hourOn_45 (ct_X10_held _ _ _) rfl rfl (by decide) (by decide) (Nat.le_of_ble_eq_true rfl) ?_
      refine ei_puti X fp_RX10_131 dX10_hourOn_48 rfl (Nat.le_of_ble_eq_true rfl) (pm_8 _ _ _ _ _ _ _ _ _ _ _ _ _ _ _ _) ?_
      refine ei_goto (tgt := 89) X dX10_hourOn_51 (by decide) ?_
      refine ei_iconst (v := 0) X dX10_hourOn_89 rfl ?_
      refine ei_istore_n X dX10_hourOn_90 rfl (Nat.le_of_ble_eq_true rfl) rfl ?_
      exact L _ _ _ _ (n + 1) 0 se (by omega) (by omega) rfl rfl (by rw [heldF_pos (by have := hl.1; simp only [sN, sW, sE, sP, sH, sL, sD, sC, sO, sG, sR] at this; omega)]; simp only [hourL, cq33, if_true, sN, sW, sE, sP, sH, sL, sD, sC, sO, sG, sR]) rfl rfl

