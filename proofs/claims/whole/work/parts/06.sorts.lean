set_option maxRecDepth 100000 in
set_option maxHeartbeats 4000000 in
theorem ct_X5_life (h : List eC) (so fi : Int32) : e_Ct yX5_life cX5_life 4 (some .int) 1 [.int so, .int fi] h (e_eq (some (.int (lifeF so fi))) h) := by
  refine e_open RX5 rfl (by decide +kernel) rfl (fun _ => Nat.le_of_ble_eq_true rfl) (fun x X F => ?_)
  refine ei_bipush (v := 60) X dX5_life_0 rfl ?_
  refine ei_bipush (v := 10) X dX5_life_2 rfl ?_
  refine ei_iload_n X dX5_life_4 rfl rfl ?_
  refine ei_imul X dX5_life_5 ?_
  refine ei_iadd X dX5_life_6 ?_
  refine ei_istore_n X dX5_life_7 rfl (Nat.le_of_ble_eq_true rfl) rfl ?_
  refine ei_iload_n X dX5_life_8 rfl rfl ?_
  refine ei_bipush (v := 20) X dX5_life_9 rfl ?_
  refine ei_isub X dX5_life_11 ?_
  refine ei_istore_n X dX5_life_12 rfl (Nat.le_of_ble_eq_true rfl) rfl ?_
  refine ei_iload_n X dX5_life_13 rfl rfl ?_
  refine ei_table [(2, 52), (3, 66), (4, 66), (5, 56), (6, 58), (7, 62)] 66 X dX5_life_14 (by decide) (by decide) (by decide) ⟨fun cq14 => ?_, fun cq14 => ?_, fun cq14 => ?_, fun cq14 => ?_, fun cq14 => ?_, fun cq14 => ?_, trivial⟩ (fun cq14 => ?_)
  · refine ei_iload_n X dX5_life_52 rfl rfl ?_
    refine ei_iconst (v := 2) X dX5_life_53 rfl ?_
    refine ei_idiv X dX5_life_54 (by decide) ?_
    refine ei_ireturn X F dX5_life_55 ?_
    exact ⟨by simp_all [lifeF, e_tn], rfl⟩
  · refine ei_iload_n X dX5_life_66 rfl rfl ?_
    refine ei_ireturn X F dX5_life_67 ?_
    exact ⟨by simp_all [lifeF, e_tn], rfl⟩
  · refine ei_iload_n X dX5_life_66 rfl rfl ?_
    refine ei_ireturn X F dX5_life_67 ?_
    exact ⟨by simp_all [lifeF, e_tn], rfl⟩
  · refine ei_iload_n X dX5_life_56 rfl rfl ?_
    refine ei_ireturn X F dX5_life_57 ?_
    exact ⟨by simp_all [lifeF, e_tn], rfl⟩
  · refine ei_sipush (v := 150) X dX5_life_58 rfl ?_
    refine ei_ireturn X F dX5_life_61 ?_
    exact ⟨by simp_all [lifeF, e_tn], rfl⟩
  · refine ei_iconst (v := 2) X dX5_life_62 rfl ?_
    refine ei_iload_n X dX5_life_63 rfl rfl ?_
    refine ei_imul X dX5_life_64 ?_
    refine ei_ireturn X F dX5_life_65 ?_
    exact ⟨by simp_all [lifeF, e_tn], rfl⟩
  · refine ei_iload_n X dX5_life_66 rfl rfl ?_
    refine ei_ireturn X F dX5_life_67 ?_
    exact ⟨by simp_all [lifeF, e_tn], rfl⟩
set_option maxRecDepth 100000 in
set_option maxHeartbeats 4000000 in
theorem ct_X5_glow (h : List eC) (so fi : Int32) : e_Ct yX5_glow cX5_glow 4 (some .int) 1 [.int so, .int fi] h (e_eq (some (.int (glowF so fi))) h) := by
  refine e_open RX5 rfl (by decide +kernel) rfl (fun _ => Nat.le_of_ble_eq_true rfl) (fun x X F => ?_)
  refine ei_iconst (v := 4) X dX5_glow_0 rfl ?_
  refine ei_istore_n X dX5_glow_1 rfl (Nat.le_of_ble_eq_true rfl) rfl ?_
  refine ei_iload_n X dX5_glow_2 rfl rfl ?_
  refine ei_iconst (v := 1) X dX5_glow_3 rfl ?_
  refine ei_isub X dX5_glow_4 ?_
  refine ei_istore_n X dX5_glow_5 rfl (Nat.le_of_ble_eq_true rfl) rfl ?_
  refine ei_iload_n X dX5_glow_6 rfl rfl ?_
  refine ei_table [(2, 44), (3, 46), (4, 60), (5, 48), (6, 50), (7, 56)] 60 X dX5_glow_7 (by decide) (by decide) (by decide) ⟨fun cq7 => ?_, fun cq7 => ?_, fun cq7 => ?_, fun cq7 => ?_, fun cq7 => ?_, fun cq7 => ?_, trivial⟩ (fun cq7 => ?_)
  · refine ei_iconst (v := 1) X dX5_glow_44 rfl ?_
    refine ei_ireturn X F dX5_glow_45 ?_
    exact ⟨by simp_all [glowF, e_tn], rfl⟩
  · refine ei_iconst (v := 0) X dX5_glow_46 rfl ?_
    refine ei_ireturn X F dX5_glow_47 ?_
    exact ⟨by simp_all [glowF, e_tn], rfl⟩
  · refine ei_iload_n X dX5_glow_60 rfl rfl ?_
    refine ei_ireturn X F dX5_glow_61 ?_
    exact ⟨by simp_all [glowF, e_tn], rfl⟩
  · refine ei_iload_n X dX5_glow_48 rfl rfl ?_
    refine ei_ireturn X F dX5_glow_49 ?_
    exact ⟨by simp_all [glowF, e_tn], rfl⟩
  · refine ei_iload_n X dX5_glow_50 rfl rfl ?_
    refine ei_iload_n X dX5_glow_51 rfl rfl ?_
    refine ei_iconst (v := 2) X dX5_glow_52 rfl ?_
    refine ei_idiv X dX5_glow_53 (by decide) ?_
    refine ei_iadd X dX5_glow_54 ?_
    refine ei_ireturn X F dX5_glow_55 ?_
    exact ⟨by simp_all [glowF, e_tn], rfl⟩
  · refine ei_iload_n X dX5_glow_56 rfl rfl ?_
    refine ei_iconst (v := 2) X dX5_glow_57 rfl ?_
    refine ei_iadd X dX5_glow_58 ?_
    refine ei_ireturn X F dX5_glow_59 ?_
    exact ⟨by simp_all [glowF, e_tn], rfl⟩
  · refine ei_iload_n X dX5_glow_60 rfl rfl ?_
    refine ei_ireturn X F dX5_glow_61 ?_
    exact ⟨by simp_all [glowF, e_tn], rfl⟩
set_option maxRecDepth 100000 in
set_option maxHeartbeats 4000000 in
theorem ct_X5_price (h : List eC) (so fi : Int32) : e_Ct yX5_price cX5_price 3 (some .int) 1 [.int so, .int fi] h (e_eq (some (.int (priceF so fi))) h) := by
  refine e_open RX5 rfl (by decide +kernel) rfl (fun _ => Nat.le_of_ble_eq_true rfl) (fun x X F => ?_)
  refine ei_iconst (v := 2) X dX5_price_0 rfl ?_
  refine ei_iload_n X dX5_price_1 rfl rfl ?_
  refine ei_imul X dX5_price_2 ?_
  refine ei_istore_n X dX5_price_3 rfl (Nat.le_of_ble_eq_true rfl) rfl ?_
  refine ei_iload_n X dX5_price_4 rfl rfl ?_
  refine ei_table [(1, 48), (2, 50), (3, 54), (4, 56), (5, 59), (6, 61), (7, 63)] 67 X dX5_price_5 (by decide) (by decide) (by decide) ⟨fun cq5 => ?_, fun cq5 => ?_, fun cq5 => ?_, fun cq5 => ?_, fun cq5 => ?_, fun cq5 => ?_, fun cq5 => ?_, trivial⟩ (fun cq5 => ?_)
  · refine ei_iconst (v := 1) X dX5_price_48 rfl ?_
    refine ei_ireturn X F dX5_price_49 ?_
    exact ⟨by simp_all [priceF, e_tn], rfl⟩
  · refine ei_iload_n X dX5_price_50 rfl rfl ?_
    refine ei_iconst (v := 2) X dX5_price_51 rfl ?_
    refine ei_iadd X dX5_price_52 ?_
    refine ei_ireturn X F dX5_price_53 ?_
    exact ⟨by simp_all [priceF, e_tn], rfl⟩
  · refine ei_iconst (v := 0) X dX5_price_54 rfl ?_
    refine ei_ireturn X F dX5_price_55 ?_
    exact ⟨by simp_all [priceF, e_tn], rfl⟩
  · refine ei_bipush (v := 7) X dX5_price_56 rfl ?_
    refine ei_ireturn X F dX5_price_58 ?_
    exact ⟨by simp_all [priceF, e_tn], rfl⟩
  · refine ei_iload_n X dX5_price_59 rfl rfl ?_
    refine ei_ireturn X F dX5_price_60 ?_
    exact ⟨by simp_all [priceF, e_tn], rfl⟩
  · refine ei_iconst (v := 3) X dX5_price_61 rfl ?_
    refine ei_ireturn X F dX5_price_62 ?_
    exact ⟨by simp_all [priceF, e_tn], rfl⟩
  · refine ei_iload_n X dX5_price_63 rfl rfl ?_
    refine ei_iconst (v := 1) X dX5_price_64 rfl ?_
    refine ei_iadd X dX5_price_65 ?_
    refine ei_ireturn X F dX5_price_66 ?_
    exact ⟨by simp_all [priceF, e_tn], rfl⟩
  · refine ei_iload_n X dX5_price_67 rfl rfl ?_
    refine ei_ireturn X F dX5_price_68 ?_
    exact ⟨by simp_all [priceF, e_tn], rfl⟩
set_option maxRecDepth 100000 in
set_option maxHeartbeats 4000000 in
theorem ct_X5_failure (h : List eC) (so fi : Int32) : e_Ct yX5_failure cX5_failure 2 (some .int) 2 [.int so, .int fi] h (e_eq (some (.int (failF so fi))) h) := by
  refine e_open RX5 rfl (by decide +kernel) rfl (fun _ => Nat.le_of_ble_eq_true rfl) (fun x X F => ?_)
  refine ei_iload_n X dX5_failure_0 rfl rfl ?_
  refine ei_if_ne (tgt := 7) X dX5_failure_1 (by decide) (fun cq1 => ?_) (fun cq1 => ?_)
  · refine ei_iload_n X dX5_failure_7 rfl rfl ?_
    refine ei_table [(2, 48), (3, 48), (4, 51), (5, 56), (6, 48), (7, 56)] 66 X dX5_failure_8 (by decide) (by decide) (by decide) ⟨fun cq8 => ?_, fun cq8 => ?_, fun cq8 => ?_, fun cq8 => ?_, fun cq8 => ?_, fun cq8 => ?_, trivial⟩ (fun cq8 => ?_)
    · refine ei_bipush (v := -15) X dX5_failure_48 rfl ?_
      refine ei_ireturn X F dX5_failure_50 ?_
      exact ⟨by simp_all [failF, e_tn], rfl⟩
    · refine ei_bipush (v := -15) X dX5_failure_48 rfl ?_
      refine ei_ireturn X F dX5_failure_50 ?_
      exact ⟨by simp_all [failF, e_tn], rfl⟩
    · refine ei_bipush (v := 100) X dX5_failure_51 rfl ?_
      refine ei_iload_n X dX5_failure_53 rfl rfl ?_
      refine ei_iadd X dX5_failure_54 ?_
      refine ei_ireturn X F dX5_failure_55 ?_
      exact ⟨by simp_all [failF, e_tn], rfl⟩
    · refine ei_sipush (v := 200) X dX5_failure_56 rfl ?_
      refine ei_iload_n X dX5_failure_59 rfl rfl ?_
      refine ei_iload_n X dX5_failure_60 rfl rfl ?_
      refine ei_callT1 X ml_RX5_9 dX5_failure_61 (ct_X5_price _ _ _) rfl rfl (by decide) (by decide) (Nat.le_of_ble_eq_true rfl) ?_
      refine ei_iadd X dX5_failure_64 ?_
      refine ei_ireturn X F dX5_failure_65 ?_
      exact ⟨by simp_all [failF, e_tn], rfl⟩
    · refine ei_bipush (v := -15) X dX5_failure_48 rfl ?_
      refine ei_ireturn X F dX5_failure_50 ?_
      exact ⟨by simp_all [failF, e_tn], rfl⟩
    · refine ei_sipush (v := 200) X dX5_failure_56 rfl ?_
      refine ei_iload_n X dX5_failure_59 rfl rfl ?_
      refine ei_iload_n X dX5_failure_60 rfl rfl ?_
      refine ei_callT1 X ml_RX5_9 dX5_failure_61 (ct_X5_price _ _ _) rfl rfl (by decide) (by decide) (Nat.le_of_ble_eq_true rfl) ?_
      refine ei_iadd X dX5_failure_64 ?_
      refine ei_ireturn X F dX5_failure_65 ?_
      exact ⟨by simp_all [failF, e_tn], rfl⟩
    · refine ei_iload_n X dX5_failure_66 rfl rfl ?_
      refine ei_ireturn X F dX5_failure_67 ?_
      exact ⟨by simp_all [failF, e_tn], rfl⟩
  · refine ei_bipush (v := -15) X dX5_failure_4 rfl ?_
    refine ei_ireturn X F dX5_failure_6 ?_
    exact ⟨by simp_all [failF, e_tn], rfl⟩
set_option maxRecDepth 100000 in
set_option maxHeartbeats 4000000 in
theorem ct_X2_has (n : Nat) (w se sp hr lt hd sc : Int32) (so fi wo : Nat → Int32) (b : Int32) : e_Ct yX2_has cX2_has 2 (some .boolean) 1 [.ref 0, .int b] (lH (n, w, se, sp, hr, lt, hd, sc, so, fi, wo)) (e_eq (some (.int (bz (hasF n b)))) (lH (n, w, se, sp, hr, lt, hd, sc, so, fi, wo))) := by
  refine e_open RX2 rfl (by decide +kernel) rfl (fun _ => Nat.le_of_ble_eq_true rfl) (fun x X F => ?_)
  refine ei_iload_n X dX2_has_0 rfl rfl ?_
  refine ei_if_lt (tgt := 16) X dX2_has_1 (by decide) (fun cq1 => ?_) (fun cq1 => ?_)
  · refine ei_iconst (v := 0) X dX2_has_16 rfl ?_
    refine ei_zreturn X F dX2_has_17 (by decide) ?_
    exact ⟨by first | (simp_all [bz, hasF, Int32.not_le, Int32.not_lt]; done) | (rw [show hasF n b = false from by unfold hasF; rw [decide_eq_false (Int32.not_le.mpr cq1)]; rfl]; rfl), rfl⟩
  · refine ei_iload_n X dX2_has_4 rfl rfl ?_
    refine ei_aload_n X dX2_has_5 rfl rfl ?_
    refine ei_getf X fl_RX2_31 dX2_has_6 rfl rfl ?_
    refine ei_icmp_ge (tgt := 16) X dX2_has_9 (by decide) (fun cq9 => ?_) (fun cq9 => ?_)
    · refine ei_iconst (v := 0) X dX2_has_16 rfl ?_
      refine ei_zreturn X F dX2_has_17 (by decide) ?_
      exact ⟨by first | (simp_all [bz, hasF, Int32.not_le, Int32.not_lt]; done) | (rw [show hasF n b = false from by unfold hasF; rw [decide_eq_false (Int32.not_le.mpr cq1)]; rfl]; rfl), rfl⟩
    · refine ei_iconst (v := 1) X dX2_has_12 rfl ?_
      refine ei_goto (tgt := 17) X dX2_has_13 (by decide) ?_
      refine ei_zreturn X F dX2_has_17 (by decide) ?_
      exact ⟨by first | (simp_all [bz, hasF, Int32.not_le, Int32.not_lt]; done) | (rw [show hasF n b = false from by unfold hasF; rw [decide_eq_false (Int32.not_le.mpr cq1)]; rfl]; rfl), rfl⟩
set_option maxRecDepth 100000 in
set_option maxHeartbeats 4000000 in
theorem ct_X2_isFull (n : Nat) (w se sp hr lt hd sc : Int32) (so fi wo : Nat → Int32) (h_n : n ≤ 10) : e_Ct yX2_isFull cX2_isFull 1 (some .boolean) 1 [.ref 0] (lH (n, w, se, sp, hr, lt, hd, sc, so, fi, wo)) (e_eq (some (.int (bz (decide (10 ≤ n))))) (lH (n, w, se, sp, hr, lt, hd, sc, so, fi, wo))) := by
  refine e_open RX2 rfl (by decide +kernel) rfl (fun _ => Nat.le_of_ble_eq_true rfl) (fun x X F => ?_)
  refine ei_aload_n X dX2_isFull_0 rfl rfl ?_
  refine ei_getf X fl_RX2_31 dX2_isFull_1 rfl rfl ?_
  refine ei_bipush (v := nI 10) X dX2_isFull_4 rfl ?_
  refine ei_icmpn_lt (tgt := 13) X dX2_isFull_6 (by decide) (by first | omega | assumption) (by first | omega | assumption) (fun cq6 => ?_) (fun cq6 => ?_)
  · refine ei_iconst (v := 0) X dX2_isFull_13 rfl ?_
    refine ei_zreturn X F dX2_isFull_14 (by decide) ?_
    exact ⟨by simp_all [bz], rfl⟩
  · refine ei_iconst (v := 1) X dX2_isFull_9 rfl ?_
    refine ei_goto (tgt := 14) X dX2_isFull_10 (by decide) ?_
    refine ei_zreturn X F dX2_isFull_14 (by decide) ?_
    exact ⟨by simp_all [bz], rfl⟩
set_option maxRecDepth 100000 in
set_option maxHeartbeats 4000000 in
theorem ct_X2_isWhole (n : Nat) (w se sp hr lt hd sc : Int32) (so fi wo : Nat → Int32) (b : Nat) : e_Ct yX2_isWhole cX2_isWhole 2 (some .boolean) 1 [.ref 0, .int (nI b)] (lH (n, w, se, sp, hr, lt, hd, sc, so, fi, wo)) (e_eq (some (.int (bz (hasB w b)))) (lH (n, w, se, sp, hr, lt, hd, sc, so, fi, wo))) := by
  refine e_open RX2 rfl (by decide +kernel) rfl (fun _ => Nat.le_of_ble_eq_true rfl) (fun x X F => ?_)
  refine ei_aload_n X dX2_isWhole_0 rfl rfl ?_
  refine ei_getf X fl_RX2_34 dX2_isWhole_1 rfl rfl ?_
  refine ei_iload_n X dX2_isWhole_4 rfl rfl ?_
  refine ei_ishr X dX2_isWhole_5 ?_
  refine ei_iconst (v := 1) X dX2_isWhole_6 rfl ?_
  refine ei_iand X dX2_isWhole_7 ?_
  refine ei_iconst (v := 1) X dX2_isWhole_8 rfl ?_
  refine ei_icmp_ne (tgt := 16) X dX2_isWhole_9 (by decide) (fun cq9 => ?_) (fun cq9 => ?_)
  · refine ei_iconst (v := 0) X dX2_isWhole_16 rfl ?_
    refine ei_zreturn X F dX2_isWhole_17 (by decide) ?_
    exact ⟨by simp_all [bz, hasB], rfl⟩
  · refine ei_iconst (v := 1) X dX2_isWhole_12 rfl ?_
    refine ei_goto (tgt := 17) X dX2_isWhole_13 (by decide) ?_
    refine ei_zreturn X F dX2_isWhole_17 (by decide) ?_
    exact ⟨by simp_all [bz, hasB], rfl⟩
set_option maxRecDepth 100000 in
set_option maxHeartbeats 4000000 in
theorem ct_X2_isSeated (n : Nat) (w se sp hr lt hd sc : Int32) (so fi wo : Nat → Int32) (b : Nat) : e_Ct yX2_isSeated cX2_isSeated 2 (some .boolean) 1 [.ref 0, .int (nI b)] (lH (n, w, se, sp, hr, lt, hd, sc, so, fi, wo)) (e_eq (some (.int (bz (hasB se b)))) (lH (n, w, se, sp, hr, lt, hd, sc, so, fi, wo))) := by
  refine e_open RX2 rfl (by decide +kernel) rfl (fun _ => Nat.le_of_ble_eq_true rfl) (fun x X F => ?_)
  refine ei_aload_n X dX2_isSeated_0 rfl rfl ?_
  refine ei_getf X fl_RX2_37 dX2_isSeated_1 rfl rfl ?_
  refine ei_iload_n X dX2_isSeated_4 rfl rfl ?_
  refine ei_ishr X dX2_isSeated_5 ?_
  refine ei_iconst (v := 1) X dX2_isSeated_6 rfl ?_
  refine ei_iand X dX2_isSeated_7 ?_
  refine ei_iconst (v := 1) X dX2_isSeated_8 rfl ?_
  refine ei_icmp_ne (tgt := 16) X dX2_isSeated_9 (by decide) (fun cq9 => ?_) (fun cq9 => ?_)
  · refine ei_iconst (v := 0) X dX2_isSeated_16 rfl ?_
    refine ei_zreturn X F dX2_isSeated_17 (by decide) ?_
    exact ⟨by simp_all [bz, hasB], rfl⟩
  · refine ei_iconst (v := 1) X dX2_isSeated_12 rfl ?_
    refine ei_goto (tgt := 17) X dX2_isSeated_13 (by decide) ?_
    refine ei_zreturn X F dX2_isSeated_17 (by decide) ?_
    exact ⟨by simp_all [bz, hasB], rfl⟩
set_option maxRecDepth 100000 in
set_option maxHeartbeats 4000000 in
theorem ct_X2_lifeOf (n : Nat) (w se sp hr lt hd sc : Int32) (so fi wo : Nat → Int32) (b : Nat) (h_b : b < 10) : e_Ct yX2_lifeOf cX2_lifeOf 2 (some .int) 2 [.ref 0, .int (nI b)] (lH (n, w, se, sp, hr, lt, hd, sc, so, fi, wo)) (e_eq (some (.int (lifeS (n, w, se, sp, hr, lt, hd, sc, so, fi, wo) b))) (lH (n, w, se, sp, hr, lt, hd, sc, so, fi, wo))) := by
  refine e_open RX2 rfl (by decide +kernel) rfl (fun _ => Nat.le_of_ble_eq_true rfl) (fun x X F => ?_)
  refine ei_aload_n X dX2_lifeOf_0 rfl rfl ?_
  refine ei_getf X fl_RX2_9 dX2_lifeOf_1 rfl rfl ?_
  refine ei_iload_n X dX2_lifeOf_4 rfl rfl ?_
  refine ei_iaload_n X dX2_lifeOf_5 rfl (by first | omega | assumption) (by decide) ?_
  refine ei_aload_n X dX2_lifeOf_6 rfl rfl ?_
  refine ei_getf X fl_RX2_15 dX2_lifeOf_7 rfl rfl ?_
  refine ei_iload_n X dX2_lifeOf_10 rfl rfl ?_
  refine ei_iaload_n X dX2_lifeOf_11 rfl (by first | omega | assumption) (by decide) ?_
  refine ei_callT1 X ml_RX2_56 dX2_lifeOf_12 (ct_X5_life _ _ _) rfl rfl (by decide) (by decide) (Nat.le_of_ble_eq_true rfl) ?_
  refine ei_ireturn X F dX2_lifeOf_15 ?_
  exact ⟨rfl, rfl⟩
set_option maxRecDepth 100000 in
set_option maxHeartbeats 4000000 in
theorem ct_X2_isBrown (n : Nat) (w se sp hr lt hd sc : Int32) (so fi wo : Nat → Int32) (b : Nat) (h_b : b < 10) : e_Ct yX2_isBrown cX2_isBrown 2 (some .boolean) 3 [.ref 0, .int (nI b)] (lH (n, w, se, sp, hr, lt, hd, sc, so, fi, wo)) (e_eq (some (.int (bz (brownF (n, w, se, sp, hr, lt, hd, sc, so, fi, wo) b)))) (lH (n, w, se, sp, hr, lt, hd, sc, so, fi, wo))) := by
  refine e_open RX2 rfl (by decide +kernel) rfl (fun _ => Nat.le_of_ble_eq_true rfl) (fun x X F => ?_)
  refine ei_aload_n X dX2_isBrown_0 rfl rfl ?_
  refine ei_getf X fl_RX2_18 dX2_isBrown_1 rfl rfl ?_
  refine ei_iload_n X dX2_isBrown_4 rfl rfl ?_
  refine ei_iaload_n X dX2_isBrown_5 rfl (by first | omega | assumption) (by decide) ?_
  refine ei_aload_n X dX2_isBrown_6 rfl rfl ?_
  refine ei_iload_n X dX2_isBrown_7 rfl rfl ?_
  refine ei_callI1 X ml_RX2_62 dX2_isBrown_8 (ct_X2_lifeOf _ _ _ _ _ _ _ _ _ _ _ _ (by first | omega | assumption)) rfl rfl (by decide) (by decide) rfl (Nat.le_of_ble_eq_true rfl) ?_
  refine ei_iconst (v := 2) X dX2_isBrown_11 rfl ?_
  refine ei_idiv X dX2_isBrown_12 (by decide) ?_
  refine ei_icmp_lt (tgt := 20) X dX2_isBrown_13 (by decide) (fun cq13 => ?_) (fun cq13 => ?_)
  · refine ei_iconst (v := 0) X dX2_isBrown_20 rfl ?_
    refine ei_zreturn X F dX2_isBrown_21 (by decide) ?_
    exact ⟨by simp_all [bz, brownF, sN, sW, sE, sP, sH, sL, sD, sC, sO, sG, sR], rfl⟩
  · refine ei_iconst (v := 1) X dX2_isBrown_16 rfl ?_
    refine ei_goto (tgt := 21) X dX2_isBrown_17 (by decide) ?_
    refine ei_zreturn X F dX2_isBrown_21 (by decide) ?_
    exact ⟨by simp_all [bz, brownF, sN, sW, sE, sP, sH, sL, sD, sC, sO, sG, sR], rfl⟩
set_option maxRecDepth 100000 in
set_option maxHeartbeats 4000000 in
theorem ct_X2_divides (h : List eC) (a b : Int32) : e_Ct yX2_divides cX2_divides 2 (some .boolean) 1 [.int a, .int b] h (e_eq (some (.int (bz (divs a b)))) h) := by
  refine e_open RX2 rfl (by decide +kernel) rfl (fun _ => Nat.le_of_ble_eq_true rfl) (fun x X F => ?_)
  refine ei_iload_n X dX2_divides_0 rfl rfl ?_
  refine ei_if_le (tgt := 14) X dX2_divides_1 (by decide) (fun cq1 => ?_) (fun cq1 => ?_)
  · refine ei_iconst (v := 0) X dX2_divides_14 rfl ?_
    refine ei_zreturn X F dX2_divides_15 (by decide) ?_
    exact ⟨by first | (simp_all [bz, divs, Int32.not_le, Int32.not_lt]; done) | (rw [show divs a b = false from by unfold divs; rw [decide_eq_false (Int32.not_lt.mpr cq1)]; rfl]; rfl), rfl⟩
  · refine ei_iload_n X dX2_divides_4 rfl rfl ?_
    refine ei_iload_n X dX2_divides_5 rfl rfl ?_
    refine ei_irem X dX2_divides_6 (by rintro rfl; exact absurd cq1 (by decide)) ?_
    refine ei_if_ne (tgt := 14) X dX2_divides_7 (by decide) (fun cq7 => ?_) (fun cq7 => ?_)
    · refine ei_iconst (v := 0) X dX2_divides_14 rfl ?_
      refine ei_zreturn X F dX2_divides_15 (by decide) ?_
      exact ⟨by first | (simp_all [bz, divs, Int32.not_le, Int32.not_lt]; done) | (rw [show divs a b = false from by unfold divs; rw [decide_eq_false (Int32.not_lt.mpr cq1)]; rfl]; rfl), rfl⟩
    · refine ei_iconst (v := 1) X dX2_divides_10 rfl ?_
      refine ei_goto (tgt := 15) X dX2_divides_11 (by decide) ?_
      refine ei_zreturn X F dX2_divides_15 (by decide) ?_
      exact ⟨by first | (simp_all [bz, divs, Int32.not_le, Int32.not_lt]; done) | (rw [show divs a b = false from by unfold divs; rw [decide_eq_false (Int32.not_lt.mpr cq1)]; rfl]; rfl), rfl⟩
set_option maxRecDepth 100000 in
set_option maxHeartbeats 4000000 in
theorem ct_X2_leads (n : Nat) (w se sp hr lt hd sc : Int32) (so fi wo : Nat → Int32) (b : Nat) (h : Int32) (h_b : b < 10) : e_Ct yX2_leads cX2_leads 3 (some .boolean) 2 [.ref 0, .int (nI b), .int h] (lH (n, w, se, sp, hr, lt, hd, sc, so, fi, wo)) (e_eq (some (.int (bz (leadsF (n, w, se, sp, hr, lt, hd, sc, so, fi, wo) b h)))) (lH (n, w, se, sp, hr, lt, hd, sc, so, fi, wo))) := by
  refine e_open RX2 rfl (by decide +kernel) rfl (fun _ => Nat.le_of_ble_eq_true rfl) (fun x X F => ?_)
  refine ei_aload_n X dX2_leads_0 rfl rfl ?_
  refine ei_getf X fl_RX2_9 dX2_leads_1 rfl rfl ?_
  refine ei_iload_n X dX2_leads_4 rfl rfl ?_
  refine ei_iaload_n X dX2_leads_5 rfl (by first | omega | assumption) (by decide) ?_
  refine ei_table [(1, 36), (2, 58), (3, 98), (4, 100)] 129 X dX2_leads_6 (by decide) (by decide) (by decide) ⟨fun cq6 => ?_, fun cq6 => ?_, fun cq6 => ?_, fun cq6 => ?_, trivial⟩ (fun cq6 => ?_)
  · refine ei_aload_n X dX2_leads_36 rfl rfl ?_
    refine ei_iload_n X dX2_leads_37 rfl rfl ?_
    refine ei_callI1 X ml_RX2_95 dX2_leads_38 (ct_X2_isWhole _ _ _ _ _ _ _ _ _ _ _ _) rfl rfl (by decide) (by decide) rfl (Nat.le_of_ble_eq_true rfl) ?_
    refine ei_ifz_eq (tgt := 56) X dX2_leads_41 (by decide) (fun cq41 => ?_) (fun cq41 => ?_)
    · refine ei_iconst (v := 0) X dX2_leads_56 rfl ?_
      refine ei_zreturn X F dX2_leads_57 (by decide) ?_
      exact ⟨by simp_all [bz, leadsF, e_tn, sN, sW, sE, sP, sH, sL, sD, sC, sO, sG, sR], rfl⟩
    · refine ei_aload_n X dX2_leads_44 rfl rfl ?_
      refine ei_iload_n X dX2_leads_45 rfl rfl ?_
      refine ei_callI1 X ml_RX2_98 dX2_leads_46 (ct_X2_isSeated _ _ _ _ _ _ _ _ _ _ _ _) rfl rfl (by decide) (by decide) rfl (Nat.le_of_ble_eq_true rfl) ?_
      refine ei_ifz_eq (tgt := 56) X dX2_leads_49 (by decide) (fun cq49 => ?_) (fun cq49 => ?_)
      · refine ei_iconst (v := 0) X dX2_leads_56 rfl ?_
        refine ei_zreturn X F dX2_leads_57 (by decide) ?_
        exact ⟨by simp_all [bz, leadsF, e_tn, sN, sW, sE, sP, sH, sL, sD, sC, sO, sG, sR], rfl⟩
      · refine ei_iconst (v := 1) X dX2_leads_52 rfl ?_
        refine ei_goto (tgt := 57) X dX2_leads_53 (by decide) ?_
        refine ei_zreturn X F dX2_leads_57 (by decide) ?_
        exact ⟨by simp_all [bz, leadsF, e_tn, sN, sW, sE, sP, sH, sL, sD, sC, sO, sG, sR], rfl⟩
  · refine ei_aload_n X dX2_leads_58 rfl rfl ?_
    refine ei_iload_n X dX2_leads_59 rfl rfl ?_
    refine ei_callI1 X ml_RX2_95 dX2_leads_60 (ct_X2_isWhole _ _ _ _ _ _ _ _ _ _ _ _) rfl rfl (by decide) (by decide) rfl (Nat.le_of_ble_eq_true rfl) ?_
    refine ei_ifz_eq (tgt := 96) X dX2_leads_63 (by decide) (fun cq63 => ?_) (fun cq63 => ?_)
    · refine ei_iconst (v := 0) X dX2_leads_96 rfl ?_
      refine ei_zreturn X F dX2_leads_97 (by decide) ?_
      exact ⟨by simp_all [bz, leadsF, e_tn, sN, sW, sE, sP, sH, sL, sD, sC, sO, sG, sR], rfl⟩
    · refine ei_aload_n X dX2_leads_66 rfl rfl ?_
      refine ei_getf X fl_RX2_18 dX2_leads_67 rfl rfl ?_
      refine ei_iload_n X dX2_leads_70 rfl rfl ?_
      refine ei_iaload_n X dX2_leads_71 rfl (by first | omega | assumption) (by decide) ?_
      refine ei_bipush (v := 10) X dX2_leads_72 rfl ?_
      refine ei_aload_n X dX2_leads_74 rfl rfl ?_
      refine ei_getf X fl_RX2_15 dX2_leads_75 rfl rfl ?_
      refine ei_iload_n X dX2_leads_78 rfl rfl ?_
      refine ei_iaload_n X dX2_leads_79 rfl (by first | omega | assumption) (by decide) ?_
      refine ei_imul X dX2_leads_80 ?_
      refine ei_icmp_lt (tgt := 92) X dX2_leads_81 (by decide) (fun cq81 => ?_) (fun cq81 => ?_)
      · refine ei_iconst (v := 1) X dX2_leads_92 rfl ?_
        refine ei_goto (tgt := 97) X dX2_leads_93 (by decide) ?_
        refine ei_zreturn X F dX2_leads_97 (by decide) ?_
        exact ⟨by simp_all [bz, leadsF, e_tn, sN, sW, sE, sP, sH, sL, sD, sC, sO, sG, sR], rfl⟩
      · refine ei_iconst (v := 2) X dX2_leads_84 rfl ?_
        refine ei_iload_n X dX2_leads_85 rfl rfl ?_
        refine ei_callT1 X ml_RX2_101 dX2_leads_86 (ct_X2_divides _ _ _) rfl rfl (by decide) (by decide) (Nat.le_of_ble_eq_true rfl) ?_
        refine ei_ifz_eq (tgt := 96) X dX2_leads_89 (by decide) (fun cq89 => ?_) (fun cq89 => ?_)
        · refine ei_iconst (v := 0) X dX2_leads_96 rfl ?_
          refine ei_zreturn X F dX2_leads_97 (by decide) ?_
          exact ⟨by simp_all [bz, leadsF, e_tn, sN, sW, sE, sP, sH, sL, sD, sC, sO, sG, sR], rfl⟩
        · refine ei_iconst (v := 1) X dX2_leads_92 rfl ?_
          refine ei_goto (tgt := 97) X dX2_leads_93 (by decide) ?_
          refine ei_zreturn X F dX2_leads_97 (by decide) ?_
          exact ⟨by simp_all [bz, leadsF, e_tn, sN, sW, sE, sP, sH, sL, sD, sC, sO, sG, sR], rfl⟩
  · refine ei_iconst (v := 1) X dX2_leads_98 rfl ?_
    refine ei_zreturn X F dX2_leads_99 (by decide) ?_
    exact ⟨by simp_all [bz, leadsF, e_tn, sN, sW, sE, sP, sH, sL, sD, sC, sO, sG, sR], rfl⟩
  · refine ei_aload_n X dX2_leads_100 rfl rfl ?_
    refine ei_iload_n X dX2_leads_101 rfl rfl ?_
    refine ei_callI1 X ml_RX2_95 dX2_leads_102 (ct_X2_isWhole _ _ _ _ _ _ _ _ _ _ _ _) rfl rfl (by decide) (by decide) rfl (Nat.le_of_ble_eq_true rfl) ?_
    refine ei_ifz_eq (tgt := 127) X dX2_leads_105 (by decide) (fun cq105 => ?_) (fun cq105 => ?_)
    · refine ei_iconst (v := 0) X dX2_leads_127 rfl ?_
      refine ei_zreturn X F dX2_leads_128 (by decide) ?_
      exact ⟨by simp_all [bz, leadsF, e_tn, sN, sW, sE, sP, sH, sL, sD, sC, sO, sG, sR], rfl⟩
    · refine ei_aload_n X dX2_leads_108 rfl rfl ?_
      refine ei_getf X fl_RX2_15 dX2_leads_109 rfl rfl ?_
      refine ei_iload_n X dX2_leads_112 rfl rfl ?_
      refine ei_iaload_n X dX2_leads_113 rfl (by first | omega | assumption) (by decide) ?_
      refine ei_iconst (v := 2) X dX2_leads_114 rfl ?_
      refine ei_iadd X dX2_leads_115 ?_
      refine ei_iload_n X dX2_leads_116 rfl rfl ?_
      refine ei_callT1 X ml_RX2_101 dX2_leads_117 (ct_X2_divides _ _ _) rfl rfl (by decide) (by decide) (Nat.le_of_ble_eq_true rfl) ?_
      refine ei_ifz_ne (tgt := 127) X dX2_leads_120 (by decide) (fun cq120 => ?_) (fun cq120 => ?_)
      · refine ei_iconst (v := 0) X dX2_leads_127 rfl ?_
        refine ei_zreturn X F dX2_leads_128 (by decide) ?_
        exact ⟨by simp_all [bz, leadsF, e_tn, sN, sW, sE, sP, sH, sL, sD, sC, sO, sG, sR], rfl⟩
      · refine ei_iconst (v := 1) X dX2_leads_123 rfl ?_
        refine ei_goto (tgt := 128) X dX2_leads_124 (by decide) ?_
        refine ei_zreturn X F dX2_leads_128 (by decide) ?_
        exact ⟨by simp_all [bz, leadsF, e_tn, sN, sW, sE, sP, sH, sL, sD, sC, sO, sG, sR], rfl⟩
  · refine ei_aload_n X dX2_leads_129 rfl rfl ?_
    refine ei_iload_n X dX2_leads_130 rfl rfl ?_
    refine ei_callI1 X ml_RX2_95 dX2_leads_131 (ct_X2_isWhole _ _ _ _ _ _ _ _ _ _ _ _) rfl rfl (by decide) (by decide) rfl (Nat.le_of_ble_eq_true rfl) ?_
    refine ei_zreturn X F dX2_leads_134 (bz_nar _) ?_
    exact ⟨by simp_all [bz, leadsF, e_tn, sN, sW, sE, sP, sH, sL, sD, sC, sO, sG, sR], rfl⟩

