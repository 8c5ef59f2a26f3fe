/-! ===== image and restore ===== -/
set_option maxRecDepth 100000 in
set_option maxHeartbeats 4000000 in
theorem ct_X10_image (n : Nat) (w se sp hr lt hd sc : Int32) (so fi wo : Nat → Int32) (I : Nat → Int32) (A : Nat → Nat → Int32) (B : Nat → Nat → Int64) (K : Value) : e_Ct yX10_image cX10_image 1 (some .int) 3 [.ref 0] (mH (n, w, se, sp, hr, lt, hd, sc, so, fi, wo) (I, A, B, K)) (fun r h => r = some (.int hr) ∧ ∃ J, J 30 = 1 ∧ (∀ k, k = 11 ∨ k = 12 → J k = I k) ∧ h = mH (n, w, se, sp, hr, lt, hd, sc, so, fi, wo) (J, updA A 14 (encF (n, w, se, sp, hr, lt, hd, sc, so, fi, wo)), B, .ref 14)) := by
  refine e_open RX10 rfl (by decide +kernel) rfl (fun _ => Nat.le_of_ble_eq_true rfl) (fun x X F => ?_)
  refine ei_aload_n X dX10_image_0 rfl rfl ?_
  refine ei_iconst (v := 0) X dX10_image_1 rfl ?_
  refine ei_puti X fp_RX10_78 dX10_image_2 rfl (Nat.le_of_ble_eq_true rfl) (pm_20 _ _ _ _ _ _ _ _ _ _ _ _ _ _ _ _) ?_
  refine ei_aload_n X dX10_image_5 rfl rfl ?_
  refine ei_iconst (v := 1) X dX10_image_6 rfl ?_
  refine ei_putz X fp_RX10_250 dX10_image_7 rfl (Nat.le_of_ble_eq_true rfl) (by decide) (pm_30 _ _ _ _ _ _ _ _ _ _ _ _ _ _ _ _) ?_
  refine ei_aload_n X dX10_image_10 rfl rfl ?_
  refine ei_aload_n X dX10_image_11 rfl rfl ?_
  refine ei_getf X fl_RX10_57 dX10_image_12 rfl rfl ?_
  refine ei_iconst (v := 1) X dX10_image_15 rfl ?_
  refine ei_callI X ml_RX10_246 dX10_image_16 (ct_X10_carryAll_take _ _ _ _ _ _ _ _ _ _ _ _ _ _ _ 14 (Or.inr rfl)) rfl rfl (by decide) (by decide) rfl (Nat.le_of_ble_eq_true rfl) (fun r h hp => ?_)
  obtain ⟨rfl, J, hJ, rfl⟩ := hp
  refine ei_aload_n X dX10_image_19 rfl rfl ?_
  refine ei_getf X fl_RX10_105 dX10_image_20 rfl rfl ?_
  refine ei_ireturn X F dX10_image_23 ?_
  exact ⟨rfl, J, by rw [hJ 30 (by decide) (by decide), pk_us], fun k hk => by rw [hJ k (by omega) (by omega), pk_un (by omega), pk_un (by omega)], rfl⟩
set_option maxRecDepth 100000 in
set_option maxHeartbeats 4000000 in
theorem ct_X10_restore (n : Nat) (w se sp hr lt hd sc : Int32) (so fi wo : Nat → Int32) (n2 : Nat) (w2 se2 sp2 hr2 lt2 hd2 sc2 : Int32) (so2 fi2 wo2 : Nat → Int32) (I : Nat → Int32) (A : Nat → Nat → Int32) (B : Nat → Nat → Int64) (K : Value) (h_f : ¬ I 30 = 0 → A 14 = encF (n2, w2, se2, sp2, hr2, lt2, hd2, sc2, so2, fi2, wo2)) : e_Ct yX10_restore cX10_restore 1 (some .int) 3 [.ref 0] (mH (n, w, se, sp, hr, lt, hd, sc, so, fi, wo) (I, A, B, K)) (fun r h => if I 30 = 0 then mP (some (.int (-3))) (n, w, se, sp, hr, lt, hd, sc, so, fi, wo) (I, A, B, K) r h else mP (some (.int hr2)) (n2, w2, se2, sp2, hr2, lt2, hd2, sc2, so2, fi2, wo2) (I, A, B, K) r h) := by
  refine e_open RX10 rfl (by decide +kernel) rfl (fun _ => Nat.le_of_ble_eq_true rfl) (fun x X F => ?_)
  refine ei_aload_n X dX10_restore_0 rfl rfl ?_
  refine ei_iconst (v := 0) X dX10_restore_1 rfl ?_
  refine ei_puti X fp_RX10_78 dX10_restore_2 rfl (Nat.le_of_ble_eq_true rfl) (pm_20 _ _ _ _ _ _ _ _ _ _ _ _ _ _ _ _) ?_
  refine ei_aload_n X dX10_restore_5 rfl rfl ?_
  refine ei_getf X fl_RX10_250 dX10_restore_6 rfl rfl ?_
  rw [pk_un (by decide)]
  refine ei_if_ne (tgt := 15) X dX10_restore_9 (by decide) (fun cq9 => ?_) (fun cq9 => ?_)
  · refine ei_aload_n X dX10_restore_15 rfl rfl ?_
    refine ei_aload_n X dX10_restore_16 rfl rfl ?_
    refine ei_getf X fl_RX10_57 dX10_restore_17 rfl rfl ?_
    refine ei_iconst (v := 0) X dX10_restore_20 rfl ?_
    refine ei_callI X ml_RX10_246 dX10_restore_21 (ct_X10_carryAll_back _ _ _ _ _ _ _ _ _ _ _ n2 w2 se2 sp2 hr2 lt2 hd2 sc2 so2 fi2 wo2 _ _ _ _ 14 (Or.inr rfl) (h_f cq9)) rfl rfl (by decide) (by decide) rfl (Nat.le_of_ble_eq_true rfl) (fun r h hp => ?_)
    obtain ⟨rfl, J, hJ, rfl⟩ := hp
    refine ei_aload_n X dX10_restore_24 rfl rfl ?_
    refine ei_getf X fl_RX10_105 dX10_restore_25 rfl rfl ?_
    refine ei_ireturn X F dX10_restore_28 ?_
    rw [if_neg cq9]
    exact ⟨rfl, _, kM_i (fun k hk => by rw [hJ k (by omega) (by omega), pk_un (by omega)]), rfl⟩
  · refine ei_bipush (v := -3) X dX10_restore_12 rfl ?_
    refine ei_ireturn X F dX10_restore_14 ?_
    rw [if_pos cq9]
    exact ⟨rfl, _, kM_20 _ _ _ _ 0, rfl⟩

