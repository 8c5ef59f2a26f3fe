/-! ===== rows that tell of hours ===== -/
def popF (v : Int32) : Int32 := wholeN v 0 10
theorem pop_s : ∀ k, k < 1024 → ¬ nI k = 0 → popF (nI k &&& (nI k - 1)) + 1 = popF (nI k) ∧ Gd1 (nI k &&& (nI k - 1)) 1023 ∧ (nI k &&& (nI k - 1)).toInt < k := by
  have key : ∀ k, k < 1024 → nI k = 0 ∨ (popF (nI k &&& (nI k - 1)) + 1 = popF (nI k) ∧ (0 ≤ (nI k &&& (nI k - 1)).toInt ∧ (nI k &&& (nI k - 1)).toInt ≤ 1023) ∧ (nI k &&& (nI k - 1)).toInt < k) := by decide +kernel
  intro k hk h
  exact (key k hk).resolve_left h
set_option maxRecDepth 100000 in
set_option maxHeartbeats 4000000 in
theorem ct_X10_onesOf (h : List eC) (v : Int32) (h_v : Gd1 v 1023) : e_Ct yX10_onesOf cX10_onesOf 3 (some .int) 1 [.int v] h (e_eq (some (.int (popF v))) h) := by
  refine e_open RX10 rfl (by decide +kernel) rfl (fun _ => Nat.le_of_ble_eq_true rfl) (fun x X F => ?_)
  have L : ∀ (m k : Nat) (a : Int32), k < m → k < 1024 → a + popF (nI k) = popF v → e_E x 4 [some (.int v), some (.int a), some (.int (nI k))] [] h := by
    intro m
    induction m with
    | zero => intro k a hk; exact absurd hk (Nat.not_lt_zero _)
    | succ m ih =>
      intro k a hk h1 hv
      refine ei_iload_n X dX10_onesOf_4 rfl rfl ?_
      refine ei_if_eq (tgt := 20) X dX10_onesOf_5 (by decide) (fun cq5 => ?_) (fun cq5 => ?_)
      · refine ei_iload_n X dX10_onesOf_20 rfl rfl ?_
        refine ei_ireturn X F dX10_onesOf_21 ?_
        exact ⟨by rw [← hv, cq5, show popF 0 = 0 from by decide +kernel, Int32.add_zero], rfl⟩
      · refine ei_iinc (v := _ + 1) X dX10_onesOf_8 rfl rfl rfl ?_
        refine ei_iload_n X dX10_onesOf_11 rfl rfl ?_
        refine ei_iload_n X dX10_onesOf_12 rfl rfl ?_
        refine ei_iconst (v := 1) X dX10_onesOf_13 rfl ?_
        refine ei_isub X dX10_onesOf_14 ?_
        refine ei_iand X dX10_onesOf_15 ?_
        refine ei_istore_n X dX10_onesOf_16 rfl (Nat.le_of_ble_eq_true rfl) rfl ?_
        refine ei_goto (tgt := 4) X dX10_onesOf_17 (by decide) ?_
        obtain ⟨s1, s2, s3⟩ := pop_s k h1 cq5
        obtain ⟨j, hj, he⟩ := i32_of (m := 1023) (by decide) s2
        rw [he] at s1 s3 ⊢
        rw [nI_toInt (by omega)] at s3
        exact ih j _ (by omega) (by omega) (by rw [← hv, ← s1, Int32.add_assoc, Int32.add_comm 1])
  obtain ⟨j, hj, he⟩ := i32_of (m := 1023) (by decide) h_v
  refine ei_iconst (v := 0) X dX10_onesOf_0 rfl ?_
  refine ei_istore_n X dX10_onesOf_1 rfl (Nat.le_of_ble_eq_true rfl) rfl ?_
  refine ei_iload_n X dX10_onesOf_2 rfl rfl ?_
  refine ei_istore_n X dX10_onesOf_3 rfl (Nat.le_of_ble_eq_true rfl) rfl ?_
  have h9 := L 1024 j 0 (by omega) (by omega) (by rw [he, Int32.zero_add])
  rw [← he] at h9
  exact h9
set_option maxRecDepth 100000 in
set_option maxHeartbeats 4000000 in
theorem ct_X10_leastOf (h : List eC) (s : Int32) : e_Ct yX10_leastOf cX10_leastOf 1 (some .long) 1 [.int s] h (e_eq (some (.long (leastI s).toInt64)) h) := by
  refine e_open RX10 rfl (by decide +kernel) rfl (fun _ => Nat.le_of_ble_eq_true rfl) (fun x X F => ?_)
  refine ei_iload_n X dX10_leastOf_0 rfl rfl ?_
  refine ei_if_ne (tgt := 10) X dX10_leastOf_1 (by decide) (fun cq1 => ?_) (fun cq1 => ?_)
  · refine ei_iload_n X dX10_leastOf_10 rfl rfl ?_
    refine ei_iconst (v := 1) X dX10_leastOf_11 rfl ?_
    refine ei_icmp_ne (tgt := 21) X dX10_leastOf_12 (by decide) (fun cq12 => ?_) (fun cq12 => ?_)
    · refine ei_ldc2 X cw_RX10_341 dX10_leastOf_21 ?_
      refine ei_lreturn X F dX10_leastOf_24 ?_
      exact ⟨by simp only [leastI, if_neg cq1, if_neg cq12]; rfl, rfl⟩
    · refine ei_ldc2 X cw_RX10_339 dX10_leastOf_15 ?_
      refine ei_goto (tgt := 24) X dX10_leastOf_18 (by decide) ?_
      refine ei_lreturn X F dX10_leastOf_24 ?_
      exact ⟨by simp only [leastI, if_neg cq1, if_pos cq12]; rfl, rfl⟩
  · refine ei_ldc2 X cw_RX10_337 dX10_leastOf_4 ?_
    refine ei_goto (tgt := 24) X dX10_leastOf_7 (by decide) ?_
    refine ei_lreturn X F dX10_leastOf_24 ?_
    exact ⟨by simp only [leastI, if_pos cq1]; rfl, rfl⟩
set_option maxRecDepth 100000 in
set_option maxHeartbeats 4000000 in
theorem ct_X10_isSkipped (n : Nat) (w se sp hr lt hd sc : Int32) (so fi wo : Nat → Int32) (I : Nat → Int32) (A : Nat → Nat → Int32) (B : Nat → Nat → Int64) (K : Value) (Z : Nat → Sh) (d k : Nat) (h_d : d < 8) (h_k : k < 100) (h_z : zH (Z d) = 2) (h_R : RS Z (I, A, B, K)) : e_Ct yX10_isSkipped cX10_isSkipped 3 (some .boolean) 2 [.ref 0, .int (nI d), .int (nI k)] (mH (n, w, se, sp, hr, lt, hd, sc, so, fi, wo) (I, A, B, K)) (e_eq (some (.int (bz (skipF (Z d) k)))) (mH (n, w, se, sp, hr, lt, hd, sc, so, fi, wo) (I, A, B, K))) := by
  refine e_open RX10 rfl (by decide +kernel) rfl (fun _ => Nat.le_of_ble_eq_true rfl) (fun x X F => ?_)
  obtain ⟨z7, z8, z9⟩ := (h_R d h_d).2.2.2 h_z
  simp only at z7 z8 z9
  refine ei_aload_n X dX10_isSkipped_0 rfl rfl ?_
  refine ei_getf X fl_RX10_41 dX10_isSkipped_1 rfl rfl ?_
  refine ei_bipush (v := nI 100) X dX10_isSkipped_4 rfl ?_
  refine ei_iload_n X dX10_isSkipped_6 rfl rfl ?_
  refine ei_imul X dX10_isSkipped_7 ?_
  rw [nI_mul]
  refine ei_iload_n X dX10_isSkipped_8 rfl rfl ?_
  refine ei_iadd X dX10_isSkipped_9 ?_
  rw [nI_add]
  refine ei_laload_n X dX10_isSkipped_10 rfl (by first | omega | assumption) (by decide) ?_
  rw [z9 k h_k]
  refine ei_aload_n X dX10_isSkipped_11 rfl rfl ?_
  refine ei_getf X fl_RX10_35 dX10_isSkipped_12 rfl rfl ?_
  refine ei_iload_n X dX10_isSkipped_15 rfl rfl ?_
  refine ei_iaload_n X dX10_isSkipped_16 rfl (by first | omega | assumption) (by decide) ?_
  rw [z7]
  refine ei_callT1 X ml_RX10_343 dX10_isSkipped_17 (ct_X10_leastOf _ _) rfl rfl (by decide) (by decide) (Nat.le_of_ble_eq_true rfl) ?_
  refine ei_lcmp X dX10_isSkipped_20 ?_
  refine ei_ifc_ne (tgt := 28) X dX10_isSkipped_21 (by decide) (fun cq21 => ?_) (fun cq21 => ?_)
  · refine ei_iconst (v := 0) X dX10_isSkipped_28 rfl ?_
    refine ei_zreturn X F dX10_isSkipped_29 (by decide) ?_
    exact ⟨by rw [show skipF (Z d) k = false from decide_eq_false (fun z => cq21 ((i64_eq _ _).mpr z))]; rfl, rfl⟩
  · refine ei_iconst (v := 1) X dX10_isSkipped_24 rfl ?_
    refine ei_goto (tgt := 29) X dX10_isSkipped_25 (by decide) ?_
    refine ei_zreturn X F dX10_isSkipped_29 (by decide) ?_
    exact ⟨by rw [show skipF (Z d) k = true from decide_eq_true ((i64_eq _ _).mp cq21)]; rfl, rfl⟩
def kJ (I I' : Nat → Int32) : Prop := ∀ k, k ≠ 13 → k ≠ 31 → k ≠ 32 → I' k = I k
def wornP (S : St) (z : Sh) (b fr : Nat) (k : Nat) : Bool := skipF z k || decide (zC z k = sR (hoursS S (fr + k)) b)
def wornRowF (S : St) (z : Sh) (b fr : Nat) : Bool := allF (wornP S z b fr) 0 (zN z)
set_option maxRecDepth 100000 in
set_option maxHeartbeats 4000000 in
theorem ct_X10_isWornRow (n : Nat) (w se sp hr lt hd sc : Int32) (so fi wo : Nat → Int32) (n2 : Nat) (w2 se2 sp2 hr2 lt2 hd2 sc2 : Int32) (so2 fi2 wo2 : Nat → Int32) (I : Nat → Int32) (A : Nat → Nat → Int32) (B : Nat → Nat → Int64) (K : Value) (Z : Nat → Sh) (d b fr : Nat) (h_d : d < 8) (h_b : b < 10) (h_fr : fr < 100) (h_z : zH (Z d) = 2) (h_R : RS Z (I, A, B, K)) (h_S : Good (n, w, se, sp, hr, lt, hd, sc, so, fi, wo)) (h_12 : I 12 = 1) (h_11 : I 11 = 0) (h_f : A 13 = encF (n2, w2, se2, sp2, hr2, lt2, hd2, sc2, so2, fi2, wo2)) : e_Ct yX10_isWornRow cX10_isWornRow 6 (some .boolean) 7 [.ref 0, .int (nI d), .int (nI b), .int (nI fr)] (mH (n, w, se, sp, hr, lt, hd, sc, so, fi, wo) (I, A, B, K)) (fun r h => r = some (.int (bz (wornRowF (n, w, se, sp, hr, lt, hd, sc, so, fi, wo) (Z d) b fr))) ∧ ∃ J, kJ I J ∧ h = mH (n2, w2, se2, sp2, hr2, lt2, hd2, sc2, so2, fi2, wo2) (J, A, B, .ref 13)) := by
  refine e_open RX10 rfl (by decide +kernel) rfl (fun _ => Nat.le_of_ble_eq_true rfl) (fun x X F => ?_)
  obtain ⟨z7, z8, z9⟩ := (h_R d h_d).2.2.2 h_z
  have hsz := ((h_R d h_d).1.2.2 h_z).2
  simp only at z7 z8 z9
  have L : ∀ (m k : Nat) (a : Bool) (J : Nat → Int32), 100 - k < m → k ≤ 100 → kI I J → wornRowF (n, w, se, sp, hr, lt, hd, sc, so, fi, wo) (Z d) b fr = (a && allF (wornP (n, w, se, sp, hr, lt, hd, sc, so, fi, wo) (Z d) b fr) k (zN (Z d))) → e_E x 11 [some (.ref 0), some (.int (nI d)), some (.int (nI b)), some (.int (nI fr)), some (.int (bz a)), some (.int (nI k))] [] (mH (hoursS (n, w, se, sp, hr, lt, hd, sc, so, fi, wo) (fr + k)) (J, A, B, K)) := by
    intro m
    induction m with
    | zero => intro k a J hk; exact absurd hk (Nat.not_lt_zero _)
    | succ m ih =>
      intro k a J hk hk2 hJ hv
      have j12 := (hJ 12 (by decide)).trans h_12
      have j11 := (hJ 11 (by decide)).trans h_11
      obtain ⟨w3, se3, hr3, lt3, wo3, e2⟩ := hours_ex (n, w, se, sp, hr, lt, hd, sc, so, fi, wo) (fr + k)
      simp only [sN, sW, sE, sP, sH, sL, sD, sC, sO, sG, sR] at e2
      have hx := e2
      have e3 : hoursS (n, w, se, sp, hr, lt, hd, sc, so, fi, wo) (fr + (k + 1)) = hourS (hoursS (n, w, se, sp, hr, lt, hd, sc, so, fi, wo) (fr + k)) 1 := hours_s _ _
      have hg := good_at h_S (fr + k)
      have hRJ : RS Z (J, A, B, K) := RS_k h_R (kM_i fun k hk => hJ k (by omega))
      have hp : wornP (n, w, se, sp, hr, lt, hd, sc, so, fi, wo) (Z d) b fr k = (skipF (Z d) k || decide (zC (Z d) k = wo3 b)) := by unfold wornP; rw [e2]
      rw [e2] at e3 hg ⊢
      refine ei_iload X dX10_isWornRow_11 rfl ?_
      refine ei_aload_n X dX10_isWornRow_13 rfl rfl ?_
      refine ei_getf X fl_RX10_38 dX10_isWornRow_14 rfl rfl ?_
      refine ei_iload_n X dX10_isWornRow_17 rfl rfl ?_
      refine ei_iaload_n X dX10_isWornRow_18 rfl (by first | omega | assumption) (by decide) ?_
      rw [z8]
      refine ei_icmpn_ge (tgt := 78) X dX10_isWornRow_19 (by decide) (by first | omega | assumption) (by first | omega | assumption) (fun cq19 => ?_) (fun cq19 => ?_)
      · refine ei_aload_n X dX10_isWornRow_78 rfl rfl ?_
        refine ei_callI X ml_RX10_231 dX10_isWornRow_79 (ct_X10_again _ _ _ _ _ _ _ _ _ _ _ n2 w2 se2 sp2 hr2 lt2 hd2 sc2 so2 fi2 wo2 _ _ _ _ h_f) rfl rfl (by decide) (by decide) rfl (Nat.le_of_ble_eq_true rfl) (fun r h2 hp => ?_)
        obtain ⟨rfl, J79, h79, rfl⟩ := hp
        refine ei_iload X dX10_isWornRow_82 rfl ?_
        refine ei_zreturn X F dX10_isWornRow_84 (bz_nar _) ?_
        exact ⟨by rw [hv, allF_ge cq19, Bool.and_true], J79, fun k h1 h2 h3 => by rw [h79 k h2 h3]; exact hJ k h1, rfl⟩
      · refine ei_iload X dX10_isWornRow_22 rfl ?_
        refine ei_ifz_eq (tgt := 78) X dX10_isWornRow_24 (by decide) (fun cq24 => ?_) (fun cq24 => ?_)
        · refine ei_aload_n X dX10_isWornRow_78 rfl rfl ?_
          refine ei_callI X ml_RX10_231 dX10_isWornRow_79 (ct_X10_again _ _ _ _ _ _ _ _ _ _ _ n2 w2 se2 sp2 hr2 lt2 hd2 sc2 so2 fi2 wo2 _ _ _ _ h_f) rfl rfl (by decide) (by decide) rfl (Nat.le_of_ble_eq_true rfl) (fun r h2 hp => ?_)
          obtain ⟨rfl, J79, h79, rfl⟩ := hp
          refine ei_iload X dX10_isWornRow_82 rfl ?_
          refine ei_zreturn X F dX10_isWornRow_84 (bz_nar _) ?_
          exact ⟨by rw [hv, cq24]; rfl, J79, fun k h1 h2 h3 => by rw [h79 k h2 h3]; exact hJ k h1, rfl⟩
        · refine ei_aload_n X dX10_isWornRow_27 rfl rfl ?_
          refine ei_iload_n X dX10_isWornRow_28 rfl rfl ?_
          refine ei_iload X dX10_isWornRow_29 rfl ?_
          refine ei_callI1 X ml_RX10_347 dX10_isWornRow_31 (ct_X10_isSkipped _ _ _ _ _ _ _ _ _ _ _ _ _ _ _ Z d k h_d (by omega) h_z hRJ) rfl rfl (by decide) (by decide) rfl (Nat.le_of_ble_eq_true rfl) ?_
          refine ei_ifz_ne (tgt := 60) X dX10_isWornRow_34 (by decide) (fun cq34 => ?_) (fun cq34 => ?_)
          · refine ei_iconst (v := 1) X dX10_isWornRow_60 rfl ?_
            refine ei_goto (tgt := 65) X dX10_isWornRow_61 (by decide) ?_
            refine ei_istore X dX10_isWornRow_65 (Nat.le_of_ble_eq_true rfl) rfl ?_
            refine ei_aload_n X dX10_isWornRow_67 rfl rfl ?_
            refine ei_callI1 X ml_RX10_134 dX10_isWornRow_68 (ct_X10_hourOn _ _ _ _ _ _ _ _ _ _ _ _ _ _ _ hg (Or.inl j12) j11) rfl rfl (by decide) (by decide) rfl (Nat.le_of_ble_eq_true rfl) ?_
            rw [j12]
            refine ei_pop X dX10_isWornRow_71 rfl ?_
            refine ei_iinc_n X dX10_isWornRow_72 rfl rfl ?_
            refine ei_goto (tgt := 11) X dX10_isWornRow_75 (by decide) ?_
            have h9 := ih (k + 1) true (burnI J (hourB (n, w3, se3, sp, hr3, lt3, hd, sc, so, fi, wo3)) (wholeN w3 0 n)) (by omega) (by omega) (kI_tr hJ (kI_burn _ _ _)) (by rw [hv, allF_lt (by omega), hp, cq34, cq24]; simp)
            rw [e3] at h9
            exact h9
          · refine ei_aload_n X dX10_isWornRow_37 rfl rfl ?_
            refine ei_getf X fl_RX10_41 dX10_isWornRow_38 rfl rfl ?_
            refine ei_bipush (v := nI 100) X dX10_isWornRow_41 rfl ?_
            refine ei_iload_n X dX10_isWornRow_43 rfl rfl ?_
            refine ei_imul X dX10_isWornRow_44 ?_
            rw [nI_mul]
            refine ei_iload X dX10_isWornRow_45 rfl ?_
            refine ei_iadd X dX10_isWornRow_47 ?_
            rw [nI_add]
            refine ei_laload_n X dX10_isWornRow_48 rfl (by first | omega | assumption) (by decide) ?_
            rw [z9 k (by omega)]
            refine ei_aload_n X dX10_isWornRow_49 rfl rfl ?_
            refine ei_getf X fl_RX10_16 dX10_isWornRow_50 rfl rfl ?_
            refine ei_iload_n X dX10_isWornRow_53 rfl rfl ?_
            refine ei_iaload_n X dX10_isWornRow_54 rfl (by first | omega | assumption) (by decide) ?_
            refine ei_i2l X dX10_isWornRow_55 ?_
            refine ei_lcmp X dX10_isWornRow_56 ?_
            refine ei_ifc_ne (tgt := 64) X dX10_isWornRow_57 (by decide) (fun cq57 => ?_) (fun cq57 => ?_)
            · refine ei_iconst (v := 0) X dX10_isWornRow_64 rfl ?_
              refine ei_istore X dX10_isWornRow_65 (Nat.le_of_ble_eq_true rfl) rfl ?_
              refine ei_aload_n X dX10_isWornRow_67 rfl rfl ?_
              refine ei_callI1 X ml_RX10_134 dX10_isWornRow_68 (ct_X10_hourOn _ _ _ _ _ _ _ _ _ _ _ _ _ _ _ hg (Or.inl j12) j11) rfl rfl (by decide) (by decide) rfl (Nat.le_of_ble_eq_true rfl) ?_
              rw [j12]
              refine ei_pop X dX10_isWornRow_71 rfl ?_
              refine ei_iinc_n X dX10_isWornRow_72 rfl rfl ?_
              refine ei_goto (tgt := 11) X dX10_isWornRow_75 (by decide) ?_
              have h9 := ih (k + 1) false (burnI J (hourB (n, w3, se3, sp, hr3, lt3, hd, sc, so, fi, wo3)) (wholeN w3 0 n)) (by omega) (by omega) (kI_tr hJ (kI_burn _ _ _)) (by rw [hv, allF_lt (by omega), hp, cq34, decide_eq_false (fun z => cq57 ((i64_eq _ _).mpr z))]; simp)
              rw [e3] at h9
              exact h9
            · refine ei_iconst (v := 1) X dX10_isWornRow_60 rfl ?_
              refine ei_goto (tgt := 65) X dX10_isWornRow_61 (by decide) ?_
              refine ei_istore X dX10_isWornRow_65 (Nat.le_of_ble_eq_true rfl) rfl ?_
              refine ei_aload_n X dX10_isWornRow_67 rfl rfl ?_
              refine ei_callI1 X ml_RX10_134 dX10_isWornRow_68 (ct_X10_hourOn _ _ _ _ _ _ _ _ _ _ _ _ _ _ _ hg (Or.inl j12) j11) rfl rfl (by decide) (by decide) rfl (Nat.le_of_ble_eq_true rfl) ?_
              rw [j12]
              refine ei_pop X dX10_isWornRow_71 rfl ?_
              refine ei_iinc_n X dX10_isWornRow_72 rfl rfl ?_
              refine ei_goto (tgt := 11) X dX10_isWornRow_75 (by decide) ?_
              have h9 := ih (k + 1) true (burnI J (hourB (n, w3, se3, sp, hr3, lt3, hd, sc, so, fi, wo3)) (wholeN w3 0 n)) (by omega) (by omega) (kI_tr hJ (kI_burn _ _ _)) (by rw [hv, allF_lt (by omega), hp, decide_eq_true ((i64_eq _ _).mp cq57), cq24]; simp)
              rw [e3] at h9
              exact h9
  refine ei_iconst (v := 1) X dX10_isWornRow_0 rfl ?_
  refine ei_istore X dX10_isWornRow_1 (Nat.le_of_ble_eq_true rfl) rfl ?_
  refine ei_aload_n X dX10_isWornRow_3 rfl rfl ?_
  refine ei_iload_n X dX10_isWornRow_4 rfl rfl ?_
  refine ei_callI X ml_RX10_204 dX10_isWornRow_5 (ct_X10_goHours _ _ _ _ _ _ _ _ _ _ _ _ _ _ _ fr h_S h_12 h_11 (by omega)) rfl rfl (by decide) (by decide) rfl (Nat.le_of_ble_eq_true rfl) (fun r h2 hp => ?_)
  obtain ⟨rfl, J5, h5, rfl⟩ := hp
  refine ei_iconst (v := 0) X dX10_isWornRow_8 rfl ?_
  refine ei_istore X dX10_isWornRow_9 (Nat.le_of_ble_eq_true rfl) rfl ?_
  exact L 101 0 true J5 (by omega) (by omega) h5 rfl

