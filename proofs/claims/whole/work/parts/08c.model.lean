/-- numbers of the reference that hours leave -/
def kI (I I' : Nat → Int32) : Prop := ∀ k, k ≠ 13 → I' k = I k
theorem kI_rf (I : Nat → Int32) : kI I I := fun _ _ => rfl
theorem kI_tr {I J K : Nat → Int32} (h1 : kI I J) (h2 : kI J K) : kI I K := fun k hk => (h2 k hk).trans (h1 k hk)
theorem kI_burn (I : Nat → Int32) (b : Bool) (g : Int32) : kI I (burnI I b g) := fun _ hk => burnI_off hk
set_option maxRecDepth 100000 in
set_option maxHeartbeats 4000000 in
theorem ct_X10_goHours (n : Nat) (w se sp hr lt hd sc : Int32) (so fi wo : Nat → Int32) (I : Nat → Int32) (A : Nat → Nat → Int32) (B : Nat → Nat → Int64) (K : Value) (m : Nat) (h_S : Good (n, w, se, sp, hr, lt, hd, sc, so, fi, wo)) (h_t : I 12 = 1) (h_c : I 11 = 0) (h_m : m < 1000) : e_Ct yX10_goHours cX10_goHours 3 none 6 [.ref 0, .int (nI m)] (mH (n, w, se, sp, hr, lt, hd, sc, so, fi, wo) (I, A, B, K)) (fun r h => r = none ∧ ∃ J, kI I J ∧ h = mH (hoursS (n, w, se, sp, hr, lt, hd, sc, so, fi, wo) m) (J, A, B, K)) := by
  refine e_open RX10 rfl (by decide +kernel) rfl (fun _ => Nat.le_of_ble_eq_true rfl) (fun x X F => ?_)
  have L : ∀ (k j : Nat) (w2 se2 hr2 lt2 : Int32) (r : Nat → Int32) (J : Nat → Int32), m - j < k → j < 1000 → hoursS (n, w, se, sp, hr, lt, hd, sc, so, fi, wo) m = itr (fun S _ => hourS S 1) (n, w2, se2, sp, hr2, lt2, hd, sc, so, fi, r) j (m - j) → Good (n, w2, se2, sp, hr2, lt2, hd, sc, so, fi, r) → kI I J → e_E x 2 [some (.ref 0), some (.int (nI m)), some (.int (nI j))] [] (mH (n, w2, se2, sp, hr2, lt2, hd, sc, so, fi, r) (J, A, B, K)) := by
    intro k
    induction k with
    | zero => intro j w2 se2 hr2 lt2 r J hk; exact absurd hk (Nat.not_lt_zero _)
    | succ k ih =>
      intro j w2 se2 hr2 lt2 r J hk hj hv hg hJ
      have j12 : J 12 = 1 := (hJ 12 (by decide)).trans h_t
      have j11 : J 11 = 0 := (hJ 11 (by decide)).trans h_c
      refine ei_iload_n X dX10_goHours_2 rfl rfl ?_
      refine ei_iload_n X dX10_goHours_3 rfl rfl ?_
      refine ei_icmpn_ge (tgt := 18) X dX10_goHours_4 (by decide) (by first | omega | assumption) (by first | omega | assumption) (fun cq4 => ?_) (fun cq4 => ?_)
      · refine ei_vreturn X F dX10_goHours_18 ?_
        exact ⟨rfl, J, hJ, by rw [hv, itr_ge _ _ cq4]⟩
      · refine ei_aload_n X dX10_goHours_7 rfl rfl ?_
        refine ei_callI1 X ml_RX10_134 dX10_goHours_8 (ct_X10_hourOn _ _ _ _ _ _ _ _ _ _ _ _ _ _ _ hg (Or.inl j12) j11) rfl rfl (by decide) (by decide) rfl (Nat.le_of_ble_eq_true rfl) ?_
        rw [j12]
        refine ei_pop X dX10_goHours_11 rfl ?_
        refine ei_iinc_n X dX10_goHours_12 rfl rfl ?_
        refine ei_goto (tgt := 2) X dX10_goHours_15 (by decide) ?_
        exact ih (j + 1) _ _ _ _ _ _ (by omega) (by omega) (by rw [hv, itr_lt _ _ (by omega)]; rfl) (good_hour hg (Or.inl rfl)) (kI_tr hJ (kI_burn _ _ _))
  refine ei_iconst (v := 0) X dX10_goHours_0 rfl ?_
  refine ei_istore_n X dX10_goHours_1 rfl (Nat.le_of_ble_eq_true rfl) rfl ?_
  exact L (m + 1) 0 w se hr lt wo I (by omega) (by omega) rfl h_S (kI_rf I)
set_option maxRecDepth 100000 in
set_option maxHeartbeats 4000000 in
theorem ct_X10_allWorn (n : Nat) (w se sp hr lt hd sc : Int32) (so fi wo : Nat → Int32) (I : Nat → Int32) (A : Nat → Nat → Int32) (B : Nat → Nat → Int64) (K : Value) (h_n : n ≤ 10) : e_Ct yX10_allWorn cX10_allWorn 3 (some .int) 1 [.ref 0] (mH (n, w, se, sp, hr, lt, hd, sc, so, fi, wo) (I, A, B, K)) (e_eq (some (.int (wornAll n wo))) (mH (n, w, se, sp, hr, lt, hd, sc, so, fi, wo) (I, A, B, K))) := by
  refine e_open RX10 rfl (by decide +kernel) rfl (fun _ => Nat.le_of_ble_eq_true rfl) (fun x X F => ?_)
  have L : ∀ (k j : Nat) (a : Int32), n - j < k → j ≤ 10 → wornAll n wo = itr (fun a b => a + wo b) a j (n - j) → e_E x 4 [some (.ref 0), some (.int a), some (.int (nI j))] [] (mH (n, w, se, sp, hr, lt, hd, sc, so, fi, wo) (I, A, B, K)) := by
    intro k
    induction k with
    | zero => intro j a hk; exact absurd hk (Nat.not_lt_zero _)
    | succ k ih =>
      intro j a hk hj hv
      refine ei_iload_n X dX10_allWorn_4 rfl rfl ?_
      refine ei_aload_n X dX10_allWorn_5 rfl rfl ?_
      refine ei_getf X fl_RX10_81 dX10_allWorn_6 rfl rfl ?_
      refine ei_icmpn_ge (tgt := 27) X dX10_allWorn_9 (by decide) (by first | omega | assumption) (by first | omega | assumption) (fun cq9 => ?_) (fun cq9 => ?_)
      · refine ei_iload_n X dX10_allWorn_27 rfl rfl ?_
        refine ei_ireturn X F dX10_allWorn_28 ?_
        exact ⟨by rw [hv, itr_ge _ _ cq9], rfl⟩
      · refine ei_iload_n X dX10_allWorn_12 rfl rfl ?_
        refine ei_aload_n X dX10_allWorn_13 rfl rfl ?_
        refine ei_getf X fl_RX10_16 dX10_allWorn_14 rfl rfl ?_
        refine ei_iload_n X dX10_allWorn_17 rfl rfl ?_
        refine ei_iaload_n X dX10_allWorn_18 rfl (by first | omega | assumption) (by decide) ?_
        refine ei_iadd X dX10_allWorn_19 ?_
        refine ei_istore_n X dX10_allWorn_20 rfl (Nat.le_of_ble_eq_true rfl) rfl ?_
        refine ei_iinc_n X dX10_allWorn_21 rfl rfl ?_
        refine ei_goto (tgt := 4) X dX10_allWorn_24 (by decide) ?_
        exact ih (j + 1) _ (by omega) (by omega) (by rw [hv, itr_lt _ _ (by omega)])
  refine ei_iconst (v := 0) X dX10_allWorn_0 rfl ?_
  refine ei_istore_n X dX10_allWorn_1 rfl (Nat.le_of_ble_eq_true rfl) rfl ?_
  refine ei_iconst (v := 0) X dX10_allWorn_2 rfl ?_
  refine ei_istore_n X dX10_allWorn_3 rfl (Nat.le_of_ble_eq_true rfl) rfl ?_
  exact L (n + 1) 0 0 (by omega) (by omega) rfl
def tookF (t i j : Int32) : Int32 := if t = 0 then 2 else if t = 1 then 1 else if t = 2 then 3 + j - i else if t = 3 then 6 + 2 * (j - i) else 8
set_option maxRecDepth 100000 in
set_option maxHeartbeats 4000000 in
theorem ct_X10_tookBy (h : List eC) (t i j : Int32) : e_Ct yX10_tookBy cX10_tookBy 3 (some .int) 1 [.int t, .int i, .int j] h (e_eq (some (.int (tookF t i j))) h) := by
  refine e_open RX10 rfl (by decide +kernel) rfl (fun _ => Nat.le_of_ble_eq_true rfl) (fun x X F => ?_)
  refine ei_iload_n X dX10_tookBy_0 rfl rfl ?_
  refine ei_table [(0, 32), (1, 34), (2, 36), (3, 42)] 51 X dX10_tookBy_1 (by decide) (by decide) (by decide) ⟨fun cq1 => ?_, fun cq1 => ?_, fun cq1 => ?_, fun cq1 => ?_, trivial⟩ (fun cq1 => ?_)
  · refine ei_iconst (v := 2) X dX10_tookBy_32 rfl ?_
    refine ei_ireturn X F dX10_tookBy_33 ?_
    exact ⟨by simp_all [tookF, e_tn], rfl⟩
  · refine ei_iconst (v := 1) X dX10_tookBy_34 rfl ?_
    refine ei_ireturn X F dX10_tookBy_35 ?_
    exact ⟨by simp_all [tookF, e_tn], rfl⟩
  · refine ei_iconst (v := 3) X dX10_tookBy_36 rfl ?_
    refine ei_iload_n X dX10_tookBy_37 rfl rfl ?_
    refine ei_iadd X dX10_tookBy_38 ?_
    refine ei_iload_n X dX10_tookBy_39 rfl rfl ?_
    refine ei_isub X dX10_tookBy_40 ?_
    refine ei_ireturn X F dX10_tookBy_41 ?_
    exact ⟨by simp_all [tookF, e_tn], rfl⟩
  · refine ei_bipush (v := 6) X dX10_tookBy_42 rfl ?_
    refine ei_iconst (v := 2) X dX10_tookBy_44 rfl ?_
    refine ei_iload_n X dX10_tookBy_45 rfl rfl ?_
    refine ei_iload_n X dX10_tookBy_46 rfl rfl ?_
    refine ei_isub X dX10_tookBy_47 ?_
    refine ei_imul X dX10_tookBy_48 ?_
    refine ei_iadd X dX10_tookBy_49 ?_
    refine ei_ireturn X F dX10_tookBy_50 ?_
    exact ⟨by simp_all [tookF, e_tn], rfl⟩
  · refine ei_bipush (v := 8) X dX10_tookBy_51 rfl ?_
    refine ei_ireturn X F dX10_tookBy_53 ?_
    exact ⟨by simp_all [tookF, e_tn], rfl⟩
theorem far_abs {a b : Int32} (h1 : Gd1 a 9) (h2 : Gd1 b 9) : farF a b = absF (a - b) ∧ Gd1 (absF (a - b)) 9 := by
  obtain ⟨k, hk, rfl⟩ := i32_of (m := 9) (by decide) h1
  obtain ⟨j, hj, rfl⟩ := i32_of (m := 9) (by decide) h2
  have key : ∀ k, k ≤ 9 → ∀ j, j ≤ 9 → farF (nI k) (nI j) = absF (nI k - nI j) ∧ Gd1 (absF (nI k - nI j)) 9 := by unfold Gd1 farF absF; decide +kernel
  exact key k hk j hj
theorem took_alt (hd t : Int32) {i j : Nat} (hi : i ≤ j) (hj : j < 10) (h1 : Gd1 hd 9) (sc : Int32) : sc + tookF t (nI i) (nI j) + farF hd (nI i) = sc + toolT hd t (nI i) (nI j) := by
  have h2 : Gd1 (nI i) 9 := ⟨by rw [nI_toInt (by omega)]; omega, by rw [nI_toInt (by omega)]; omega⟩
  rw [(far_abs h1 h2).1, Int32.add_assoc]
  congr 1
  unfold tookF toolT wireF tryF
  have e : 3 + nI j - nI i = 3 + (nI j - nI i) := by rw [Int32.sub_eq_add_neg, Int32.sub_eq_add_neg, Int32.add_assoc]
  rw [e]
  split
  · rfl
  split
  · rfl
  split
  · rfl
  split
  · rfl
  · rfl
theorem sum_gd {a b : Int32} {m1 m2 : Int} (h1 : Gd1 a m1) (h2 : Gd1 b m2) (h3 : m1 ≤ 100000) (h4 : m2 ≤ 100000) : Gd1 (a + b) (m1 + m2) := by
  obtain ⟨a1, a2⟩ := h1
  obtain ⟨b1, b2⟩ := h2
  unfold Gd1
  rw [i32_add (by omega) (by omega) (by omega) (by omega)]
  omega
theorem tool_gd {hd t : Int32} {i j : Nat} (hi : i ≤ j) (hj : j < 10) (h1 : Gd1 hd 9) : Gd1 (toolT hd t (nI i) (nI j)) 100 := by
  have gi : Gd1 (nI i) 9 := ⟨by rw [nI_toInt (by omega)]; omega, by rw [nI_toInt (by omega)]; omega⟩
  have e := (far_abs h1 gi).2
  have key1 : ∀ i, i < 10 → ∀ j, j < 10 → i ≤ j → Gd1 (3 + (nI j - nI i)) 12 := by unfold Gd1; decide +kernel
  have key2 : ∀ i, i < 10 → ∀ j, j < 10 → i ≤ j → Gd1 (wireF (nI i) (nI j)) 24 := by unfold Gd1 wireF; decide +kernel
  have up : ∀ {v : Int32} {m : Int}, Gd1 v m → m ≤ 100 → Gd1 v 100 := fun h q => ⟨h.1, by have := h.2; omega⟩
  have c : ∀ v : Int32, Gd1 v 8 → Gd1 (v + absF (hd - nI i)) 100 := fun v h => up (sum_gd h e (by decide) (by decide)) (by decide)
  unfold toolT
  split
  · exact c 2 ⟨by decide, by decide⟩
  split
  · exact c 1 ⟨by decide, by decide⟩
  split
  · exact up (sum_gd (key1 i (by omega) j hj hi) e (by decide) (by decide)) (by decide)
  split
  · exact up (sum_gd (key2 i (by omega) j hj hi) e (by decide) (by decide)) (by decide)
  · exact c 8 ⟨by decide, by decide⟩
set_option maxRecDepth 100000 in
set_option maxHeartbeats 4000000 in
theorem ct_X10_tellsBy (n : Nat) (w se sp hr lt hd sc : Int32) (so fi wo : Nat → Int32) (I : Nat → Int32) (A : Nat → Nat → Int32) (B : Nat → Nat → Int64) (K : Value) (t : Int32) (i j : Nat) (h_S : Good (n, w, se, sp, hr, lt, hd, sc, so, fi, wo)) (h_i : i ≤ j) (h_j : j < n) : e_Ct yX10_tellsBy cX10_tellsBy 5 (some .boolean) 4 [.ref 0, .int t, .int (nI i), .int (nI j)] (mH (n, w, se, sp, hr, lt, hd, sc, so, fi, wo) (I, A, B, K)) (e_eq (some (.int (bz (tellsF (n, w, useE t se i, sp, hr, lt, hd, sc, so, fi, wo) t i j)))) (mH (n, w, useE t se i, sp, hr, lt, hd, sc, so, fi, wo) (I, A, B, K))) := by
  refine e_open RX10 rfl (by decide +kernel) rfl (fun _ => Nat.le_of_ble_eq_true rfl) (fun x X F => ?_)
  have hn : n ≤ 10 := h_S.1
  refine ei_aload_n X dX10_tellsBy_0 rfl rfl ?_
  refine ei_getf X fl_RX10_105 dX10_tellsBy_1 rfl rfl ?_
  refine ei_iconst (v := 1) X dX10_tellsBy_4 rfl ?_
  refine ei_iadd X dX10_tellsBy_5 ?_
  refine ei_istore X dX10_tellsBy_6 (Nat.le_of_ble_eq_true rfl) rfl ?_
  refine ei_iload_n X dX10_tellsBy_8 rfl rfl ?_
  refine ei_table [(0, 40), (1, 46), (2, 70), (3, 81)] 114 X dX10_tellsBy_9 (by decide) (by decide) (by decide) ⟨fun cq9 => ?_, fun cq9 => ?_, fun cq9 => ?_, fun cq9 => ?_, trivial⟩ (fun cq9 => ?_)
  · refine ei_aload_n X dX10_tellsBy_40 rfl rfl ?_
    refine ei_iload_n X dX10_tellsBy_41 rfl rfl ?_
    refine ei_callI1 X ml_RX10_138 dX10_tellsBy_42 (ct_X10_isBrown _ _ _ _ _ _ _ _ _ _ _ _ _ _ _ _ (by first | omega | assumption) (by first | omega | assumption)) rfl rfl (by decide) (by decide) rfl (Nat.le_of_ble_eq_true rfl) ?_
    refine ei_zreturn X F dX10_tellsBy_45 (bz_nar _) ?_
    exact ⟨by simp_all [tellsF, useE, e_tn, sN, sW, sE, sP, sH, sL, sD, sC, sO, sG, sR, bz_t, bz_f], by simp_all [useE, e_tn]⟩
  · refine ei_aload_n X dX10_tellsBy_46 rfl rfl ?_
    refine ei_dup X dX10_tellsBy_47 rfl ?_
    refine ei_getf X fl_RX10_95 dX10_tellsBy_48 rfl rfl ?_
    refine ei_iconst (v := 1) X dX10_tellsBy_51 rfl ?_
    refine ei_iload_n X dX10_tellsBy_52 rfl rfl ?_
    refine ei_ishl X dX10_tellsBy_53 ?_
    refine ei_ior X dX10_tellsBy_54 ?_
    refine ei_puti X fp_RX10_95 dX10_tellsBy_55 rfl (Nat.le_of_ble_eq_true rfl) (pm_5 _ _ _ _ _ _ _ _ _ _ _ _ _ _ _ _) ?_
    refine ei_aload_n X dX10_tellsBy_58 rfl rfl ?_
    refine ei_iconst (v := 0) X dX10_tellsBy_59 rfl ?_
    refine ei_aload_n X dX10_tellsBy_60 rfl rfl ?_
    refine ei_getf X fl_RX10_81 dX10_tellsBy_61 rfl rfl ?_
    refine ei_iload X dX10_tellsBy_64 rfl ?_
    refine ei_callI1 X ml_RX10_108 dX10_tellsBy_66 (ct_X10_allLead _ _ _ _ _ _ _ _ _ _ _ _ _ _ _ 0 _ _ (by omega) (by omega) (show Good (n, w, se ||| bitI i, sp, hr, lt, hd, sc, so, fi, wo) from ⟨h_S.1, h_S.2.1, h_S.2.2.1, h_S.2.2.2.1, h_S.2.2.2.2.1, h_S.2.2.2.2.2.1, h_S.2.2.2.2.2.2.1, h_S.2.2.2.2.2.2.2.1, h_S.2.2.2.2.2.2.2.2.1, gd_or h_S.2.2.2.2.2.2.2.2.2 (by omega)⟩)) rfl rfl (by decide) (by decide) rfl (Nat.le_of_ble_eq_true rfl) ?_
    refine ei_zreturn X F dX10_tellsBy_69 (bz_nar _) ?_
    exact ⟨by simp_all [tellsF, useE, e_tn, sN, sW, sE, sP, sH, sL, sD, sC, sO, sG, sR, bz_t, bz_f], by simp_all [useE, e_tn]⟩
  · refine ei_aload_n X dX10_tellsBy_70 rfl rfl ?_
    refine ei_iload_n X dX10_tellsBy_71 rfl rfl ?_
    refine ei_iload_n X dX10_tellsBy_72 rfl rfl ?_
    refine ei_iconst (v := 1) X dX10_tellsBy_73 rfl ?_
    refine ei_iadd X dX10_tellsBy_74 ?_
    rw [nI_1]
    refine ei_iload X dX10_tellsBy_75 rfl ?_
    refine ei_callI1 X ml_RX10_108 dX10_tellsBy_77 (ct_X10_allLead _ _ _ _ _ _ _ _ _ _ _ _ _ _ _ _ _ _ (by first | omega | assumption) (by first | omega | assumption) (by first | omega | assumption)) rfl rfl (by decide) (by decide) rfl (Nat.le_of_ble_eq_true rfl) ?_
    refine ei_zreturn X F dX10_tellsBy_80 (bz_nar _) ?_
    exact ⟨by simp_all [tellsF, useE, e_tn, sN, sW, sE, sP, sH, sL, sD, sC, sO, sG, sR, bz_t, bz_f], by simp_all [useE, e_tn]⟩
  · refine ei_aload_n X dX10_tellsBy_81 rfl rfl ?_
    refine ei_iconst (v := 0) X dX10_tellsBy_82 rfl ?_
    refine ei_iload_n X dX10_tellsBy_83 rfl rfl ?_
    refine ei_iload X dX10_tellsBy_84 rfl ?_
    refine ei_callI1 X ml_RX10_108 dX10_tellsBy_86 (ct_X10_allLead _ _ _ _ _ _ _ _ _ _ _ _ _ _ _ 0 _ _ (by omega) (by omega) h_S) rfl rfl (by decide) (by decide) rfl (Nat.le_of_ble_eq_true rfl) ?_
    refine ei_ifz_eq (tgt := 112) X dX10_tellsBy_89 (by decide) (fun cq89 => ?_) (fun cq89 => ?_)
    · refine ei_iconst (v := 0) X dX10_tellsBy_112 rfl ?_
      refine ei_zreturn X F dX10_tellsBy_113 (by decide) ?_
      exact ⟨by simp_all [tellsF, useE, e_tn, sN, sW, sE, sP, sH, sL, sD, sC, sO, sG, sR, bz_t, bz_f], by simp_all [useE, e_tn]⟩
    · refine ei_aload_n X dX10_tellsBy_92 rfl rfl ?_
      refine ei_iload_n X dX10_tellsBy_93 rfl rfl ?_
      refine ei_iconst (v := 1) X dX10_tellsBy_94 rfl ?_
      refine ei_iadd X dX10_tellsBy_95 ?_
      rw [nI_1]
      refine ei_aload_n X dX10_tellsBy_96 rfl rfl ?_
      refine ei_getf X fl_RX10_81 dX10_tellsBy_97 rfl rfl ?_
      refine ei_iload X dX10_tellsBy_100 rfl ?_
      refine ei_callI1 X ml_RX10_108 dX10_tellsBy_102 (ct_X10_allLead _ _ _ _ _ _ _ _ _ _ _ _ _ _ _ _ _ _ (by first | omega | assumption) (by first | omega | assumption) (by first | omega | assumption)) rfl rfl (by decide) (by decide) rfl (Nat.le_of_ble_eq_true rfl) ?_
      refine ei_ifz_eq (tgt := 112) X dX10_tellsBy_105 (by decide) (fun cq105 => ?_) (fun cq105 => ?_)
      · refine ei_iconst (v := 0) X dX10_tellsBy_112 rfl ?_
        refine ei_zreturn X F dX10_tellsBy_113 (by decide) ?_
        exact ⟨by simp_all [tellsF, useE, e_tn, sN, sW, sE, sP, sH, sL, sD, sC, sO, sG, sR, bz_t, bz_f], by simp_all [useE, e_tn]⟩
      · refine ei_iconst (v := 1) X dX10_tellsBy_108 rfl ?_
        refine ei_goto (tgt := 113) X dX10_tellsBy_109 (by decide) ?_
        refine ei_zreturn X F dX10_tellsBy_113 (by decide) ?_
        exact ⟨by simp_all [tellsF, useE, e_tn, sN, sW, sE, sP, sH, sL, sD, sC, sO, sG, sR, bz_t, bz_f], by simp_all [useE, e_tn]⟩
  · refine ei_aload_n X dX10_tellsBy_114 rfl rfl ?_
    refine ei_iconst (v := 0) X dX10_tellsBy_115 rfl ?_
    refine ei_iload_n X dX10_tellsBy_116 rfl rfl ?_
    refine ei_iload X dX10_tellsBy_117 rfl ?_
    refine ei_callI1 X ml_RX10_108 dX10_tellsBy_119 (ct_X10_allLead _ _ _ _ _ _ _ _ _ _ _ _ _ _ _ 0 _ _ (by omega) (by omega) h_S) rfl rfl (by decide) (by decide) rfl (Nat.le_of_ble_eq_true rfl) ?_
    refine ei_ifz_eq (tgt := 145) X dX10_tellsBy_122 (by decide) (fun cq122 => ?_) (fun cq122 => ?_)
    · refine ei_iconst (v := 0) X dX10_tellsBy_145 rfl ?_
      refine ei_zreturn X F dX10_tellsBy_146 (by decide) ?_
      exact ⟨by simp_all [tellsF, useE, e_tn, sN, sW, sE, sP, sH, sL, sD, sC, sO, sG, sR, bz_t, bz_f], by simp_all [useE, e_tn]⟩
    · refine ei_aload_n X dX10_tellsBy_125 rfl rfl ?_
      refine ei_iload_n X dX10_tellsBy_126 rfl rfl ?_
      refine ei_iconst (v := 1) X dX10_tellsBy_127 rfl ?_
      refine ei_iadd X dX10_tellsBy_128 ?_
      rw [nI_1]
      refine ei_aload_n X dX10_tellsBy_129 rfl rfl ?_
      refine ei_getf X fl_RX10_81 dX10_tellsBy_130 rfl rfl ?_
      refine ei_iload X dX10_tellsBy_133 rfl ?_
      refine ei_callI1 X ml_RX10_108 dX10_tellsBy_135 (ct_X10_allLead _ _ _ _ _ _ _ _ _ _ _ _ _ _ _ _ _ _ (by first | omega | assumption) (by first | omega | assumption) (by first | omega | assumption)) rfl rfl (by decide) (by decide) rfl (Nat.le_of_ble_eq_true rfl) ?_
      refine ei_ifz_eq (tgt := 145) X dX10_tellsBy_138 (by decide) (fun cq138 => ?_) (fun cq138 => ?_)
      · refine ei_iconst (v := 0) X dX10_tellsBy_145 rfl ?_
        refine ei_zreturn X F dX10_tellsBy_146 (by decide) ?_
        exact ⟨by simp_all [tellsF, useE, e_tn, sN, sW, sE, sP, sH, sL, sD, sC, sO, sG, sR, bz_t, bz_f], by simp_all [useE, e_tn]⟩
      · refine ei_iconst (v := 1) X dX10_tellsBy_141 rfl ?_
        refine ei_goto (tgt := 146) X dX10_tellsBy_142 (by decide) ?_
        refine ei_zreturn X F dX10_tellsBy_146 (by decide) ?_
        exact ⟨by simp_all [tellsF, useE, e_tn, sN, sW, sE, sP, sH, sL, sD, sC, sO, sG, sR, bz_t, bz_f], by simp_all [useE, e_tn]⟩
set_option maxRecDepth 100000 in
set_option maxHeartbeats 4000000 in
theorem ct_X10_usedOn (n : Nat) (w se sp hr lt hd sc : Int32) (so fi wo : Nat → Int32) (I : Nat → Int32) (A : Nat → Nat → Int32) (B : Nat → Nat → Int64) (K : Value) (t : Int32) (i j : Nat) (h_S : Good (n, w, se, sp, hr, lt, hd, sc, so, fi, wo)) (h_i : i ≤ j) (h_j : j < n) : e_Ct yX10_usedOn cX10_usedOn 4 (some .int) 5 [.ref 0, .int t, .int (nI i), .int (nI j)] (mH (n, w, se, sp, hr, lt, hd, sc, so, fi, wo) (I, A, B, K)) (e_eq (some (.int (bz (useB (n, w, se, sp, hr, lt, hd, sc, so, fi, wo) t i j)))) (mH (useS (n, w, se, sp, hr, lt, hd, sc, so, fi, wo) t i j) (I, A, B, K))) := by
  refine e_open RX10 rfl (by decide +kernel) rfl (fun _ => Nat.le_of_ble_eq_true rfl) (fun x X F => ?_)
  have hn : n ≤ 10 := h_S.1
  have e1 := took_alt hd t h_i (by omega) h_S.2.2.2.2.2.2.2.1 sc
  have e2 := sum_gd h_S.2.2.2.2.2.1 (tool_gd (t := t) h_i (by omega : j < 10) h_S.2.2.2.2.2.2.2.1) (by decide) (by decide)
  have g1 : ∀ v, Gd1 v 9 → Good (n, w, se, sp, hr, lt, v, min9 (sc + toolT hd t (nI i) (nI j)) 9999, so, fi, wo) := fun v hv => ⟨h_S.1, h_S.2.1, h_S.2.2.1, h_S.2.2.2.1, h_S.2.2.2.2.1, min9s_gd e2.1, h_S.2.2.2.2.2.2.1, hv, h_S.2.2.2.2.2.2.2.2.1, h_S.2.2.2.2.2.2.2.2.2⟩
  have gi : Gd1 (nI i) 9 := ⟨by rw [nI_toInt (by omega)]; omega, by rw [nI_toInt (by omega)]; omega⟩
  have gj : Gd1 (nI j) 9 := ⟨by rw [nI_toInt (by omega)]; omega, by rw [nI_toInt (by omega)]; omega⟩
  refine ei_aload_n X dX10_usedOn_0 rfl rfl ?_
  refine ei_aload_n X dX10_usedOn_1 rfl rfl ?_
  refine ei_getf X fl_RX10_142 dX10_usedOn_2 rfl rfl ?_
  refine ei_iload_n X dX10_usedOn_5 rfl rfl ?_
  refine ei_iload_n X dX10_usedOn_6 rfl rfl ?_
  refine ei_iload_n X dX10_usedOn_7 rfl rfl ?_
  refine ei_callT1 X ml_RX10_145 dX10_usedOn_8 (ct_X10_tookBy _ _ _ _) rfl rfl (by decide) (by decide) (Nat.le_of_ble_eq_true rfl) ?_
  refine ei_iadd X dX10_usedOn_11 ?_
  refine ei_aload_n X dX10_usedOn_12 rfl rfl ?_
  refine ei_getf X fl_RX10_149 dX10_usedOn_13 rfl rfl ?_
  refine ei_iload_n X dX10_usedOn_16 rfl rfl ?_
  refine ei_callT1 X ml_RX10_152 dX10_usedOn_17 (ct_X10_far _ _ _) rfl rfl (by decide) (by decide) (Nat.le_of_ble_eq_true rfl) ?_
  refine ei_iadd X dX10_usedOn_20 ?_
  refine ei_sipush (v := 9999) X dX10_usedOn_21 rfl ?_
  refine ei_callT1 X ml_RX10_122 dX10_usedOn_24 (ct_X10_held _ _ _) rfl rfl (by decide) (by decide) (Nat.le_of_ble_eq_true rfl) ?_
  rw [e1, heldF_pos e2.1]
  refine ei_puti X fp_RX10_142 dX10_usedOn_27 rfl (Nat.le_of_ble_eq_true rfl) (pm_10 _ _ _ _ _ _ _ _ _ _ _ _ _ _ _ _) ?_
  refine ei_aload_n X dX10_usedOn_30 rfl rfl ?_
  refine ei_iload_n X dX10_usedOn_31 rfl rfl ?_
  refine ei_iconst (v := 2) X dX10_usedOn_32 rfl ?_
  refine ei_icmp_eq (tgt := 41) X dX10_usedOn_33 (by decide) (fun cq33 => ?_) (fun cq33 => ?_)
  · refine ei_iload_n X dX10_usedOn_41 rfl rfl ?_
    refine ei_goto (tgt := 46) X dX10_usedOn_42 (by decide) ?_
    refine ei_puti X fp_RX10_149 dX10_usedOn_46 rfl (Nat.le_of_ble_eq_true rfl) (pm_9 _ _ _ _ _ _ _ _ _ _ _ _ _ _ _ _) ?_
    refine ei_aload_n X dX10_usedOn_49 rfl rfl ?_
    refine ei_iload_n X dX10_usedOn_50 rfl rfl ?_
    refine ei_iload_n X dX10_usedOn_51 rfl rfl ?_
    refine ei_iload_n X dX10_usedOn_52 rfl rfl ?_
    refine ei_callI1 X ml_RX10_155 dX10_usedOn_53 (ct_X10_tellsBy _ _ _ _ _ _ _ _ _ _ _ _ _ _ _ _ _ _ (by first | exact g1 _ gi | exact g1 _ gj) h_i h_j) rfl rfl (by decide) (by decide) rfl (Nat.le_of_ble_eq_true rfl) ?_
    refine ei_ifz_eq (tgt := 63) X dX10_usedOn_56 (by decide) (fun cq56 => ?_) (fun cq56 => ?_)
    · refine ei_iconst (v := 0) X dX10_usedOn_63 rfl ?_
      refine ei_ireturn X F dX10_usedOn_64 ?_
      exact ⟨by simp_all [useB, useS, useD, sN, sW, sE, sP, sH, sL, sD, sC, sO, sG, sR, bz_t, bz_f], by simp_all [useS, useD, sN, sW, sE, sP, sH, sL, sD, sC, sO, sG, sR]⟩
    · refine ei_iconst (v := 1) X dX10_usedOn_59 rfl ?_
      refine ei_goto (tgt := 64) X dX10_usedOn_60 (by decide) ?_
      refine ei_ireturn X F dX10_usedOn_64 ?_
      exact ⟨by simp_all [useB, useS, useD, sN, sW, sE, sP, sH, sL, sD, sC, sO, sG, sR, bz_t, bz_f], by simp_all [useS, useD, sN, sW, sE, sP, sH, sL, sD, sC, sO, sG, sR]⟩
  · refine ei_iload_n X dX10_usedOn_36 rfl rfl ?_
    refine ei_iconst (v := 3) X dX10_usedOn_37 rfl ?_
    refine ei_icmp_ne (tgt := 45) X dX10_usedOn_38 (by decide) (fun cq38 => ?_) (fun cq38 => ?_)
    · refine ei_iload_n X dX10_usedOn_45 rfl rfl ?_
      refine ei_puti X fp_RX10_149 dX10_usedOn_46 rfl (Nat.le_of_ble_eq_true rfl) (pm_9 _ _ _ _ _ _ _ _ _ _ _ _ _ _ _ _) ?_
      refine ei_aload_n X dX10_usedOn_49 rfl rfl ?_
      refine ei_iload_n X dX10_usedOn_50 rfl rfl ?_
      refine ei_iload_n X dX10_usedOn_51 rfl rfl ?_
      refine ei_iload_n X dX10_usedOn_52 rfl rfl ?_
      refine ei_callI1 X ml_RX10_155 dX10_usedOn_53 (ct_X10_tellsBy _ _ _ _ _ _ _ _ _ _ _ _ _ _ _ _ _ _ (by first | exact g1 _ gi | exact g1 _ gj) h_i h_j) rfl rfl (by decide) (by decide) rfl (Nat.le_of_ble_eq_true rfl) ?_
      refine ei_ifz_eq (tgt := 63) X dX10_usedOn_56 (by decide) (fun cq56 => ?_) (fun cq56 => ?_)
      · refine ei_iconst (v := 0) X dX10_usedOn_63 rfl ?_
        refine ei_ireturn X F dX10_usedOn_64 ?_
        exact ⟨by simp_all [useB, useS, useD, sN, sW, sE, sP, sH, sL, sD, sC, sO, sG, sR, bz_t, bz_f], by simp_all [useS, useD, sN, sW, sE, sP, sH, sL, sD, sC, sO, sG, sR]⟩
      · refine ei_iconst (v := 1) X dX10_usedOn_59 rfl ?_
        refine ei_goto (tgt := 64) X dX10_usedOn_60 (by decide) ?_
        refine ei_ireturn X F dX10_usedOn_64 ?_
        exact ⟨by simp_all [useB, useS, useD, sN, sW, sE, sP, sH, sL, sD, sC, sO, sG, sR, bz_t, bz_f], by simp_all [useS, useD, sN, sW, sE, sP, sH, sL, sD, sC, sO, sG, sR]⟩
    · refine ei_iload_n X dX10_usedOn_41 rfl rfl ?_
      refine ei_goto (tgt := 46) X dX10_usedOn_42 (by decide) ?_
      refine ei_puti X fp_RX10_149 dX10_usedOn_46 rfl (Nat.le_of_ble_eq_true rfl) (pm_9 _ _ _ _ _ _ _ _ _ _ _ _ _ _ _ _) ?_
      refine ei_aload_n X dX10_usedOn_49 rfl rfl ?_
      refine ei_iload_n X dX10_usedOn_50 rfl rfl ?_
      refine ei_iload_n X dX10_usedOn_51 rfl rfl ?_
      refine ei_iload_n X dX10_usedOn_52 rfl rfl ?_
      refine ei_callI1 X ml_RX10_155 dX10_usedOn_53 (ct_X10_tellsBy _ _ _ _ _ _ _ _ _ _ _ _ _ _ _ _ _ _ (by first | exact g1 _ gi | exact g1 _ gj) h_i h_j) rfl rfl (by decide) (by decide) rfl (Nat.le_of_ble_eq_true rfl) ?_
      refine ei_ifz_eq (tgt := 63) X dX10_usedOn_56 (by decide) (fun cq56 => ?_) (fun cq56 => ?_)
      · refine ei_iconst (v := 0) X dX10_usedOn_63 rfl ?_
        refine ei_ireturn X F dX10_usedOn_64 ?_
        exact ⟨by simp_all [useB, useS, useD, sN, sW, sE, sP, sH, sL, sD, sC, sO, sG, sR, bz_t, bz_f], by simp_all [useS, useD, sN, sW, sE, sP, sH, sL, sD, sC, sO, sG, sR]⟩
      · refine ei_iconst (v := 1) X dX10_usedOn_59 rfl ?_
        refine ei_goto (tgt := 64) X dX10_usedOn_60 (by decide) ?_
        refine ei_ireturn X F dX10_usedOn_64 ?_
        exact ⟨by simp_all [useB, useS, useD, sN, sW, sE, sP, sH, sL, sD, sC, sO, sG, sR, bz_t, bz_f], by simp_all [useS, useD, sN, sW, sE, sP, sH, sL, sD, sC, sO, sG, sR]⟩
set_option maxRecDepth 100000 in
set_option maxHeartbeats 4000000 in
theorem ct_X10_becomesSpare (n : Nat) (w se sp hr lt hd sc : Int32) (so fi wo : Nat → Int32) (I : Nat → Int32) (A : Nat → Nat → Int32) (B : Nat → Nat → Int64) (K : Value) (b : Nat) (h_b : b < 10) : e_Ct yX10_becomesSpare cX10_becomesSpare 2 none 1 [.ref 0, .int (nI b)] (mH (n, w, se, sp, hr, lt, hd, sc, so, fi, wo) (I, A, B, K)) (e_eq none (mH (n, w ||| bitI b, se ||| bitI b, sp, hr, lt, hd, sc, upd so b 6, upd fi b 5, upd wo b 0) (I, A, B, K))) := by
  refine e_open RX10 rfl (by decide +kernel) rfl (fun _ => Nat.le_of_ble_eq_true rfl) (fun x X F => ?_)
  refine ei_aload_n X dX10_becomesSpare_0 rfl rfl ?_
  refine ei_getf X fl_RX10_7 dX10_becomesSpare_1 rfl rfl ?_
  refine ei_iload_n X dX10_becomesSpare_4 rfl rfl ?_
  refine ei_bipush (v := 6) X dX10_becomesSpare_5 rfl ?_
  refine ei_iastore_n X dX10_becomesSpare_7 rfl (by first | omega | assumption) (by decide) (pm_r1 _ _ _ _ _ _ _ _ _ _ _ _ _ _ _ _) ?_
  refine ei_aload_n X dX10_becomesSpare_8 rfl rfl ?_
  refine ei_getf X fl_RX10_13 dX10_becomesSpare_9 rfl rfl ?_
  refine ei_iload_n X dX10_becomesSpare_12 rfl rfl ?_
  refine ei_iconst (v := 5) X dX10_becomesSpare_13 rfl ?_
  refine ei_iastore_n X dX10_becomesSpare_14 rfl (by first | omega | assumption) (by decide) (pm_r2 _ _ _ _ _ _ _ _ _ _ _ _ _ _ _ _) ?_
  refine ei_aload_n X dX10_becomesSpare_15 rfl rfl ?_
  refine ei_getf X fl_RX10_16 dX10_becomesSpare_16 rfl rfl ?_
  refine ei_iload_n X dX10_becomesSpare_19 rfl rfl ?_
  refine ei_iconst (v := 0) X dX10_becomesSpare_20 rfl ?_
  refine ei_iastore_n X dX10_becomesSpare_21 rfl (by first | omega | assumption) (by decide) (pm_r3 _ _ _ _ _ _ _ _ _ _ _ _ _ _ _ _) ?_
  refine ei_aload_n X dX10_becomesSpare_22 rfl rfl ?_
  refine ei_dup X dX10_becomesSpare_23 rfl ?_
  refine ei_getf X fl_RX10_88 dX10_becomesSpare_24 rfl rfl ?_
  refine ei_iconst (v := 1) X dX10_becomesSpare_27 rfl ?_
  refine ei_iload_n X dX10_becomesSpare_28 rfl rfl ?_
  refine ei_ishl X dX10_becomesSpare_29 ?_
  refine ei_ior X dX10_becomesSpare_30 ?_
  refine ei_puti X fp_RX10_88 dX10_becomesSpare_31 rfl (Nat.le_of_ble_eq_true rfl) (pm_4 _ _ _ _ _ _ _ _ _ _ _ _ _ _ _ _) ?_
  refine ei_aload_n X dX10_becomesSpare_34 rfl rfl ?_
  refine ei_dup X dX10_becomesSpare_35 rfl ?_
  refine ei_getf X fl_RX10_95 dX10_becomesSpare_36 rfl rfl ?_
  refine ei_iconst (v := 1) X dX10_becomesSpare_39 rfl ?_
  refine ei_iload_n X dX10_becomesSpare_40 rfl rfl ?_
  refine ei_ishl X dX10_becomesSpare_41 ?_
  refine ei_ior X dX10_becomesSpare_42 ?_
  refine ei_puti X fp_RX10_95 dX10_becomesSpare_43 rfl (Nat.le_of_ble_eq_true rfl) (pm_5 _ _ _ _ _ _ _ _ _ _ _ _ _ _ _ _) ?_
  refine ei_vreturn X F dX10_becomesSpare_46 ?_
  exact ⟨rfl, rfl⟩
set_option maxRecDepth 100000 in
set_option maxHeartbeats 4000000 in
theorem ct_X10_twisted (n : Nat) (w se sp hr lt hd sc : Int32) (so fi wo : Nat → Int32) (I : Nat → Int32) (A : Nat → Nat → Int32) (B : Nat → Nat → Int64) (K : Value) (b : Nat) (h_b : b < 10) (h_S : Good (n, w, se, sp, hr, lt, hd, sc, so, fi, wo)) : e_Ct yX10_twisted cX10_twisted 3 (some .int) 2 [.ref 0, .int (nI b)] (mH (n, w, se, sp, hr, lt, hd, sc, so, fi, wo) (I, A, B, K)) (e_eq (some (.int (tryF hd (nI b)))) (mH (n, w ||| bitI b, se ||| bitI b, sp - 1, hr, lt, nI b, min9 (sc + tryF hd (nI b)) 9999, upd so b 6, upd fi b 5, upd wo b 0) (I, A, B, K))) := by
  refine e_open RX10 rfl (by decide +kernel) rfl (fun _ => Nat.le_of_ble_eq_true rfl) (fun x X F => ?_)
  have gb : Gd1 (nI b) 9 := ⟨by rw [nI_toInt (by omega)]; omega, by rw [nI_toInt (by omega)]; omega⟩
  have e0 := far_abs h_S.2.2.2.2.2.2.2.1 gb
  have e1 : 8 + farF hd (nI b) = tryF hd (nI b) := by rw [show farF hd (nI b) = absF (hd - nI b) from e0.1]; rfl
  have e2 : 0 ≤ (sc + tryF hd (nI b)).toInt := (sum_gd h_S.2.2.2.2.2.1 (sum_gd (a := 8) (m1 := 8) ⟨by decide, by decide⟩ e0.2 (by decide) (by decide)) (by decide) (by decide)).1
  refine ei_bipush (v := 8) X dX10_twisted_0 rfl ?_
  refine ei_aload_n X dX10_twisted_2 rfl rfl ?_
  refine ei_getf X fl_RX10_149 dX10_twisted_3 rfl rfl ?_
  refine ei_iload_n X dX10_twisted_6 rfl rfl ?_
  refine ei_callT1 X ml_RX10_152 dX10_twisted_7 (ct_X10_far _ _ _) rfl rfl (by decide) (by decide) (Nat.le_of_ble_eq_true rfl) ?_
  refine ei_iadd X dX10_twisted_10 ?_
  rw [e1]
  refine ei_istore_n X dX10_twisted_11 rfl (Nat.le_of_ble_eq_true rfl) rfl ?_
  refine ei_aload_n X dX10_twisted_12 rfl rfl ?_
  refine ei_aload_n X dX10_twisted_13 rfl rfl ?_
  refine ei_getf X fl_RX10_142 dX10_twisted_14 rfl rfl ?_
  refine ei_iload_n X dX10_twisted_17 rfl rfl ?_
  refine ei_iadd X dX10_twisted_18 ?_
  refine ei_sipush (v := 9999) X dX10_twisted_19 rfl ?_
  refine ei_callT1 X ml_RX10_122 dX10_twisted_22 (ct_X10_held _ _ _) rfl rfl (by decide) (by decide) (Nat.le_of_ble_eq_true rfl) ?_
  rw [heldF_pos e2]
  refine ei_puti X fp_RX10_142 dX10_twisted_25 rfl (Nat.le_of_ble_eq_true rfl) (pm_10 _ _ _ _ _ _ _ _ _ _ _ _ _ _ _ _) ?_
  refine ei_aload_n X dX10_twisted_28 rfl rfl ?_
  refine ei_iload_n X dX10_twisted_29 rfl rfl ?_
  refine ei_puti X fp_RX10_149 dX10_twisted_30 rfl (Nat.le_of_ble_eq_true rfl) (pm_9 _ _ _ _ _ _ _ _ _ _ _ _ _ _ _ _) ?_
  refine ei_aload_n X dX10_twisted_33 rfl rfl ?_
  refine ei_dup X dX10_twisted_34 rfl ?_
  refine ei_getf X fl_RX10_19 dX10_twisted_35 rfl rfl ?_
  refine ei_iconst (v := 1) X dX10_twisted_38 rfl ?_
  refine ei_isub X dX10_twisted_39 ?_
  refine ei_puti X fp_RX10_19 dX10_twisted_40 rfl (Nat.le_of_ble_eq_true rfl) (pm_6 _ _ _ _ _ _ _ _ _ _ _ _ _ _ _ _) ?_
  refine ei_aload_n X dX10_twisted_43 rfl rfl ?_
  refine ei_iload_n X dX10_twisted_44 rfl rfl ?_
  refine ei_callI0 X ml_RX10_158 dX10_twisted_45 (ct_X10_becomesSpare _ _ _ _ _ _ _ _ _ _ _ _ _ _ _ _ (by first | omega | assumption)) rfl rfl (by decide) (by decide) rfl (Nat.le_of_ble_eq_true rfl) ?_
  refine ei_iload_n X dX10_twisted_48 rfl rfl ?_
  refine ei_ireturn X F dX10_twisted_49 ?_
  exact ⟨rfl, rfl⟩

