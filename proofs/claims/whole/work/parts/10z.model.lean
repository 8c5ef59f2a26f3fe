theorem RS_J {Z : Nat → Sh} {I J : Nat → Int32} {A : Nat → Nat → Int32} {B : Nat → Nat → Int64} {K L : Value} (h : RS Z (I, A, B, K)) : RS Z (J, A, B, L) := h
theorem RS_A {Z : Nat → Sh} {I J : Nat → Int32} {A A2 : Nat → Nat → Int32} {B : Nat → Nat → Int64} {K L : Value} (h : RS Z (I, A, B, K)) (ha : ∀ c, 4 ≤ c → c ≤ 8 → A2 c = A c) : RS Z (J, A2, B, L) := by
  intro d hd
  obtain ⟨h1, h2, h3, h4⟩ := h d hd
  have e4 := ha 4 (by omega) (by omega)
  have e5 := ha 5 (by omega) (by omega)
  have e6 := ha 6 (by omega) (by omega)
  have e7 := ha 7 (by omega) (by omega)
  have e8 := ha 8 (by omega) (by omega)
  exact ⟨h1, by show A2 4 d = _; rw [e4]; exact h2, fun q => by show A2 5 d = _ ∧ A2 6 d = _; rw [e5, e6]; exact h3 q, fun q => by show A2 7 d = _ ∧ A2 8 d = _ ∧ _; rw [e7, e8]; exact h4 q⟩
set_option maxRecDepth 100000 in
set_option maxHeartbeats 1000000 in
theorem ct_X10_here (n : Nat) (w se sp hr lt hd sc : Int32) (so fi wo : Nat → Int32) (I : Nat → Int32) (A : Nat → Nat → Int32) (B : Nat → Nat → Int64) (K : Value) (Z : Nat → Sh) (d p : Nat) (h_d : d < 8) (h_z : zH (Z d) = 2) (h_R : RS Z (I, A, B, K)) (h_21 : I 21 = nI d) (h_22 : I 22 = nI p) (h_p : p < 2000) : e_Ct yX10_here cX10_here 1 (some .int) 1 [.ref 0] (mH (n, w, se, sp, hr, lt, hd, sc, so, fi, wo) (I, A, B, K)) (e_eq (some (.int (hereF (Z d) p))) (mH (n, w, se, sp, hr, lt, hd, sc, so, fi, wo) (I, A, B, K))) := by
  refine e_open RX10 rfl (by decide +kernel) rfl (fun _ => Nat.le_of_ble_eq_true rfl) (fun x X F => ?_)
  obtain ⟨o1, o2, o3, o4⟩ := h_R d h_d
  obtain ⟨z7, z8, z9⟩ := o4 h_z
  obtain ⟨hkk, hs⟩ := o1.2.2 h_z
  simp only at z7 z8 z9
  refine ei_aload_n X dX10_here_0 rfl rfl ?_
  refine ei_getf X fl_RX10_162 dX10_here_1 rfl rfl ?_
  rw [h_22]
  refine ei_aload_n X dX10_here_4 rfl rfl ?_
  refine ei_getf X fl_RX10_38 dX10_here_5 rfl rfl ?_
  refine ei_aload_n X dX10_here_8 rfl rfl ?_
  refine ei_getf X fl_RX10_165 dX10_here_9 rfl rfl ?_
  rw [h_21]
  refine ei_iaload_n X dX10_here_12 rfl (by first | omega | assumption) (by decide) ?_
  rw [z8]
  refine ei_icmpn_ge (tgt := 37) X dX10_here_13 (by decide) (by first | omega | assumption) (by first | omega | assumption) (fun cq13 => ?_) (fun cq13 => ?_)
  · refine ei_sipush (v := -999) X dX10_here_37 rfl ?_
    refine ei_ireturn X F dX10_here_40 ?_
    exact ⟨by unfold hereF; rw [if_neg (by omega)], rfl⟩
  · refine ei_aload_n X dX10_here_16 rfl rfl ?_
    refine ei_getf X fl_RX10_41 dX10_here_17 rfl rfl ?_
    refine ei_bipush (v := nI 100) X dX10_here_20 rfl ?_
    refine ei_aload_n X dX10_here_22 rfl rfl ?_
    refine ei_getf X fl_RX10_165 dX10_here_23 rfl rfl ?_
    rw [h_21]
    refine ei_imul X dX10_here_26 ?_
    rw [nI_mul]
    refine ei_aload_n X dX10_here_27 rfl rfl ?_
    refine ei_getf X fl_RX10_162 dX10_here_28 rfl rfl ?_
    rw [h_22]
    refine ei_iadd X dX10_here_31 ?_
    rw [nI_add]
    refine ei_laload_n X dX10_here_32 rfl (by first | omega | assumption) (by decide) ?_
    rw [z9 p (by omega)]
    refine ei_l2i X dX10_here_33 ?_
    rw [i64_back]
    refine ei_goto (tgt := 40) X dX10_here_34 (by decide) ?_
    refine ei_ireturn X F dX10_here_40 ?_
    exact ⟨by unfold hereF; rw [if_pos (by omega)], rfl⟩
set_option maxRecDepth 100000 in
set_option maxHeartbeats 1000000 in
theorem ct_X10_readDigits (n : Nat) (w se sp hr lt hd sc : Int32) (so fi wo : Nat → Int32) (I : Nat → Int32) (A : Nat → Nat → Int32) (B : Nat → Nat → Int64) (K : Value) (Z : Nat → Sh) (d p m : Nat) (b0 : Bool) (h_d : d < 8) (h_z : zH (Z d) = 2) (h_R : RS Z (I, A, B, K)) (h_21 : I 21 = nI d) (h_22 : I 22 = nI p) (h_23 : I 23 = bz b0) (h_p : p < 1000) (h_m : m ≤ 9) : e_Ct yX10_readDigits cX10_readDigits 4 (some .int) 2 [.ref 0, .int (nI m)] (mH (n, w, se, sp, hr, lt, hd, sc, so, fi, wo) (I, A, B, K)) (fun r h => ∃ J, r = some (.int (nI (itr (rdS (Z d)) (p, b0, 0) 0 m).2.2)) ∧ J 22 = nI (itr (rdS (Z d)) (p, b0, 0) 0 m).1 ∧ J 23 = bz (itr (rdS (Z d)) (p, b0, 0) 0 m).2.1 ∧ (∀ k, k ≠ 22 → k ≠ 23 → J k = I k) ∧ h = mH (n, w, se, sp, hr, lt, hd, sc, so, fi, wo) (J, A, B, K)) := by
  refine e_open RX10 rfl (by decide +kernel) rfl (fun _ => Nat.le_of_ble_eq_true rfl) (fun x X F => ?_)
  have L : ∀ (c j q1 : Nat) (q2 : Bool) (q3 : Nat) (J : Nat → Int32), m - j < c → j ≤ m → itr (rdS (Z d)) (p, b0, 0) 0 m = itr (rdS (Z d)) (q1, q2, q3) j (m - j) → q1 ≤ p + j → J 22 = nI q1 → J 23 = bz q2 → (∀ k, k ≠ 22 → k ≠ 23 → J k = I k) → e_E x 4 [some (.ref 0), some (.int (nI m)), some (.int (nI q3)), some (.int (nI j))] [] (mH (n, w, se, sp, hr, lt, hd, sc, so, fi, wo) (J, A, B, K)) := by
    intro c
    induction c with
    | zero => intro j q1 q2 q3 J hc; exact absurd hc (Nat.not_lt_zero _)
    | succ c ih =>
      intro j q1 q2 q3 J hc hj hv hq h22 h23 hJ
      have EB : (q2 || !isD (Z d) q1) = true → j < m → ∀ J2 : Nat → Int32, J2 22 = nI q1 → J2 23 = 1 → (∀ k, k ≠ 22 → k ≠ 23 → J2 k = I k) → e_E x 42 [some (.ref 0), some (.int (nI m)), some (.int (nI q3)), some (.int (nI j))] [] (mH (n, w, se, sp, hr, lt, hd, sc, so, fi, wo) (J2, A, B, K)) := by
        intro hb hlt J2 g22 g23 gJ
        refine ei_aload_n X dX10_readDigits_42 rfl rfl ?_
        refine ei_getf X fl_RX10_168 dX10_readDigits_43 rfl rfl ?_
        rw [g23]
        refine ei_if_eq (tgt := 53) X dX10_readDigits_46 (by decide) (fun cq46 => ?_) (fun cq46 => ?_)
        · first | exact absurd cq46 (by decide) | exact absurd (by decide) cq46
        · refine ei_iconst (v := nI 0) X dX10_readDigits_49 rfl ?_
          refine ei_goto (tgt := 65) X dX10_readDigits_50 (by decide) ?_
          refine ei_istore_n X dX10_readDigits_65 rfl (Nat.le_of_ble_eq_true rfl) rfl ?_
          refine ei_aload_n X dX10_readDigits_66 rfl rfl ?_
          refine ei_dup X dX10_readDigits_67 rfl ?_
          refine ei_getf X fl_RX10_162 dX10_readDigits_68 rfl rfl ?_
          rw [g22]
          refine ei_aload_n X dX10_readDigits_71 rfl rfl ?_
          refine ei_getf X fl_RX10_168 dX10_readDigits_72 rfl rfl ?_
          rw [g23]
          refine ei_if_eq (tgt := 82) X dX10_readDigits_75 (by decide) (fun cq75 => ?_) (fun cq75 => ?_)
          · first | exact absurd cq75 (by decide) | exact absurd (by decide) cq75
          · refine ei_iconst (v := nI 0) X dX10_readDigits_78 rfl ?_
            refine ei_goto (tgt := 83) X dX10_readDigits_79 (by decide) ?_
            refine ei_iadd X dX10_readDigits_83 ?_
            rw [nI_add]
            refine ei_puti X fp_RX10_162 dX10_readDigits_84 rfl (Nat.le_of_ble_eq_true rfl) (pm_22 _ _ _ _ _ _ _ _ _ _ _ _ _ _ _ _) ?_
            refine ei_iinc_n X dX10_readDigits_87 rfl rfl ?_
            refine ei_goto (tgt := 4) X dX10_readDigits_90 (by decide) ?_
            exact ih (j + 1) q1 true 0 (upd J2 22 (nI (q1 + 0))) (by omega) (by omega) (by rw [hv, itr_lt _ _ hlt]; congr 1; exact if_pos hb) (by omega) pk_us ((pk_un (by decide)).trans g23) (fun k h1 h2 => by rw [pk_un h1]; exact gJ k h1 h2)
      have EG : q2 = false → isD (Z d) q1 = true → j < m → ∀ J2 : Nat → Int32, J2 22 = nI q1 → J2 23 = 0 → (∀ k, k ≠ 22 → k ≠ 23 → J2 k = I k) → e_E x 42 [some (.ref 0), some (.int (nI m)), some (.int (nI q3)), some (.int (nI j))] [] (mH (n, w, se, sp, hr, lt, hd, sc, so, fi, wo) (J2, A, B, K)) := by
        intro hb hD hlt J2 g22 g23 gJ
        refine ei_aload_n X dX10_readDigits_42 rfl rfl ?_
        refine ei_getf X fl_RX10_168 dX10_readDigits_43 rfl rfl ?_
        rw [g23]
        refine ei_if_eq (tgt := 53) X dX10_readDigits_46 (by decide) (fun cq46 => ?_) (fun cq46 => ?_)
        · refine ei_bipush (v := nI 10) X dX10_readDigits_53 rfl ?_
          refine ei_iload_n X dX10_readDigits_55 rfl rfl ?_
          refine ei_imul X dX10_readDigits_56 ?_
          rw [nI_mul]
          refine ei_aload_n X dX10_readDigits_57 rfl rfl ?_
          refine ei_callI1 X ml_RX10_172 dX10_readDigits_58 (ct_X10_here _ _ _ _ _ _ _ _ _ _ _ _ _ _ _ Z d q1 h_d h_z (RS_J h_R) ((gJ 21 (by decide) (by decide)).trans h_21) g22 (by omega)) rfl rfl (by decide) (by decide) rfl (Nat.le_of_ble_eq_true rfl) ?_
          refine ei_iadd X dX10_readDigits_61 ?_
          refine ei_bipush (v := 48) X dX10_readDigits_62 rfl ?_
          refine ei_isub X dX10_readDigits_64 ?_
          rw [dig_v hD]
          refine ei_istore_n X dX10_readDigits_65 rfl (Nat.le_of_ble_eq_true rfl) rfl ?_
          refine ei_aload_n X dX10_readDigits_66 rfl rfl ?_
          refine ei_dup X dX10_readDigits_67 rfl ?_
          refine ei_getf X fl_RX10_162 dX10_readDigits_68 rfl rfl ?_
          rw [g22]
          refine ei_aload_n X dX10_readDigits_71 rfl rfl ?_
          refine ei_getf X fl_RX10_168 dX10_readDigits_72 rfl rfl ?_
          rw [g23]
          refine ei_if_eq (tgt := 82) X dX10_readDigits_75 (by decide) (fun cq75 => ?_) (fun cq75 => ?_)
          · refine ei_iconst (v := nI 1) X dX10_readDigits_82 rfl ?_
            refine ei_iadd X dX10_readDigits_83 ?_
            rw [nI_add]
            refine ei_puti X fp_RX10_162 dX10_readDigits_84 rfl (Nat.le_of_ble_eq_true rfl) (pm_22 _ _ _ _ _ _ _ _ _ _ _ _ _ _ _ _) ?_
            refine ei_iinc_n X dX10_readDigits_87 rfl rfl ?_
            refine ei_goto (tgt := 4) X dX10_readDigits_90 (by decide) ?_
            exact ih (j + 1) (q1 + 1) false (10 * q3 + dgN (Z d) q1) (upd J2 22 (nI (q1 + 1))) (by omega) (by omega) (by rw [hv, itr_lt _ _ hlt]; congr 1; exact rdS_t (q := (q1, q2, q3)) hb hD) (by omega) pk_us ((pk_un (by decide)).trans g23) (fun k h1 h2 => by rw [pk_un h1]; exact gJ k h1 h2)
          · first | exact absurd cq75 (by decide) | exact absurd (by decide) cq75
        · first | exact absurd cq46 (by decide) | exact absurd (by decide) cq46
      refine ei_iload_n X dX10_readDigits_4 rfl rfl ?_
      refine ei_iload_n X dX10_readDigits_5 rfl rfl ?_
      refine ei_icmpn_ge (tgt := 93) X dX10_readDigits_6 (by decide) (by first | omega | assumption) (by first | omega | assumption) (fun cq6 => ?_) (fun cq6 => ?_)
      · refine ei_iload_n X dX10_readDigits_93 rfl rfl ?_
        refine ei_ireturn X F dX10_readDigits_94 ?_
        exact ⟨J, by rw [hv, itr_ge _ _ (by omega)], by rw [hv, itr_ge _ _ (by omega)]; exact h22, by rw [hv, itr_ge _ _ (by omega)]; exact h23, hJ, rfl⟩
      · refine ei_aload_n X dX10_readDigits_9 rfl rfl ?_
        refine ei_aload_n X dX10_readDigits_10 rfl rfl ?_
        refine ei_getf X fl_RX10_168 dX10_readDigits_11 rfl rfl ?_
        rw [h23]
        refine ei_ifz_ne (tgt := 34) X dX10_readDigits_14 (by decide) (fun cq14 => ?_) (fun cq14 => ?_)
        · refine ei_iconst (v := 1) X dX10_readDigits_34 rfl ?_
          refine ei_goto (tgt := 39) X dX10_readDigits_35 (by decide) ?_
          refine ei_putz X fp_RX10_168 dX10_readDigits_39 rfl (Nat.le_of_ble_eq_true rfl) (by decide) (pm_23 _ _ _ _ _ _ _ _ _ _ _ _ _ _ _ _) ?_
          exact EB (by rw [cq14]; rfl) (by omega) _ ((pk_un (by decide)).trans h22) pk_us (fun k h1 h2 => by rw [pk_un h2]; exact hJ k h1 h2)
        · refine ei_aload_n X dX10_readDigits_17 rfl rfl ?_
          refine ei_callI1 X ml_RX10_172 dX10_readDigits_18 (ct_X10_here _ _ _ _ _ _ _ _ _ _ _ _ _ _ _ Z d q1 h_d h_z (RS_J h_R) ((hJ 21 (by decide) (by decide)).trans h_21) h22 (by omega)) rfl rfl (by decide) (by decide) rfl (Nat.le_of_ble_eq_true rfl) ?_
          refine ei_i2l X dX10_readDigits_21 ?_
          refine ei_ldc2 X cw_RX10_176 dX10_readDigits_22 ?_
          refine ei_ldc2 X cw_RX10_178 dX10_readDigits_25 ?_
          refine ei_callT1 X ml_RX10_84 dX10_readDigits_28 (ct_X10_in _ _ _ _) rfl rfl (by decide) (by decide) (Nat.le_of_ble_eq_true rfl) ?_
          rw [isD_in]
          refine ei_ifz_ne (tgt := 38) X dX10_readDigits_31 (by decide) (fun cq31 => ?_) (fun cq31 => ?_)
          · refine ei_iconst (v := 0) X dX10_readDigits_38 rfl ?_
            refine ei_putz X fp_RX10_168 dX10_readDigits_39 rfl (Nat.le_of_ble_eq_true rfl) (by decide) (pm_23 _ _ _ _ _ _ _ _ _ _ _ _ _ _ _ _) ?_
            exact EG cq14 cq31 (by omega) _ ((pk_un (by decide)).trans h22) pk_us (fun k h1 h2 => by rw [pk_un h2]; exact hJ k h1 h2)
          · refine ei_iconst (v := 1) X dX10_readDigits_34 rfl ?_
            refine ei_goto (tgt := 39) X dX10_readDigits_35 (by decide) ?_
            refine ei_putz X fp_RX10_168 dX10_readDigits_39 rfl (Nat.le_of_ble_eq_true rfl) (by decide) (pm_23 _ _ _ _ _ _ _ _ _ _ _ _ _ _ _ _) ?_
            exact EB (by rw [cq31]; exact Bool.or_true _) (by omega) _ ((pk_un (by decide)).trans h22) pk_us (fun k h1 h2 => by rw [pk_un h2]; exact hJ k h1 h2)
  refine ei_iconst (v := nI 0) X dX10_readDigits_0 rfl ?_
  refine ei_istore_n X dX10_readDigits_1 rfl (Nat.le_of_ble_eq_true rfl) rfl ?_
  refine ei_iconst (v := nI 0) X dX10_readDigits_2 rfl ?_
  refine ei_istore_n X dX10_readDigits_3 rfl (Nat.le_of_ble_eq_true rfl) rfl ?_
  exact L (m + 1) 0 p b0 0 I (by omega) (by omega) rfl (by omega) h_22 h_23 (fun _ _ _ => rfl)
set_option maxRecDepth 100000 in
set_option maxHeartbeats 1000000 in
theorem ct_X10_isLetter (h : List eC) (c : Int32) : e_Ct yX10_isLetter cX10_isLetter 1 (some .boolean) 1 [.int c] h (e_eq (some (.int (bz (decide (0 < ndC c))))) h) := by
  refine e_open RX10 rfl (by decide +kernel) rfl (fun _ => Nat.le_of_ble_eq_true rfl) (fun x X F => ?_)
  refine ei_iload_n X dX10_isLetter_0 rfl rfl ?_
  refine ei_bipush (v := 98) X dX10_isLetter_1 rfl ?_
  refine ei_icmp_eq (tgt := 42) X dX10_isLetter_3 (by decide) (fun cq3 => ?_) (fun cq3 => ?_)
  · refine ei_iconst (v := 1) X dX10_isLetter_42 rfl ?_
    refine ei_goto (tgt := 47) X dX10_isLetter_43 (by decide) ?_
    refine ei_zreturn X F dX10_isLetter_47 (by decide) ?_
    exact ⟨by simp_all [ndC, bz], rfl⟩
  · refine ei_iload_n X dX10_isLetter_6 rfl rfl ?_
    refine ei_bipush (v := 119) X dX10_isLetter_7 rfl ?_
    refine ei_icmp_eq (tgt := 42) X dX10_isLetter_9 (by decide) (fun cq9 => ?_) (fun cq9 => ?_)
    · refine ei_iconst (v := 1) X dX10_isLetter_42 rfl ?_
      refine ei_goto (tgt := 47) X dX10_isLetter_43 (by decide) ?_
      refine ei_zreturn X F dX10_isLetter_47 (by decide) ?_
      exact ⟨by simp_all [ndC, bz], rfl⟩
    · refine ei_iload_n X dX10_isLetter_12 rfl rfl ?_
      refine ei_bipush (v := 111) X dX10_isLetter_13 rfl ?_
      refine ei_icmp_eq (tgt := 42) X dX10_isLetter_15 (by decide) (fun cq15 => ?_) (fun cq15 => ?_)
      · refine ei_iconst (v := 1) X dX10_isLetter_42 rfl ?_
        refine ei_goto (tgt := 47) X dX10_isLetter_43 (by decide) ?_
        refine ei_zreturn X F dX10_isLetter_47 (by decide) ?_
        exact ⟨by simp_all [ndC, bz], rfl⟩
      · refine ei_iload_n X dX10_isLetter_18 rfl rfl ?_
        refine ei_bipush (v := 115) X dX10_isLetter_19 rfl ?_
        refine ei_icmp_eq (tgt := 42) X dX10_isLetter_21 (by decide) (fun cq21 => ?_) (fun cq21 => ?_)
        · refine ei_iconst (v := 1) X dX10_isLetter_42 rfl ?_
          refine ei_goto (tgt := 47) X dX10_isLetter_43 (by decide) ?_
          refine ei_zreturn X F dX10_isLetter_47 (by decide) ?_
          exact ⟨by simp_all [ndC, bz], rfl⟩
        · refine ei_iload_n X dX10_isLetter_24 rfl rfl ?_
          refine ei_bipush (v := 116) X dX10_isLetter_25 rfl ?_
          refine ei_icmp_eq (tgt := 42) X dX10_isLetter_27 (by decide) (fun cq27 => ?_) (fun cq27 => ?_)
          · refine ei_iconst (v := 1) X dX10_isLetter_42 rfl ?_
            refine ei_goto (tgt := 47) X dX10_isLetter_43 (by decide) ?_
            refine ei_zreturn X F dX10_isLetter_47 (by decide) ?_
            exact ⟨by simp_all [ndC, bz], rfl⟩
          · refine ei_iload_n X dX10_isLetter_30 rfl rfl ?_
            refine ei_bipush (v := 117) X dX10_isLetter_31 rfl ?_
            refine ei_icmp_eq (tgt := 42) X dX10_isLetter_33 (by decide) (fun cq33 => ?_) (fun cq33 => ?_)
            · refine ei_iconst (v := 1) X dX10_isLetter_42 rfl ?_
              refine ei_goto (tgt := 47) X dX10_isLetter_43 (by decide) ?_
              refine ei_zreturn X F dX10_isLetter_47 (by decide) ?_
              exact ⟨by simp_all [ndC, bz], rfl⟩
            · refine ei_iload_n X dX10_isLetter_36 rfl rfl ?_
              refine ei_bipush (v := 104) X dX10_isLetter_37 rfl ?_
              refine ei_icmp_ne (tgt := 46) X dX10_isLetter_39 (by decide) (fun cq39 => ?_) (fun cq39 => ?_)
              · refine ei_iconst (v := 0) X dX10_isLetter_46 rfl ?_
                refine ei_zreturn X F dX10_isLetter_47 (by decide) ?_
                exact ⟨by simp_all [ndC, bz], rfl⟩
              · refine ei_iconst (v := 1) X dX10_isLetter_42 rfl ?_
                refine ei_goto (tgt := 47) X dX10_isLetter_43 (by decide) ?_
                refine ei_zreturn X F dX10_isLetter_47 (by decide) ?_
                exact ⟨by simp_all [ndC, bz], rfl⟩
set_option maxRecDepth 100000 in
set_option maxHeartbeats 1000000 in
theorem ct_X10_readNumbers (n : Nat) (w se sp hr lt hd sc : Int32) (so fi wo : Nat → Int32) (I : Nat → Int32) (A : Nat → Nat → Int32) (B : Nat → Nat → Int64) (K : Value) (Z : Nat → Sh) (d p i : Nat) (c : Int32) (h_d : d < 8) (h_z : zH (Z d) = 2) (h_R : RS Z (I, A, B, K)) (h_21 : I 21 = nI d) (h_22 : I 22 = nI p) (h_23 : I 23 = 0) (h_p : p < 900) (h_i : i + 2 < 153) : e_Ct yX10_readNumbers cX10_readNumbers 3 none 3 [.ref 0, .int c, .int (nI i)] (mH (n, w, se, sp, hr, lt, hd, sc, so, fi, wo) (I, A, B, K)) (fun r h => r = none ∧ ∃ J, J 22 = nI (nq4 (Z d) c p).1 ∧ J 23 = bz (nq4 (Z d) c p).2.1 ∧ (∀ k, k ≠ 22 → k ≠ 23 → J k = I k) ∧ h = mH (n, w, se, sp, hr, lt, hd, sc, so, fi, wo) (J, updA A 12 (ng4 (Z d) c p i (A 12)), B, K)) := by
  refine e_open RX10 rfl (by decide +kernel) rfl (fun _ => Nat.le_of_ble_eq_true rfl) (fun x X F => ?_)
  have E84 : ∀ J : Nat → Int32, J 22 = nI (nq4 (Z d) c p).1 → J 23 = bz (nq4 (Z d) c p).2.1 → (∀ k, k ≠ 22 → k ≠ 23 → J k = I k) → e_E x 84 [some (.ref 0), some (.int c), some (.int (nI i))] [] (mH (n, w, se, sp, hr, lt, hd, sc, so, fi, wo) (J, updA A 12 (ng4 (Z d) c p i (A 12)), B, K)) := by
    intro J j22 j23 jo
    refine ei_vreturn X F dX10_readNumbers_84 ?_
    exact ⟨rfl, J, j22, j23, jo, rfl⟩
  have E65 : ∀ J : Nat → Int32, (nq3 (Z d) c p).1 < 1000 → J 22 = nI (nq3 (Z d) c p).1 → J 23 = bz (nq3 (Z d) c p).2.1 → (∀ k, k ≠ 22 → k ≠ 23 → J k = I k) → e_E x 65 [some (.ref 0), some (.int c), some (.int (nI i))] [] (mH (n, w, se, sp, hr, lt, hd, sc, so, fi, wo) (J, updA A 12 (ng3 (Z d) c p i (A 12)), B, K)) := by
    intro J hlt j22 j23 jo
    refine ei_iload_n X dX10_readNumbers_65 rfl rfl ?_
    refine ei_bipush (v := 117) X dX10_readNumbers_66 rfl ?_
    refine ei_icmp_ne (tgt := 84) X dX10_readNumbers_68 (by decide) (fun cq68 => ?_) (fun cq68 => ?_)
    · have e := E84 J (by rw [show nq4 (Z d) c p = nq3 (Z d) c p from if_neg cq68]; exact j22) (by rw [show nq4 (Z d) c p = nq3 (Z d) c p from if_neg cq68]; exact j23) jo
      rw [show ng4 (Z d) c p i (A 12) = ng3 (Z d) c p i (A 12) from if_neg cq68] at e
      exact e
    · refine ei_aload_n X dX10_readNumbers_71 rfl rfl ?_
      refine ei_getf X fl_RX10_51 dX10_readNumbers_72 rfl rfl ?_
      refine ei_iload_n X dX10_readNumbers_75 rfl rfl ?_
      refine ei_iconst (v := nI 2) X dX10_readNumbers_76 rfl ?_
      refine ei_iadd X dX10_readNumbers_77 ?_
      rw [nI_add]
      refine ei_aload_n X dX10_readNumbers_78 rfl rfl ?_
      refine ei_iconst (v := nI 1) X dX10_readNumbers_79 rfl ?_
      refine ei_callI X ml_RX10_180 dX10_readNumbers_80 (ct_X10_readDigits _ _ _ _ _ _ _ _ _ _ _ _ _ _ _ Z d (nq3 (Z d) c p).1 _ (nq3 (Z d) c p).2.1 h_d h_z (RS_A h_R (fun c h1 h2 => updA_off (by omega))) ((jo 21 (by decide) (by decide)).trans h_21) j22 j23 hlt (by omega)) rfl rfl (by decide) (by decide) rfl (Nat.le_of_ble_eq_true rfl) (fun r h2 hp => ?_)
      obtain ⟨J80, rfl, a80, b80, o80, rfl⟩ := hp
      refine ei_iastore_n X dX10_readNumbers_83 rfl (by first | omega | assumption) (by decide) (pm_r12 _ _ _ _ _ _ _ _ _ _ _ _ _ _ _ _) ?_
      have e1 : nq4 (Z d) c p = rD (Z d) (nq3 (Z d) c p) 1 := if_pos cq68
      have e := E84 J80 (by rw [e1]; exact a80) (by rw [e1]; exact b80) (fun k h1 h2 => (o80 k h1 h2).trans (jo k h1 h2))
      rw [show ng4 (Z d) c p i (A 12) = upd (ng3 (Z d) c p i (A 12)) (i + 2) (nI (nq4 (Z d) c p).2.2) from if_pos cq68, e1] at e
      rw [updA_2, updA_on]
      exact e
  have E46 : ∀ J : Nat → Int32, (nq2 (Z d) c p).1 < 950 → J 22 = nI (nq2 (Z d) c p).1 → J 23 = bz (nq2 (Z d) c p).2.1 → (∀ k, k ≠ 22 → k ≠ 23 → J k = I k) → e_E x 46 [some (.ref 0), some (.int c), some (.int (nI i))] [] (mH (n, w, se, sp, hr, lt, hd, sc, so, fi, wo) (J, updA A 12 (ng2 (Z d) c p i (A 12)), B, K)) := by
    intro J hlt j22 j23 jo
    refine ei_iload_n X dX10_readNumbers_46 rfl rfl ?_
    refine ei_bipush (v := 119) X dX10_readNumbers_47 rfl ?_
    refine ei_icmp_ne (tgt := 65) X dX10_readNumbers_49 (by decide) (fun cq49 => ?_) (fun cq49 => ?_)
    · have e1 : nq3 (Z d) c p = nq2 (Z d) c p := if_neg cq49
      have e := E65 J (by rw [e1]; omega) (by rw [e1]; exact j22) (by rw [e1]; exact j23) jo
      rw [show ng3 (Z d) c p i (A 12) = ng2 (Z d) c p i (A 12) from if_neg cq49] at e
      exact e
    · refine ei_aload_n X dX10_readNumbers_52 rfl rfl ?_
      refine ei_getf X fl_RX10_51 dX10_readNumbers_53 rfl rfl ?_
      refine ei_iload_n X dX10_readNumbers_56 rfl rfl ?_
      refine ei_iconst (v := nI 1) X dX10_readNumbers_57 rfl ?_
      refine ei_iadd X dX10_readNumbers_58 ?_
      rw [nI_add]
      refine ei_aload_n X dX10_readNumbers_59 rfl rfl ?_
      refine ei_iconst (v := nI 3) X dX10_readNumbers_60 rfl ?_
      refine ei_callI X ml_RX10_180 dX10_readNumbers_61 (ct_X10_readDigits _ _ _ _ _ _ _ _ _ _ _ _ _ _ _ Z d (nq2 (Z d) c p).1 _ (nq2 (Z d) c p).2.1 h_d h_z (RS_A h_R (fun c h1 h2 => updA_off (by omega))) ((jo 21 (by decide) (by decide)).trans h_21) j22 j23 (by omega) (by omega)) rfl rfl (by decide) (by decide) rfl (Nat.le_of_ble_eq_true rfl) (fun r h2 hp => ?_)
      obtain ⟨J61, rfl, a61, b61, o61, rfl⟩ := hp
      refine ei_iastore_n X dX10_readNumbers_64 rfl (by first | omega | assumption) (by decide) (pm_r12 _ _ _ _ _ _ _ _ _ _ _ _ _ _ _ _) ?_
      have e1 : nq3 (Z d) c p = rD (Z d) (nq2 (Z d) c p) 3 := if_pos cq49
      have hl := rD_le (Z d) (nq2 (Z d) c p) 3 0 0
      have e := E65 J61 (by rw [e1]; unfold rD; omega) (by rw [e1]; exact a61) (by rw [e1]; exact b61) (fun k h1 h2 => (o61 k h1 h2).trans (jo k h1 h2))
      rw [show ng3 (Z d) c p i (A 12) = upd (ng2 (Z d) c p i (A 12)) (i + 1) (nI (nq3 (Z d) c p).2.2) from if_pos cq49, e1] at e
      rw [updA_2, updA_on]
      exact e
  have E21 : ∀ J : Nat → Int32, (nq1 (Z d) c p).1 < 940 → J 22 = nI (nq1 (Z d) c p).1 → J 23 = bz (nq1 (Z d) c p).2.1 → (∀ k, k ≠ 22 → k ≠ 23 → J k = I k) → e_E x 21 [some (.ref 0), some (.int c), some (.int (nI i))] [] (mH (n, w, se, sp, hr, lt, hd, sc, so, fi, wo) (J, updA A 12 (ng1 (Z d) c p i (A 12)), B, K)) := by
    intro J hlt j22 j23 jo
    have G33 : c = 98 ∨ c = 117 → e_E x 33 [some (.ref 0), some (.int c), some (.int (nI i))] [] (mH (n, w, se, sp, hr, lt, hd, sc, so, fi, wo) (J, updA A 12 (ng1 (Z d) c p i (A 12)), B, K)) := by
      intro hcc
      refine ei_aload_n X dX10_readNumbers_33 rfl rfl ?_
      refine ei_getf X fl_RX10_51 dX10_readNumbers_34 rfl rfl ?_
      refine ei_iload_n X dX10_readNumbers_37 rfl rfl ?_
      refine ei_iconst (v := nI 1) X dX10_readNumbers_38 rfl ?_
      refine ei_iadd X dX10_readNumbers_39 ?_
      rw [nI_add]
      refine ei_aload_n X dX10_readNumbers_40 rfl rfl ?_
      refine ei_iconst (v := nI 1) X dX10_readNumbers_41 rfl ?_
      refine ei_callI X ml_RX10_180 dX10_readNumbers_42 (ct_X10_readDigits _ _ _ _ _ _ _ _ _ _ _ _ _ _ _ Z d (nq1 (Z d) c p).1 _ (nq1 (Z d) c p).2.1 h_d h_z (RS_A h_R (fun c h1 h2 => updA_off (by omega))) ((jo 21 (by decide) (by decide)).trans h_21) j22 j23 (by omega) (by omega)) rfl rfl (by decide) (by decide) rfl (Nat.le_of_ble_eq_true rfl) (fun r h2 hp => ?_)
      obtain ⟨J42, rfl, a42, b42, o42, rfl⟩ := hp
      refine ei_iastore_n X dX10_readNumbers_45 rfl (by first | omega | assumption) (by decide) (pm_r12 _ _ _ _ _ _ _ _ _ _ _ _ _ _ _ _) ?_
      have e1 : nq2 (Z d) c p = rD (Z d) (nq1 (Z d) c p) 1 := if_pos hcc
      have hl := rD_le (Z d) (nq1 (Z d) c p) 1 0 0
      have e := E46 J42 (by rw [e1]; unfold rD; omega) (by rw [e1]; exact a42) (by rw [e1]; exact b42) (fun k h1 h2 => (o42 k h1 h2).trans (jo k h1 h2))
      rw [show ng2 (Z d) c p i (A 12) = upd (ng1 (Z d) c p i (A 12)) (i + 1) (nI (nq2 (Z d) c p).2.2) from if_pos hcc, e1] at e
      rw [updA_2, updA_on]
      exact e
    refine ei_iload_n X dX10_readNumbers_21 rfl rfl ?_
    refine ei_bipush (v := 98) X dX10_readNumbers_22 rfl ?_
    refine ei_icmp_eq (tgt := 33) X dX10_readNumbers_24 (by decide) (fun cq24 => ?_) (fun cq24 => ?_)
    · exact G33 (Or.inl cq24)
    · refine ei_iload_n X dX10_readNumbers_27 rfl rfl ?_
      refine ei_bipush (v := 117) X dX10_readNumbers_28 rfl ?_
      refine ei_icmp_ne (tgt := 46) X dX10_readNumbers_30 (by decide) (fun cq30 => ?_) (fun cq30 => ?_)
      · have hcc : ¬ (c = 98 ∨ c = 117) := (fun z => z.elim cq24 cq30)
        have e1 : nq2 (Z d) c p = nq1 (Z d) c p := if_neg hcc
        have e := E46 J (by rw [e1]; omega) (by rw [e1]; exact j22) (by rw [e1]; exact j23) jo
        rw [show ng2 (Z d) c p i (A 12) = ng1 (Z d) c p i (A 12) from if_neg hcc] at e
        exact e
      · exact G33 (Or.inr cq30)
  refine ei_aload_n X dX10_readNumbers_0 rfl rfl ?_
  refine ei_getf X fl_RX10_51 dX10_readNumbers_1 rfl rfl ?_
  refine ei_iload_n X dX10_readNumbers_4 rfl rfl ?_
  refine ei_aload_n X dX10_readNumbers_5 rfl rfl ?_
  refine ei_iload_n X dX10_readNumbers_6 rfl rfl ?_
  refine ei_bipush (v := 104) X dX10_readNumbers_7 rfl ?_
  refine ei_icmp_ne (tgt := 16) X dX10_readNumbers_9 (by decide) (fun cq9 => ?_) (fun cq9 => ?_)
  · refine ei_iconst (v := nI 1) X dX10_readNumbers_16 rfl ?_
    refine ei_callI X ml_RX10_180 dX10_readNumbers_17 (ct_X10_readDigits _ _ _ _ _ _ _ _ _ _ _ _ _ _ _ Z d p _ false h_d h_z h_R h_21 h_22 h_23 (by omega) (by omega)) rfl rfl (by decide) (by decide) rfl (Nat.le_of_ble_eq_true rfl) (fun r h2 hp => ?_)
    obtain ⟨J17, rfl, a17, b17, o17, rfl⟩ := hp
    refine ei_iastore_n X dX10_readNumbers_20 rfl (by first | omega | assumption) (by decide) (pm_r12 _ _ _ _ _ _ _ _ _ _ _ _ _ _ _ _) ?_
    have e1 : nq1 (Z d) c p = rD (Z d) (p, false, 0) 1 := (by unfold nq1; rw [if_neg cq9])
    have hl := rD_le (Z d) (p, false, 0) 1 0 0
    simp only at hl
    have e := E21 J17 (by rw [e1]; unfold rD; simp only; omega) (by rw [e1]; exact a17) (by rw [e1]; exact b17) o17
    rw [show ng1 (Z d) c p i (A 12) = upd (A 12) i (nI (nq1 (Z d) c p).2.2) from rfl, e1] at e
    exact e
  · refine ei_iconst (v := nI 2) X dX10_readNumbers_12 rfl ?_
    refine ei_goto (tgt := 17) X dX10_readNumbers_13 (by decide) ?_
    refine ei_callI X ml_RX10_180 dX10_readNumbers_17 (ct_X10_readDigits _ _ _ _ _ _ _ _ _ _ _ _ _ _ _ Z d p _ false h_d h_z h_R h_21 h_22 h_23 (by omega) (by omega)) rfl rfl (by decide) (by decide) rfl (Nat.le_of_ble_eq_true rfl) (fun r h2 hp => ?_)
    obtain ⟨J17, rfl, a17, b17, o17, rfl⟩ := hp
    refine ei_iastore_n X dX10_readNumbers_20 rfl (by first | omega | assumption) (by decide) (pm_r12 _ _ _ _ _ _ _ _ _ _ _ _ _ _ _ _) ?_
    have e1 : nq1 (Z d) c p = rD (Z d) (p, false, 0) 2 := (by unfold nq1; rw [if_pos cq9])
    have hl := rD_le (Z d) (p, false, 0) 2 0 0
    simp only at hl
    have e := E21 J17 (by rw [e1]; unfold rD; simp only; omega) (by rw [e1]; exact a17) (by rw [e1]; exact b17) o17
    rw [show ng1 (Z d) c p i (A 12) = upd (A 12) i (nI (nq1 (Z d) c p).2.2) from rfl, e1] at e
    exact e

