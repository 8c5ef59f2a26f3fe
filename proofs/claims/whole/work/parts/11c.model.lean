def ofB (n : Nat) (sp c b : Int32) : Bool := hasF n b && (decide (¬ c = 116) || decide (0 < sp))
def ofS (S : St) (c b v : Int32) : St := if c = 119 then (sN S, sW S, sE S, sP S, sH S, sL S, sD S, sC S, sO S, sG S, upd (sR S) (nc b) v) else if c = 111 then (sN S, sW S ^^^ bitI (nc b), sE S, sP S, sH S, sL S, sD S, sC S, sO S, sG S, sR S) else twS S (nc b)
set_option maxRecDepth 100000 in
set_option maxHeartbeats 1000000 in
theorem ct_X10_ofBulb (n : Nat) (w se sp hr lt hd sc : Int32) (so fi wo : Nat → Int32) (I : Nat → Int32) (A : Nat → Nat → Int32) (B : Nat → Nat → Int64) (K : Value) (c b v : Int32) (h_S : Good (n, w, se, sp, hr, lt, hd, sc, so, fi, wo)) (h_c : c = 119 ∨ c = 111 ∨ c = 116) : e_Ct yX10_ofBulb cX10_ofBulb 5 (some .boolean) 3 [.ref 0, .int c, .int b, .int v] (mH (n, w, se, sp, hr, lt, hd, sc, so, fi, wo) (I, A, B, K)) (e_eq (some (.int (bz (ofB n sp c b)))) (mH (if ofB n sp c b = true then ofS (n, w, se, sp, hr, lt, hd, sc, so, fi, wo) c b v else (n, w, se, sp, hr, lt, hd, sc, so, fi, wo)) (I, A, B, K))) := by
  refine e_open RX10 rfl (by decide +kernel) rfl (fun _ => Nat.le_of_ble_eq_true rfl) (fun x X F => ?_)
  have hn : n ≤ 10 := h_S.1
  have EF : ofB n sp c b = false → e_E x 28 [some (.ref 0), some (.int c), some (.int b), some (.int v), some (.int 0)] [] (mH (n, w, se, sp, hr, lt, hd, sc, so, fi, wo) (I, A, B, K)) := by
    intro h0
    refine ei_iload X dX10_ofBulb_28 rfl ?_
    refine ei_if_eq (tgt := 46) X dX10_ofBulb_30 (by decide) (fun cq30 => ?_) (fun cq30 => ?_)
    · refine ei_iload X dX10_ofBulb_46 rfl ?_
      refine ei_if_eq (tgt := 69) X dX10_ofBulb_48 (by decide) (fun cq48 => ?_) (fun cq48 => ?_)
      · refine ei_iload X dX10_ofBulb_69 rfl ?_
        refine ei_if_eq (tgt := 86) X dX10_ofBulb_71 (by decide) (fun cq71 => ?_) (fun cq71 => ?_)
        · refine ei_iload X dX10_ofBulb_86 rfl ?_
          refine ei_zreturn X F dX10_ofBulb_88 (by decide) ?_
          exact ⟨by rw [h0]; rfl, by rw [h0, if_neg Bool.false_ne_true]⟩
        · first | exact absurd cq71 (by decide) | exact absurd (by decide) cq71
      · first | exact absurd cq48 (by decide) | exact absurd (by decide) cq48
    · first | exact absurd cq30 (by decide) | exact absurd (by decide) cq30
  have ET : ∀ k, k < n → b = nI k → ofB n sp c (nI k) = true → e_E x 28 [some (.ref 0), some (.int c), some (.int (nI k)), some (.int v), some (.int 1)] [] (mH (n, w, se, sp, hr, lt, hd, sc, so, fi, wo) (I, A, B, K)) := by
    intro k hk hb h1
    have hnc : nc (nI k) = k := nc_nI (by omega)
    subst hb
    have E46 : c = 119 → e_E x 46 [some (.ref 0), some (.int c), some (.int (nI k)), some (.int v), some (.int 1)] [] (mH (n, w, se, sp, hr, lt, hd, sc, so, fi, upd wo k v) (I, A, B, K)) := by
      intro hc
      refine ei_iload X dX10_ofBulb_46 rfl ?_
      refine ei_if_eq (tgt := 69) X dX10_ofBulb_48 (by decide) (fun cq48 => ?_) (fun cq48 => ?_)
      · first | exact absurd cq48 (by decide) | exact absurd (by decide) cq48
      · refine ei_iload_n X dX10_ofBulb_51 rfl rfl ?_
        refine ei_bipush (v := 111) X dX10_ofBulb_52 rfl ?_
        refine ei_icmp_ne (tgt := 69) X dX10_ofBulb_54 (by decide) (fun cq54 => ?_) (fun cq54 => ?_)
        · refine ei_iload X dX10_ofBulb_69 rfl ?_
          refine ei_if_eq (tgt := 86) X dX10_ofBulb_71 (by decide) (fun cq71 => ?_) (fun cq71 => ?_)
          · first | exact absurd cq71 (by decide) | exact absurd (by decide) cq71
          · refine ei_iload_n X dX10_ofBulb_74 rfl rfl ?_
            refine ei_bipush (v := 116) X dX10_ofBulb_75 rfl ?_
            refine ei_icmp_ne (tgt := 86) X dX10_ofBulb_77 (by decide) (fun cq77 => ?_) (fun cq77 => ?_)
            · refine ei_iload X dX10_ofBulb_86 rfl ?_
              refine ei_zreturn X F dX10_ofBulb_88 (by decide) ?_
              exact ⟨by rw [h1]; rfl, by rw [h1, if_pos rfl]; unfold ofS; rw [if_pos hc, hnc]⟩
            · exact absurd (hc.symm.trans cq77) (by decide)
        · exact absurd (hc.symm.trans cq54) (by decide)
    have E69 : c = 111 → e_E x 69 [some (.ref 0), some (.int c), some (.int (nI k)), some (.int v), some (.int 1)] [] (mH (n, w ^^^ bitI k, se, sp, hr, lt, hd, sc, so, fi, wo) (I, A, B, K)) := by
      intro hc
      refine ei_iload X dX10_ofBulb_69 rfl ?_
      refine ei_if_eq (tgt := 86) X dX10_ofBulb_71 (by decide) (fun cq71 => ?_) (fun cq71 => ?_)
      · first | exact absurd cq71 (by decide) | exact absurd (by decide) cq71
      · refine ei_iload_n X dX10_ofBulb_74 rfl rfl ?_
        refine ei_bipush (v := 116) X dX10_ofBulb_75 rfl ?_
        refine ei_icmp_ne (tgt := 86) X dX10_ofBulb_77 (by decide) (fun cq77 => ?_) (fun cq77 => ?_)
        · refine ei_iload X dX10_ofBulb_86 rfl ?_
          refine ei_zreturn X F dX10_ofBulb_88 (by decide) ?_
          exact ⟨by rw [h1]; rfl, by rw [h1, if_pos rfl]; unfold ofS; rw [if_neg (by rw [hc]; decide), if_pos hc, hnc]⟩
        · exact absurd (hc.symm.trans cq77) (by decide)
    have E46n : ¬ c = 119 → e_E x 46 [some (.ref 0), some (.int c), some (.int (nI k)), some (.int v), some (.int 1)] [] (mH (n, w, se, sp, hr, lt, hd, sc, so, fi, wo) (I, A, B, K)) := by
      intro hc
      have EZ : ¬ c = 111 → e_E x 69 [some (.ref 0), some (.int c), some (.int (nI k)), some (.int v), some (.int 1)] [] (mH (n, w, se, sp, hr, lt, hd, sc, so, fi, wo) (I, A, B, K)) := by
        intro hc1
        have hc2 : c = 116 := by
          rcases h_c with z | z | z
          · exact absurd z hc
          · exact absurd z hc1
          · exact z
        refine ei_iload X dX10_ofBulb_69 rfl ?_
        refine ei_if_eq (tgt := 86) X dX10_ofBulb_71 (by decide) (fun cq71 => ?_) (fun cq71 => ?_)
        · first | exact absurd cq71 (by decide) | exact absurd (by decide) cq71
        · refine ei_iload_n X dX10_ofBulb_74 rfl rfl ?_
          refine ei_bipush (v := 116) X dX10_ofBulb_75 rfl ?_
          refine ei_icmp_ne (tgt := 86) X dX10_ofBulb_77 (by decide) (fun cq77 => ?_) (fun cq77 => ?_)
          · exact absurd hc2 cq77
          · refine ei_aload_n X dX10_ofBulb_80 rfl rfl ?_
            refine ei_iload_n X dX10_ofBulb_81 rfl rfl ?_
            refine ei_callI1 X ml_RX10_196 dX10_ofBulb_82 (ct_X10_twisted _ _ _ _ _ _ _ _ _ _ _ _ _ _ _ _ (by first | omega | assumption) (by first | omega | assumption)) rfl rfl (by decide) (by decide) rfl (Nat.le_of_ble_eq_true rfl) ?_
            refine ei_pop X dX10_ofBulb_85 rfl ?_
            refine ei_iload X dX10_ofBulb_86 rfl ?_
            refine ei_zreturn X F dX10_ofBulb_88 (by decide) ?_
            exact ⟨by rw [h1]; rfl, by rw [h1, if_pos rfl]; unfold ofS; rw [if_neg hc, if_neg hc1, hnc]; rfl⟩
      refine ei_iload X dX10_ofBulb_46 rfl ?_
      refine ei_if_eq (tgt := 69) X dX10_ofBulb_48 (by decide) (fun cq48 => ?_) (fun cq48 => ?_)
      · first | exact absurd cq48 (by decide) | exact absurd (by decide) cq48
      · refine ei_iload_n X dX10_ofBulb_51 rfl rfl ?_
        refine ei_bipush (v := 111) X dX10_ofBulb_52 rfl ?_
        refine ei_icmp_ne (tgt := 69) X dX10_ofBulb_54 (by decide) (fun cq54 => ?_) (fun cq54 => ?_)
        · exact EZ cq54
        · refine ei_aload_n X dX10_ofBulb_57 rfl rfl ?_
          refine ei_dup X dX10_ofBulb_58 rfl ?_
          refine ei_getf X fl_RX10_88 dX10_ofBulb_59 rfl rfl ?_
          refine ei_iconst (v := 1) X dX10_ofBulb_62 rfl ?_
          refine ei_iload_n X dX10_ofBulb_63 rfl rfl ?_
          refine ei_ishl X dX10_ofBulb_64 ?_
          refine ei_ixor X dX10_ofBulb_65 ?_
          refine ei_puti X fp_RX10_88 dX10_ofBulb_66 rfl (Nat.le_of_ble_eq_true rfl) (pm_4 _ _ _ _ _ _ _ _ _ _ _ _ _ _ _ _) ?_
          exact E69 cq54
    refine ei_iload X dX10_ofBulb_28 rfl ?_
    refine ei_if_eq (tgt := 46) X dX10_ofBulb_30 (by decide) (fun cq30 => ?_) (fun cq30 => ?_)
    · first | exact absurd cq30 (by decide) | exact absurd (by decide) cq30
    · refine ei_iload_n X dX10_ofBulb_33 rfl rfl ?_
      refine ei_bipush (v := 119) X dX10_ofBulb_34 rfl ?_
      refine ei_icmp_ne (tgt := 46) X dX10_ofBulb_36 (by decide) (fun cq36 => ?_) (fun cq36 => ?_)
      · exact E46n cq36
      · refine ei_aload_n X dX10_ofBulb_39 rfl rfl ?_
        refine ei_getf X fl_RX10_16 dX10_ofBulb_40 rfl rfl ?_
        refine ei_iload_n X dX10_ofBulb_43 rfl rfl ?_
        refine ei_iload_n X dX10_ofBulb_44 rfl rfl ?_
        refine ei_iastore_n X dX10_ofBulb_45 rfl (by first | omega | assumption) (by decide) (pm_r3 _ _ _ _ _ _ _ _ _ _ _ _ _ _ _ _) ?_
        exact E46 cq36
  have hsp : sp ≤ 0 ↔ ¬ 0 < sp := Int32.not_lt.symm
  refine ei_aload_n X dX10_ofBulb_0 rfl rfl ?_
  refine ei_iload_n X dX10_ofBulb_1 rfl rfl ?_
  refine ei_callI1 X ml_RX10_193 dX10_ofBulb_2 (ct_X10_isBulb _ _ _ _ _ _ _ _ _ _ _ _ _ _ _ _ (by first | omega | assumption)) rfl rfl (by decide) (by decide) rfl (Nat.le_of_ble_eq_true rfl) ?_
  refine ei_ifz_eq (tgt := 25) X dX10_ofBulb_5 (by decide) (fun cq5 => ?_) (fun cq5 => ?_)
  · refine ei_iconst (v := 0) X dX10_ofBulb_25 rfl ?_
    refine ei_istore X dX10_ofBulb_26 (Nat.le_of_ble_eq_true rfl) rfl ?_
    exact EF (by unfold ofB; rw [cq5, Bool.false_and])
  · refine ei_iload_n X dX10_ofBulb_8 rfl rfl ?_
    refine ei_bipush (v := 116) X dX10_ofBulb_9 rfl ?_
    refine ei_icmp_ne (tgt := 21) X dX10_ofBulb_11 (by decide) (fun cq11 => ?_) (fun cq11 => ?_)
    · refine ei_iconst (v := 1) X dX10_ofBulb_21 rfl ?_
      refine ei_goto (tgt := 26) X dX10_ofBulb_22 (by decide) ?_
      refine ei_istore X dX10_ofBulb_26 (Nat.le_of_ble_eq_true rfl) rfl ?_
      obtain ⟨k, hk, rfl⟩ := (hasF_iff (by omega)).mp cq5
      exact ET k hk rfl (by unfold ofB; rw [cq5, decide_eq_true cq11]; rfl)
    · refine ei_aload_n X dX10_ofBulb_14 rfl rfl ?_
      refine ei_getf X fl_RX10_19 dX10_ofBulb_15 rfl rfl ?_
      refine ei_if_le (tgt := 25) X dX10_ofBulb_18 (by decide) (fun cq18 => ?_) (fun cq18 => ?_)
      · refine ei_iconst (v := 0) X dX10_ofBulb_25 rfl ?_
        refine ei_istore X dX10_ofBulb_26 (Nat.le_of_ble_eq_true rfl) rfl ?_
        exact EF (by unfold ofB; rw [cq5, decide_eq_false (fun z => z cq11), decide_eq_false (hsp.mp cq18)]; rfl)
      · refine ei_iconst (v := 1) X dX10_ofBulb_21 rfl ?_
        refine ei_goto (tgt := 26) X dX10_ofBulb_22 (by decide) ?_
        refine ei_istore X dX10_ofBulb_26 (Nat.le_of_ble_eq_true rfl) rfl ?_
        obtain ⟨k, hk, rfl⟩ := (hasF_iff (by omega)).mp cq5
        exact ET k hk rfl (by unfold ofB; rw [cq5, decide_eq_true (Decidable.not_not.mp (fun z => cq18 (hsp.mpr z))), Bool.or_true]; rfl)
def toB (n : Nat) (t i j : Int32) : Bool := decide (t < 5) && (decide (i ≤ j) && hasF n j)
set_option maxRecDepth 100000 in
set_option maxHeartbeats 1000000 in
theorem ct_X10_toolComes (n : Nat) (w se sp hr lt hd sc : Int32) (so fi wo : Nat → Int32) (I : Nat → Int32) (A : Nat → Nat → Int32) (B : Nat → Nat → Int64) (K : Value) (t i j : Int32) (h_S : Good (n, w, se, sp, hr, lt, hd, sc, so, fi, wo)) (h_i : Gd1 i 9) : e_Ct yX10_toolComes cX10_toolComes 5 (some .boolean) 6 [.ref 0, .int t, .int i, .int j] (mH (n, w, se, sp, hr, lt, hd, sc, so, fi, wo) (I, A, B, K)) (e_eq (some (.int (bz (toB n t i j)))) (mH (if toB n t i j = true then useS (n, w, se, sp, hr, lt, hd, sc, so, fi, wo) t (nc i) (nc j) else (n, w, se, sp, hr, lt, hd, sc, so, fi, wo)) (I, A, B, K))) := by
  refine e_open RX10 rfl (by decide +kernel) rfl (fun _ => Nat.le_of_ble_eq_true rfl) (fun x X F => ?_)
  have hn : n ≤ 10 := h_S.1
  have EF : toB n t i j = false → e_E x 25 [some (.ref 0), some (.int t), some (.int i), some (.int j), some (.int 0)] [] (mH (n, w, se, sp, hr, lt, hd, sc, so, fi, wo) (I, A, B, K)) := by
    intro h0
    refine ei_iload X dX10_toolComes_25 rfl ?_
    refine ei_if_eq (tgt := 38) X dX10_toolComes_27 (by decide) (fun cq27 => ?_) (fun cq27 => ?_)
    · refine ei_iload X dX10_toolComes_38 rfl ?_
      refine ei_zreturn X F dX10_toolComes_40 (by decide) ?_
      exact ⟨by rw [h0]; rfl, by rw [h0, if_neg Bool.false_ne_true]⟩
    · first | exact absurd cq27 (by decide) | exact absurd (by decide) cq27
  have ET : toB n t i j = true → e_E x 25 [some (.ref 0), some (.int t), some (.int i), some (.int j), some (.int 1)] [] (mH (n, w, se, sp, hr, lt, hd, sc, so, fi, wo) (I, A, B, K)) := by
    intro h1
    obtain ⟨a, b, hab, hb, rfl, rfl⟩ := use_ex hn h_i ((Bool.and_eq_true _ _).mp h1).2
    refine ei_iload X dX10_toolComes_25 rfl ?_
    refine ei_if_eq (tgt := 38) X dX10_toolComes_27 (by decide) (fun cq27 => ?_) (fun cq27 => ?_)
    · first | exact absurd cq27 (by decide) | exact absurd (by decide) cq27
    · refine ei_aload_n X dX10_toolComes_30 rfl rfl ?_
      refine ei_iload_n X dX10_toolComes_31 rfl rfl ?_
      refine ei_iload_n X dX10_toolComes_32 rfl rfl ?_
      refine ei_iload_n X dX10_toolComes_33 rfl rfl ?_
      refine ei_callI1 X ml_RX10_199 dX10_toolComes_34 (ct_X10_usedOn _ _ _ _ _ _ _ _ _ _ _ _ _ _ _ _ _ _ (by first | omega | assumption) (by first | omega | assumption) (by first | omega | assumption)) rfl rfl (by decide) (by decide) rfl (Nat.le_of_ble_eq_true rfl) ?_
      refine ei_pop X dX10_toolComes_37 rfl ?_
      refine ei_iload X dX10_toolComes_38 rfl ?_
      refine ei_zreturn X F dX10_toolComes_40 (by decide) ?_
      exact ⟨by rw [h1]; rfl, by rw [h1, if_pos rfl, nc_nI (by omega), nc_nI (by omega)]⟩
  refine ei_iload_n X dX10_toolComes_0 rfl rfl ?_
  refine ei_iconst (v := 5) X dX10_toolComes_1 rfl ?_
  refine ei_icmp_ge (tgt := 22) X dX10_toolComes_2 (by decide) (fun cq2 => ?_) (fun cq2 => ?_)
  · refine ei_iconst (v := 0) X dX10_toolComes_22 rfl ?_
    refine ei_istore X dX10_toolComes_23 (Nat.le_of_ble_eq_true rfl) rfl ?_
    exact EF (by unfold toB; rw [decide_eq_false (Int32.not_lt.mpr cq2), Bool.false_and])
  · refine ei_iload_n X dX10_toolComes_5 rfl rfl ?_
    refine ei_iload_n X dX10_toolComes_6 rfl rfl ?_
    refine ei_icmp_gt (tgt := 22) X dX10_toolComes_7 (by decide) (fun cq7 => ?_) (fun cq7 => ?_)
    · refine ei_iconst (v := 0) X dX10_toolComes_22 rfl ?_
      refine ei_istore X dX10_toolComes_23 (Nat.le_of_ble_eq_true rfl) rfl ?_
      exact EF (by unfold toB; rw [decide_eq_false (Int32.not_le.mpr cq7), Bool.false_and, Bool.and_false])
    · refine ei_aload_n X dX10_toolComes_10 rfl rfl ?_
      refine ei_iload_n X dX10_toolComes_11 rfl rfl ?_
      refine ei_callI1 X ml_RX10_193 dX10_toolComes_12 (ct_X10_isBulb _ _ _ _ _ _ _ _ _ _ _ _ _ _ _ _ (by first | omega | assumption)) rfl rfl (by decide) (by decide) rfl (Nat.le_of_ble_eq_true rfl) ?_
      refine ei_ifz_eq (tgt := 22) X dX10_toolComes_15 (by decide) (fun cq15 => ?_) (fun cq15 => ?_)
      · refine ei_iconst (v := 0) X dX10_toolComes_22 rfl ?_
        refine ei_istore X dX10_toolComes_23 (Nat.le_of_ble_eq_true rfl) rfl ?_
        exact EF (by unfold toB; rw [cq15, Bool.and_false, Bool.and_false])
      · refine ei_iconst (v := 1) X dX10_toolComes_18 rfl ?_
        refine ei_goto (tgt := 23) X dX10_toolComes_19 (by decide) ?_
        refine ei_istore X dX10_toolComes_23 (Nat.le_of_ble_eq_true rfl) rfl ?_
        exact ET (by unfold toB; rw [cq15, decide_eq_true (Int32.not_le.mp cq2), decide_eq_true (Int32.not_lt.mp cq7)]; rfl)
set_option maxRecDepth 100000 in
set_option maxHeartbeats 1000000 in
theorem ct_X10_hoursCome (n : Nat) (w se sp hr lt hd sc : Int32) (so fi wo : Nat → Int32) (I : Nat → Int32) (A : Nat → Nat → Int32) (B : Nat → Nat → Int64) (K : Value) (m : Int32) (h_S : Good (n, w, se, sp, hr, lt, hd, sc, so, fi, wo)) (h_M : mI (I, A, B, K)) : e_Ct yX10_hoursCome cX10_hoursCome 3 (some .boolean) 7 [.ref 0, .int m] (mH (n, w, se, sp, hr, lt, hd, sc, so, fi, wo) (I, A, B, K)) (fun r h => r = some (.int (bz (hoursC (n, w, se, sp, hr, lt, hd, sc, so, fi, wo) m))) ∧ ∃ J, kI I J ∧ h = mH (if hoursC (n, w, se, sp, hr, lt, hd, sc, so, fi, wo) m = true then hoursS (n, w, se, sp, hr, lt, hd, sc, so, fi, wo) (nc m) else (n, w, se, sp, hr, lt, hd, sc, so, fi, wo)) (J, A, B, K)) := by
  refine e_open RX10 rfl (by decide +kernel) rfl (fun _ => Nat.le_of_ble_eq_true rfl) (fun x X F => ?_)
  obtain ⟨i11, i12⟩ := h_M
  simp only at i11 i12
  have EF : hoursC (n, w, se, sp, hr, lt, hd, sc, so, fi, wo) m = false → e_E x 30 [some (.ref 0), some (.int m), some (.int 0)] [] (mH (n, w, se, sp, hr, lt, hd, sc, so, fi, wo) (I, A, B, K)) := by
    intro h0
    refine ei_iload_n X dX10_hoursCome_30 rfl rfl ?_
    refine ei_if_eq (tgt := 39) X dX10_hoursCome_31 (by decide) (fun cq31 => ?_) (fun cq31 => ?_)
    · refine ei_iload_n X dX10_hoursCome_39 rfl rfl ?_
      refine ei_zreturn X F dX10_hoursCome_40 (by decide) ?_
      exact ⟨by rw [h0]; rfl, I, kI_rf I, by rw [h0, if_neg Bool.false_ne_true]⟩
    · first | exact absurd cq31 (by decide) | exact absurd (by decide) cq31
  have ET : hoursC (n, w, se, sp, hr, lt, hd, sc, so, fi, wo) m = true → e_E x 30 [some (.ref 0), some (.int m), some (.int 1)] [] (mH (n, w, se, sp, hr, lt, hd, sc, so, fi, wo) (I, A, B, K)) := by
    intro h1
    obtain ⟨k, hk1, hk2, rfl⟩ := (inI_iff (x := m) (lo := 1) (hi := 60) (by decide) (by decide)).mp ((Bool.and_eq_true _ _).mp h1).1
    have hnc : nc (nI k) = k := nc_nI (by omega)
    refine ei_iload_n X dX10_hoursCome_30 rfl rfl ?_
    refine ei_if_eq (tgt := 39) X dX10_hoursCome_31 (by decide) (fun cq31 => ?_) (fun cq31 => ?_)
    · first | exact absurd cq31 (by decide) | exact absurd (by decide) cq31
    · refine ei_aload_n X dX10_hoursCome_34 rfl rfl ?_
      refine ei_iload_n X dX10_hoursCome_35 rfl rfl ?_
      refine ei_callI X ml_RX10_204 dX10_hoursCome_36 (ct_X10_goHours _ _ _ _ _ _ _ _ _ _ _ _ _ _ _ k h_S i12 i11 (by omega)) rfl rfl (by decide) (by decide) rfl (Nat.le_of_ble_eq_true rfl) (fun r h2 hp => ?_)
      obtain ⟨rfl, J36, h36, rfl⟩ := hp
      refine ei_iload_n X dX10_hoursCome_39 rfl rfl ?_
      refine ei_zreturn X F dX10_hoursCome_40 (by decide) ?_
      exact ⟨by rw [h1]; rfl, J36, h36, by rw [h1, if_pos rfl, hnc]⟩
  refine ei_iload_n X dX10_hoursCome_0 rfl rfl ?_
  refine ei_i2l X dX10_hoursCome_1 ?_
  refine ei_lconst (v := 1) X dX10_hoursCome_2 rfl ?_
  refine ei_ldc2 X cw_RX10_202 dX10_hoursCome_3 ?_
  refine ei_callT1 X ml_RX10_84 dX10_hoursCome_6 (ct_X10_in _ _ _ _) rfl rfl (by decide) (by decide) (Nat.le_of_ble_eq_true rfl) ?_
  rw [in_1_60]
  refine ei_ifz_eq (tgt := 28) X dX10_hoursCome_9 (by decide) (fun cq9 => ?_) (fun cq9 => ?_)
  · refine ei_iconst (v := 0) X dX10_hoursCome_28 rfl ?_
    refine ei_istore_n X dX10_hoursCome_29 rfl (Nat.le_of_ble_eq_true rfl) rfl ?_
    exact EF (by unfold hoursC; rw [cq9, Bool.false_and])
  · refine ei_aload_n X dX10_hoursCome_12 rfl rfl ?_
    refine ei_getf X fl_RX10_105 dX10_hoursCome_13 rfl rfl ?_
    refine ei_iload_n X dX10_hoursCome_16 rfl rfl ?_
    refine ei_iadd X dX10_hoursCome_17 ?_
    refine ei_sipush (v := 999) X dX10_hoursCome_18 rfl ?_
    refine ei_icmp_gt (tgt := 28) X dX10_hoursCome_21 (by decide) (fun cq21 => ?_) (fun cq21 => ?_)
    · refine ei_iconst (v := 0) X dX10_hoursCome_28 rfl ?_
      refine ei_istore_n X dX10_hoursCome_29 rfl (Nat.le_of_ble_eq_true rfl) rfl ?_
      exact EF (by unfold hoursC; rw [decide_eq_false (Int32.not_le.mpr cq21), Bool.and_false])
    · refine ei_iconst (v := 1) X dX10_hoursCome_24 rfl ?_
      refine ei_goto (tgt := 29) X dX10_hoursCome_25 (by decide) ?_
      refine ei_istore_n X dX10_hoursCome_29 rfl (Nat.le_of_ble_eq_true rfl) rfl ?_
      exact ET (by unfold hoursC; rw [cq9, decide_eq_true (Int32.not_lt.mp cq21)]; rfl)

