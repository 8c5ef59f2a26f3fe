/-! ===== is suspect: the walk ===== -/
theorem susp_tt {z : Sh} {i j t : Nat} (h : zC z (3 * t) ≤ nI i ∧ nI j ≤ zC z (3 * t + 1)) (e : (zC z (3 * t + 2)).toInt64 = 1) : susp1 z i j t = true := by
  unfold susp1; rw [decide_eq_true h.1, decide_eq_true h.2, decide_eq_true ((i64_eq _ 1).mp e)]; rfl
theorem susp_tf {z : Sh} {i j t : Nat} (h : zC z (3 * t) ≤ nI i ∧ nI j ≤ zC z (3 * t + 1)) (e : ¬ (zC z (3 * t + 2)).toInt64 = 1) : susp1 z i j t = false := by
  unfold susp1; rw [decide_eq_true h.1, decide_eq_true h.2, decide_eq_false (fun q => e ((i64_eq _ 1).mpr q))]; rfl
theorem susp_ff {z : Sh} {i j t : Nat} (h : ¬ (zC z (3 * t) ≤ nI i ∧ nI j ≤ zC z (3 * t + 1))) (e : ¬ (zC z (3 * t + 2)).toInt64 = 1) : susp1 z i j t = true := by
  unfold susp1; rw [← Bool.decide_and, decide_eq_false h, decide_eq_false (fun q => e ((i64_eq _ 1).mpr q))]; rfl
theorem susp_ft {z : Sh} {i j t : Nat} (h : ¬ (zC z (3 * t) ≤ nI i ∧ nI j ≤ zC z (3 * t + 1))) (e : (zC z (3 * t + 2)).toInt64 = 1) : susp1 z i j t = false := by
  unfold susp1; rw [← Bool.decide_and, decide_eq_false h, decide_eq_true ((i64_eq _ 1).mp e)]; rfl
set_option maxRecDepth 100000 in
set_option maxHeartbeats 4000000 in
theorem ct_X10_isSuspect (n : Nat) (w se sp hr lt hd sc : Int32) (so fi wo : Nat → Int32) (I : Nat → Int32) (A : Nat → Nat → Int32) (B : Nat → Nat → Int64) (K : Value) (Z : Nat → Sh) (k i j : Nat) (v : Int32) (h_k : k < 8) (h_z : zH (Z k) = 2) (h_R : RS Z (I, A, B, K)) (h_n : n ≤ 10) (h_t : toldF n (Z k) = true) (h_i : i ≤ j) (h_j : j < n) (h_v : v = bitI i ||| bitI j) : e_Ct yX10_isSuspect cX10_isSuspect 8 (some .boolean) 1 [.ref 0, .int (nI k), .int v] (mH (n, w, se, sp, hr, lt, hd, sc, so, fi, wo) (I, A, B, K)) (e_eq (some (.int (bz (suspF (Z k) i j)))) (mH (n, w, se, sp, hr, lt, hd, sc, so, fi, wo) (I, A, B, K))) := by
  refine e_open RX10 rfl (by decide +kernel) rfl (fun _ => Nat.le_of_ble_eq_true rfl) (fun x X F => ?_)
  obtain ⟨o1, o2, o3, o4⟩ := h_R k h_k
  obtain ⟨z7, z8, z9⟩ := o4 h_z
  obtain ⟨hkk, hs⟩ := o1.2.2 h_z
  simp only at z7 z8 z9
  obtain ⟨t1, t2⟩ := (Bool.and_eq_true _ _).mp (show (decide (zN (Z k) % 3 = 0) && allF (told3 n (Z k)) 0 (zN (Z k) / 3)) = true from h_t)
  have t3 : zN (Z k) % 3 = 0 := of_decide_eq_true t1
  have L : ∀ (c t : Nat) (a : Bool), 50 - t < c → t ≤ 50 → allF (told3 n (Z k)) t (zN (Z k) / 3) = true → suspF (Z k) i j = (a && allF (susp1 (Z k) i j) t (zN (Z k) / 3)) → e_E x 5 [some (.ref 0), some (.int (nI k)), some (.int v), some (.int (bz a)), some (.int (nI (3 * t))), none, none, none] [] (mH (n, w, se, sp, hr, lt, hd, sc, so, fi, wo) (I, A, B, K)) := by
    intro c
    induction c with
    | zero => intro t a hc; exact absurd hc (Nat.not_lt_zero _)
    | succ c ih =>
      intro t a hc ht hp hv
      have N : ∀ (q : Bool) (x1 x2 x3 : Option Value), 3 * t < zN (Z k) → suspF (Z k) i j = (q && allF (susp1 (Z k) i j) (t + 1) (zN (Z k) / 3)) → e_E x 5 [some (.ref 0), some (.int (nI k)), some (.int v), some (.int (bz q)), some (.int (nI (3 * t) + 3)), x1, x2, x3] [] (mH (n, w, se, sp, hr, lt, hd, sc, so, fi, wo) (I, A, B, K)) := by
        intro q x1 x2 x3 h3 hq
        rw [show nI (3 * t) + 3 = nI (3 * (t + 1)) from nI_add (3 * t) 3]
        refine ei_drop 5 ?_
        refine ei_drop 6 ?_
        refine ei_drop 7 ?_
        rw [allF_lt (by omega)] at hp
        exact ih (t + 1) q (by omega) (by omega) ((Bool.and_eq_true _ _).mp hp).2 hq
      refine ei_iload X dX10_isSuspect_5 rfl ?_
      refine ei_aload_n X dX10_isSuspect_7 rfl rfl ?_
      refine ei_getf X fl_RX10_38 dX10_isSuspect_8 rfl rfl ?_
      refine ei_iload_n X dX10_isSuspect_11 rfl rfl ?_
      refine ei_iaload_n X dX10_isSuspect_12 rfl (by first | omega | assumption) (by decide) ?_
      rw [z8]
      refine ei_icmpn_ge (tgt := 118) X dX10_isSuspect_13 (by decide) (by first | omega | assumption) (by first | omega | assumption) (fun cq13 => ?_) (fun cq13 => ?_)
      · refine ei_iload_n X dX10_isSuspect_118 rfl rfl ?_
        refine ei_zreturn X F dX10_isSuspect_119 (bz_nar _) ?_
        exact ⟨by rw [hv, allF_ge (by omega), Bool.and_true], rfl⟩
      · refine ei_iload_n X dX10_isSuspect_16 rfl rfl ?_
        refine ei_ifz_eq (tgt := 118) X dX10_isSuspect_17 (by decide) (fun cq17 => ?_) (fun cq17 => ?_)
        · refine ei_iload_n X dX10_isSuspect_118 rfl rfl ?_
          refine ei_zreturn X F dX10_isSuspect_119 (bz_nar _) ?_
          exact ⟨by rw [hv, cq17]; rfl, rfl⟩
        · refine ei_aload_n X dX10_isSuspect_20 rfl rfl ?_
          refine ei_getf X fl_RX10_41 dX10_isSuspect_21 rfl rfl ?_
          refine ei_bipush (v := nI 100) X dX10_isSuspect_24 rfl ?_
          refine ei_iload_n X dX10_isSuspect_26 rfl rfl ?_
          refine ei_imul X dX10_isSuspect_27 ?_
          rw [nI_mul]
          refine ei_iload X dX10_isSuspect_28 rfl ?_
          refine ei_iadd X dX10_isSuspect_30 ?_
          rw [nI_add]
          refine ei_laload_n X dX10_isSuspect_31 rfl (by first | omega | assumption) (by decide) ?_
          rw [z9 (3 * t) (by omega)]
          refine ei_l2i X dX10_isSuspect_32 ?_
          rw [i64_back]
          refine ei_istore X dX10_isSuspect_33 (Nat.le_of_ble_eq_true rfl) rfl ?_
          refine ei_aload_n X dX10_isSuspect_35 rfl rfl ?_
          refine ei_getf X fl_RX10_41 dX10_isSuspect_36 rfl rfl ?_
          refine ei_bipush (v := nI 100) X dX10_isSuspect_39 rfl ?_
          refine ei_iload_n X dX10_isSuspect_41 rfl rfl ?_
          refine ei_imul X dX10_isSuspect_42 ?_
          rw [nI_mul]
          refine ei_iload X dX10_isSuspect_43 rfl ?_
          refine ei_iadd X dX10_isSuspect_45 ?_
          rw [nI_add]
          refine ei_iconst (v := nI 1) X dX10_isSuspect_46 rfl ?_
          refine ei_iadd X dX10_isSuspect_47 ?_
          rw [nI_add]
          refine ei_laload_n X dX10_isSuspect_48 rfl (by first | omega | assumption) (by decide) ?_
          rw [show 100 * k + 3 * t + 1 = 100 * k + (3 * t + 1) from rfl, z9 (3 * t + 1) (by omega)]
          refine ei_l2i X dX10_isSuspect_49 ?_
          rw [i64_back]
          refine ei_istore X dX10_isSuspect_50 (Nat.le_of_ble_eq_true rfl) rfl ?_
          refine ei_iconst (v := 1) X dX10_isSuspect_52 rfl ?_
          refine ei_iload X dX10_isSuspect_53 rfl ?_
          refine ei_iconst (v := 1) X dX10_isSuspect_55 rfl ?_
          refine ei_iadd X dX10_isSuspect_56 ?_
          refine ei_ishl X dX10_isSuspect_57 ?_
          refine ei_iconst (v := 1) X dX10_isSuspect_58 rfl ?_
          refine ei_iload X dX10_isSuspect_59 rfl ?_
          refine ei_ishl X dX10_isSuspect_61 ?_
          refine ei_isub X dX10_isSuspect_62 ?_
          refine ei_istore X dX10_isSuspect_63 (Nat.le_of_ble_eq_true rfl) rfl ?_
          refine ei_iload_n X dX10_isSuspect_65 rfl rfl ?_
          refine ei_iload X dX10_isSuspect_66 rfl ?_
          refine ei_iconst (v := -1) X dX10_isSuspect_68 rfl ?_
          refine ei_ixor X dX10_isSuspect_69 ?_
          refine ei_iand X dX10_isSuspect_70 ?_
          have hr : (v &&& (((1 <<< ((zC (Z k) (3 * t + 1) + 1) &&& 31)) - (1 <<< (zC (Z k) (3 * t) &&& 31))) ^^^ (-1)) = 0) ↔ (zC (Z k) (3 * t) ≤ nI i ∧ nI j ≤ zC (Z k) (3 * t + 1))   := susp_m h_n h_i h_j h_v (by rw [allF_lt (by omega)] at hp; exact ((Bool.and_eq_true _ _).mp hp).1)
          refine ei_if_ne (tgt := 78) X dX10_isSuspect_71 (by decide) (fun cq71 => ?_) (fun cq71 => ?_)
          · refine ei_iconst (v := 0) X dX10_isSuspect_78 rfl ?_
            refine ei_aload_n X dX10_isSuspect_79 rfl rfl ?_
            refine ei_getf X fl_RX10_41 dX10_isSuspect_80 rfl rfl ?_
            refine ei_bipush (v := nI 100) X dX10_isSuspect_83 rfl ?_
            refine ei_iload_n X dX10_isSuspect_85 rfl rfl ?_
            refine ei_imul X dX10_isSuspect_86 ?_
            rw [nI_mul]
            refine ei_iload X dX10_isSuspect_87 rfl ?_
            refine ei_iadd X dX10_isSuspect_89 ?_
            rw [nI_add]
            refine ei_iconst (v := nI 2) X dX10_isSuspect_90 rfl ?_
            refine ei_iadd X dX10_isSuspect_91 ?_
            rw [nI_add]
            refine ei_laload_n X dX10_isSuspect_92 rfl (by first | omega | assumption) (by decide) ?_
            rw [show 100 * k + 3 * t + 2 = 100 * k + (3 * t + 2) from rfl, z9 (3 * t + 2) (by omega)]
            refine ei_lconst (v := 1) X dX10_isSuspect_93 rfl ?_
            refine ei_lcmp X dX10_isSuspect_94 ?_
            refine ei_ifc_ne (tgt := 102) X dX10_isSuspect_95 (by decide) (fun cq95 => ?_) (fun cq95 => ?_)
            · refine ei_iconst (v := 0) X dX10_isSuspect_102 rfl ?_
              refine ei_icmp_ne (tgt := 110) X dX10_isSuspect_103 (by decide) (fun cq103 => ?_) (fun cq103 => ?_)
              · refine ei_iconst (v := 0) X dX10_isSuspect_110 rfl ?_
                refine ei_istore_n X dX10_isSuspect_111 rfl (Nat.le_of_ble_eq_true rfl) rfl ?_
                refine ei_iinc (v := _ + 3) X dX10_isSuspect_112 rfl rfl rfl ?_
                refine ei_goto (tgt := 5) X dX10_isSuspect_115 (by decide) ?_
                exact absurd rfl cq103
              · refine ei_iconst (v := 1) X dX10_isSuspect_106 rfl ?_
                refine ei_goto (tgt := 111) X dX10_isSuspect_107 (by decide) ?_
                refine ei_istore_n X dX10_isSuspect_111 rfl (Nat.le_of_ble_eq_true rfl) rfl ?_
                refine ei_iinc (v := _ + 3) X dX10_isSuspect_112 rfl rfl rfl ?_
                refine ei_goto (tgt := 5) X dX10_isSuspect_115 (by decide) ?_
                exact N true _ _ _ (by omega) (by rw [hv, cq17, allF_lt (by omega), susp_ff (fun q => cq71 (hr.mpr q)) cq95]; rfl)
            · refine ei_iconst (v := 1) X dX10_isSuspect_98 rfl ?_
              refine ei_goto (tgt := 103) X dX10_isSuspect_99 (by decide) ?_
              refine ei_icmp_ne (tgt := 110) X dX10_isSuspect_103 (by decide) (fun cq103 => ?_) (fun cq103 => ?_)
              · refine ei_iconst (v := 0) X dX10_isSuspect_110 rfl ?_
                refine ei_istore_n X dX10_isSuspect_111 rfl (Nat.le_of_ble_eq_true rfl) rfl ?_
                refine ei_iinc (v := _ + 3) X dX10_isSuspect_112 rfl rfl rfl ?_
                refine ei_goto (tgt := 5) X dX10_isSuspect_115 (by decide) ?_
                exact N false _ _ _ (by omega) (by rw [hv, cq17, allF_lt (by omega), susp_ft (fun q => cq71 (hr.mpr q)) cq95]; rfl)
              · refine ei_iconst (v := 1) X dX10_isSuspect_106 rfl ?_
                refine ei_goto (tgt := 111) X dX10_isSuspect_107 (by decide) ?_
                refine ei_istore_n X dX10_isSuspect_111 rfl (Nat.le_of_ble_eq_true rfl) rfl ?_
                refine ei_iinc (v := _ + 3) X dX10_isSuspect_112 rfl rfl rfl ?_
                refine ei_goto (tgt := 5) X dX10_isSuspect_115 (by decide) ?_
                exact absurd cq103 (by decide)
          · refine ei_iconst (v := 1) X dX10_isSuspect_74 rfl ?_
            refine ei_goto (tgt := 79) X dX10_isSuspect_75 (by decide) ?_
            refine ei_aload_n X dX10_isSuspect_79 rfl rfl ?_
            refine ei_getf X fl_RX10_41 dX10_isSuspect_80 rfl rfl ?_
            refine ei_bipush (v := nI 100) X dX10_isSuspect_83 rfl ?_
            refine ei_iload_n X dX10_isSuspect_85 rfl rfl ?_
            refine ei_imul X dX10_isSuspect_86 ?_
            rw [nI_mul]
            refine ei_iload X dX10_isSuspect_87 rfl ?_
            refine ei_iadd X dX10_isSuspect_89 ?_
            rw [nI_add]
            refine ei_iconst (v := nI 2) X dX10_isSuspect_90 rfl ?_
            refine ei_iadd X dX10_isSuspect_91 ?_
            rw [nI_add]
            refine ei_laload_n X dX10_isSuspect_92 rfl (by first | omega | assumption) (by decide) ?_
            rw [show 100 * k + 3 * t + 2 = 100 * k + (3 * t + 2) from rfl, z9 (3 * t + 2) (by omega)]
            refine ei_lconst (v := 1) X dX10_isSuspect_93 rfl ?_
            refine ei_lcmp X dX10_isSuspect_94 ?_
            refine ei_ifc_ne (tgt := 102) X dX10_isSuspect_95 (by decide) (fun cq95 => ?_) (fun cq95 => ?_)
            · refine ei_iconst (v := 0) X dX10_isSuspect_102 rfl ?_
              refine ei_icmp_ne (tgt := 110) X dX10_isSuspect_103 (by decide) (fun cq103 => ?_) (fun cq103 => ?_)
              · refine ei_iconst (v := 0) X dX10_isSuspect_110 rfl ?_
                refine ei_istore_n X dX10_isSuspect_111 rfl (Nat.le_of_ble_eq_true rfl) rfl ?_
                refine ei_iinc (v := _ + 3) X dX10_isSuspect_112 rfl rfl rfl ?_
                refine ei_goto (tgt := 5) X dX10_isSuspect_115 (by decide) ?_
                exact N false _ _ _ (by omega) (by rw [hv, cq17, allF_lt (by omega), susp_tf (hr.mp cq71) cq95]; rfl)
              · refine ei_iconst (v := 1) X dX10_isSuspect_106 rfl ?_
                refine ei_goto (tgt := 111) X dX10_isSuspect_107 (by decide) ?_
                refine ei_istore_n X dX10_isSuspect_111 rfl (Nat.le_of_ble_eq_true rfl) rfl ?_
                refine ei_iinc (v := _ + 3) X dX10_isSuspect_112 rfl rfl rfl ?_
                refine ei_goto (tgt := 5) X dX10_isSuspect_115 (by decide) ?_
                exact absurd cq103 (by decide)
            · refine ei_iconst (v := 1) X dX10_isSuspect_98 rfl ?_
              refine ei_goto (tgt := 103) X dX10_isSuspect_99 (by decide) ?_
              refine ei_icmp_ne (tgt := 110) X dX10_isSuspect_103 (by decide) (fun cq103 => ?_) (fun cq103 => ?_)
              · refine ei_iconst (v := 0) X dX10_isSuspect_110 rfl ?_
                refine ei_istore_n X dX10_isSuspect_111 rfl (Nat.le_of_ble_eq_true rfl) rfl ?_
                refine ei_iinc (v := _ + 3) X dX10_isSuspect_112 rfl rfl rfl ?_
                refine ei_goto (tgt := 5) X dX10_isSuspect_115 (by decide) ?_
                exact absurd rfl cq103
              · refine ei_iconst (v := 1) X dX10_isSuspect_106 rfl ?_
                refine ei_goto (tgt := 111) X dX10_isSuspect_107 (by decide) ?_
                refine ei_istore_n X dX10_isSuspect_111 rfl (Nat.le_of_ble_eq_true rfl) rfl ?_
                refine ei_iinc (v := _ + 3) X dX10_isSuspect_112 rfl rfl rfl ?_
                refine ei_goto (tgt := 5) X dX10_isSuspect_115 (by decide) ?_
                exact N true _ _ _ (by omega) (by rw [hv, cq17, allF_lt (by omega), susp_tt (hr.mp cq71) cq95]; rfl)
  refine ei_iconst (v := 1) X dX10_isSuspect_0 rfl ?_
  refine ei_istore_n X dX10_isSuspect_1 rfl (Nat.le_of_ble_eq_true rfl) rfl ?_
  refine ei_iconst (v := 0) X dX10_isSuspect_2 rfl ?_
  refine ei_istore X dX10_isSuspect_3 (Nat.le_of_ble_eq_true rfl) rfl ?_
  exact L 51 0 true (by omega) (by omega) t2 rfl

