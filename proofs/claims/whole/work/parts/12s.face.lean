set_option maxRecDepth 100000 in
set_option maxHeartbeats 1000000 in
theorem ct_X9_winters (n : Nat) (w se sp hr lt hd sc : Int32) (so fi wo : Nat → Int32) (D T : St) (im : Bool) (Z : Nat → Sh) (be : Nat → Int32) (m z what : Int32) (h_S : Good (n, w, se, sp, hr, lt, hd, sc, so, fi, wo)) (h_0 : dg0 be) : e_Ct yX9_winters cX9_winters 8 (some .int) 6 [.ref 0, .int m, .int z, .int what] (oH (n, w, se, sp, hr, lt, hd, sc, so, fi, wo) D T im Z be) (fP (.int (wintersF (n, w, se, sp, hr, lt, hd, sc, so, fi, wo) m z what)) (n, w, se, sp, hr, lt, hd, sc, so, fi, wo) T im Z) := by
  refine e_open RX9 rfl (by decide +kernel) rfl (fun _ => Nat.le_of_ble_eq_true rfl) (fun x X F => ?_)
  have hn : n ≤ 10 := h_S.1
  have L : ∀ mk, mk ≤ 20 → m = nI mk → wintersF (n, w, se, sp, hr, lt, hd, sc, so, fi, wo) m z what = (itr (wint1 (n, w, se, sp, hr, lt, hd, sc, so, fi, wo) what) (z, 0) 0 mk).2 → (what = 0 ∨ what = 1) → ∀ (c i : Nat) (sd lm ou : Int32) (D3 : St), mk - i < c → i ≤ mk → (itr (wint1 (n, w, se, sp, hr, lt, hd, sc, so, fi, wo) 0) (z, 0) 0 mk).2 = (itr (wint1 (n, w, se, sp, hr, lt, hd, sc, so, fi, wo) 0) (sd, lm) i (mk - i)).2 → (itr (wint1 (n, w, se, sp, hr, lt, hd, sc, so, fi, wo) 1) (z, 0) 0 mk).2 = (itr (wint1 (n, w, se, sp, hr, lt, hd, sc, so, fi, wo) 1) (sd, ou) i (mk - i)).2 → e_E x 33 [some (.ref 0), some (.int (nI mk)), some (.int z), some (.int what), some (.int sd), some (.int lm), some (.int ou), some (.int (nI i))] [] (oH (n, w, se, sp, hr, lt, hd, sc, so, fi, wo) D3 T im Z be) := by
    intro mk hmk hm hF hwh c
    induction c with
    | zero => intro i sd lm ou D3 hc; exact absurd hc (Nat.not_lt_zero _)
    | succ c ih =>
      intro i sd lm ou D3 hc hi hv0 hv1
      have hgf : GdV (drawF n sd fi).2 9 := draw_gd h_S.2.2.1
      have hg2 : Good (n, w, se, sp, hr, lt, hd, sc, so, (drawF n sd fi).2, wo) := ⟨h_S.1, h_S.2.1, hgf, h_S.2.2.2⟩
      obtain ⟨w3, se3, hr3, lt3, wo3, e2⟩ := hours_ex (n, w, se, sp, hr, lt, hd, sc, so, (drawF n sd fi).2, wo) 20
      have hg3 := good_at hg2 20
      simp only [sN, sW, sE, sP, sH, sL, sD, sC, sO, sG, sR] at e2
      rw [e2] at hg3
      have hw0 : wint1 (n, w, se, sp, hr, lt, hd, sc, so, fi, wo) 0 (sd, lm) i = ((drawF n sd fi).1, lm + (lt3 - lt)) := by
        unfold wint1
        simp only [sN, sW, sE, sP, sH, sL, sD, sC, sO, sG, sR, e2, if_true]
      have hw1 : wint1 (n, w, se, sp, hr, lt, hd, sc, so, fi, wo) 1 (sd, ou) i = ((drawF n sd fi).1, ou + (nI n - popF w3)) := by
        unfold wint1
        simp only [sN, sW, sE, sP, sH, sL, sD, sC, sO, sG, sR, e2, if_neg (show ¬ (1 : Int32) = 0 by decide)]
      refine ei_iload X dX9_winters_33 rfl ?_
      refine ei_iload_n X dX9_winters_35 rfl rfl ?_
      refine ei_icmpn_ge (tgt := 119) X dX9_winters_36 (by decide) (by first | omega | assumption) (by first | omega | assumption) (fun cq36 => ?_) (fun cq36 => ?_)
      · refine ei_iload_n X dX9_winters_119 rfl rfl ?_
        refine ei_if_ne (tgt := 128) X dX9_winters_120 (by decide) (fun cq120 => ?_) (fun cq120 => ?_)
        · refine ei_iload X dX9_winters_128 rfl ?_
          refine ei_ireturn X F dX9_winters_130 ?_
          have h1 : what = 1 := hwh.elim (fun y => absurd y cq120) (fun y => y)
          exact ⟨by rw [hF, h1, hv1, itr_ge _ _ (by omega)], D3, be, h_0, rfl⟩
        · refine ei_iload X dX9_winters_123 rfl ?_
          refine ei_goto (tgt := 130) X dX9_winters_125 (by decide) ?_
          refine ei_ireturn X F dX9_winters_130 ?_
          exact ⟨by rw [hF, cq120, hv0, itr_ge _ _ (by omega)], D3, be, h_0, rfl⟩
      · refine ei_aload_n X dX9_winters_39 rfl rfl ?_
        refine ei_getf X fl_RX9_16 dX9_winters_40 rfl rfl ?_
        refine ei_aload_n X dX9_winters_43 rfl rfl ?_
        refine ei_getf X fl_RX9_10 dX9_winters_44 rfl rfl ?_
        refine ei_cv0 [5, 6, 7, 8, 1, 2, 3, 4] (oH_gDN _ _ _ _ _ _) (oH_pDN _ _ _ _ _ _ _) X ml_RX9_44 dX9_winters_47 (ct_X2_becomes _ _) rfl rfl (by decide) (by decide) rfl (Nat.le_of_ble_eq_true rfl) (by decide) ?_
        refine ei_aload_n X dX9_winters_50 rfl rfl ?_
        refine ei_getf X fl_RX9_16 dX9_winters_51 rfl rfl ?_
        refine ei_iload X dX9_winters_54 rfl ?_
        refine ei_cv1 [5, 6, 7, 8] (oH_gD _ _ _ _ _ _) (oH_pD _ _ _ _ _ _ _) X ml_RX9_288 dX9_winters_56 (ct_X2_drawFigures _ _ _ _ _ _ _ _ _ _ _ sd hn) rfl rfl (by decide) (by decide) rfl (Nat.le_of_ble_eq_true rfl) (by decide) ?_
        refine ei_istore X dX9_winters_59 (Nat.le_of_ble_eq_true rfl) rfl ?_
        refine ei_aload_n X dX9_winters_61 rfl rfl ?_
        refine ei_getf X fl_RX9_16 dX9_winters_62 rfl rfl ?_
        refine ei_bipush (v := nI 20) X dX9_winters_65 rfl ?_
        refine ei_cv0 [5, 6, 7, 8] (oH_gD _ _ _ _ _ _) (oH_pD _ _ _ _ _ _ _) X ml_RX9_138 dX9_winters_67 (ct_X2_pass _ _ _ _ _ _ _ _ _ _ _ 20 hn (by decide)) rfl rfl (by decide) (by decide) rfl (Nat.le_of_ble_eq_true rfl) (by decide) ?_
        show e_E x _ _ _ (oH _ (hoursS (n, w, se, sp, hr, lt, hd, sc, so, (drawF n sd fi).2, wo) 20) _ _ _ _)
        rw [e2]
        refine ei_iload X dX9_winters_70 rfl ?_
        refine ei_aload_n X dX9_winters_72 rfl rfl ?_
        refine ei_getf X fl_RX9_16 dX9_winters_73 rfl rfl ?_
        refine ei_getf X fl_RX9_135 dX9_winters_76 rfl rfl ?_
        refine ei_aload_n X dX9_winters_79 rfl rfl ?_
        refine ei_getf X fl_RX9_10 dX9_winters_80 rfl rfl ?_
        refine ei_getf X fl_RX9_135 dX9_winters_83 rfl rfl ?_
        refine ei_isub X dX9_winters_86 ?_
        refine ei_iadd X dX9_winters_87 ?_
        refine ei_istore X dX9_winters_88 (Nat.le_of_ble_eq_true rfl) rfl ?_
        refine ei_iload X dX9_winters_90 rfl ?_
        refine ei_aload_n X dX9_winters_92 rfl rfl ?_
        refine ei_getf X fl_RX9_16 dX9_winters_93 rfl rfl ?_
        refine ei_getf X fl_RX9_109 dX9_winters_96 rfl rfl ?_
        refine ei_aload_n X dX9_winters_99 rfl rfl ?_
        refine ei_getf X fl_RX9_16 dX9_winters_100 rfl rfl ?_
        refine ei_getf X fl_RX9_141 dX9_winters_103 rfl rfl ?_
        refine ei_callT1 X ml_RX9_215 dX9_winters_106 (ct_J6_bitCount_0f7a4 _ _ hg3.2.2.2.2.2.2.2.2.1) rfl rfl (by decide) (by decide) (Nat.le_of_ble_eq_true rfl) ?_
        refine ei_isub X dX9_winters_109 ?_
        refine ei_iadd X dX9_winters_110 ?_
        refine ei_istore X dX9_winters_111 (Nat.le_of_ble_eq_true rfl) rfl ?_
        refine ei_iinc_n X dX9_winters_113 rfl rfl ?_
        refine ei_goto (tgt := 33) X dX9_winters_116 (by decide) ?_
        exact ih (i + 1) (drawF n sd fi).1 (lm + (lt3 - lt)) (ou + (nI n - popF w3)) _ (by omega) (by omega) (by rw [hv0, itr_lt _ _ (by omega), hw0]) (by rw [hv1, itr_lt _ _ (by omega), hw1])
  refine ei_iload_n X dX9_winters_0 rfl rfl ?_
  refine ei_iconst (v := 1) X dX9_winters_1 rfl ?_
  refine ei_bipush (v := 20) X dX9_winters_2 rfl ?_
  refine ei_callT1 X ml_RX9_112 dX9_winters_4 (ct_X9_within _ _ _ _) rfl rfl (by decide) (by decide) (Nat.le_of_ble_eq_true rfl) ?_
  refine ei_ifz_eq (tgt := 19) X dX9_winters_7 (by decide) (fun cq7 => ?_) (fun cq7 => ?_)
  · refine ei_iconst (v := -1) X dX9_winters_19 rfl ?_
    refine ei_ireturn X F dX9_winters_20 ?_
    exact ⟨by unfold wintersF; rw [if_neg (fun y => Bool.false_ne_true (cq7.symm.trans y.1))], D, be, h_0, rfl⟩
  · refine ei_iload_n X dX9_winters_10 rfl rfl ?_
    refine ei_iconst (v := 0) X dX9_winters_11 rfl ?_
    refine ei_iconst (v := 1) X dX9_winters_12 rfl ?_
    refine ei_callT1 X ml_RX9_112 dX9_winters_13 (ct_X9_within _ _ _ _) rfl rfl (by decide) (by decide) (Nat.le_of_ble_eq_true rfl) ?_
    refine ei_ifz_ne (tgt := 21) X dX9_winters_16 (by decide) (fun cq16 => ?_) (fun cq16 => ?_)
    · obtain ⟨mk, hmk1, hmk, em⟩ := (inI_iff (lo := 1) (hi := 20) (by decide) (by decide)).mp cq7
      refine ei_iload_n X dX9_winters_21 rfl rfl ?_
      refine ei_istore X dX9_winters_22 (Nat.le_of_ble_eq_true rfl) rfl ?_
      refine ei_iconst (v := 0) X dX9_winters_24 rfl ?_
      refine ei_istore X dX9_winters_25 (Nat.le_of_ble_eq_true rfl) rfl ?_
      refine ei_iconst (v := 0) X dX9_winters_27 rfl ?_
      refine ei_istore X dX9_winters_28 (Nat.le_of_ble_eq_true rfl) rfl ?_
      refine ei_iconst (v := nI 0) X dX9_winters_30 rfl ?_
      refine ei_istore X dX9_winters_31 (Nat.le_of_ble_eq_true rfl) rfl ?_
      have h0 := L mk hmk em (by unfold wintersF; rw [if_pos ⟨cq7, cq16⟩, em, nc_nI (by omega)]) (part01 cq16) (mk + 1) 0 z 0 0 D (by omega) (Nat.zero_le _) rfl rfl
      rw [← em] at h0
      exact h0
    · refine ei_iconst (v := -1) X dX9_winters_19 rfl ?_
      refine ei_ireturn X F dX9_winters_20 ?_
      exact ⟨by unfold wintersF; rw [if_neg (fun y => Bool.false_ne_true (cq16.symm.trans y.2))], D, be, h_0, rfl⟩
set_option maxRecDepth 100000 in
set_option maxHeartbeats 1000000 in
theorem ct_X9_image (n : Nat) (w se sp hr lt hd sc : Int32) (so fi wo : Nat → Int32) (D T : St) (im : Bool) (Z : Nat → Sh) (be : Nat → Int32) (h_0 : dg0 be) : e_Ct yX9_image cX9_image 1 (some .int) 2 [.ref 0] (oH (n, w, se, sp, hr, lt, hd, sc, so, fi, wo) D T im Z be) (fP (.int hr) (n, w, se, sp, hr, lt, hd, sc, so, fi, wo) (n, w, se, sp, hr, lt, hd, sc, so, fi, wo) true Z) := by
  refine e_open RX9 rfl (by decide +kernel) rfl (fun _ => Nat.le_of_ble_eq_true rfl) (fun x X F => ?_)
  refine ei_aload_n X dX9_image_0 rfl rfl ?_
  refine ei_getf X fl_RX9_19 dX9_image_1 rfl rfl ?_
  refine ei_aload_n X dX9_image_4 rfl rfl ?_
  refine ei_getf X fl_RX9_10 dX9_image_5 rfl rfl ?_
  refine ei_cv0 [9, 10, 11, 12, 1, 2, 3, 4] (oH_gTN _ _ _ _ _ _) (oH_pTN _ _ _ _ _ _ _) X ml_RX9_44 dX9_image_8 (ct_X2_becomes _ _) rfl rfl (by decide) (by decide) rfl (Nat.le_of_ble_eq_true rfl) (by decide) ?_
  refine ei_aload_n X dX9_image_11 rfl rfl ?_
  refine ei_iconst (v := 1) X dX9_image_12 rfl ?_
  refine ei_putz X fp_RX9_291 dX9_image_13 rfl (Nat.le_of_ble_eq_true rfl) (by decide) (po_im _ _ _ _ _ _) ?_
  refine ei_aload_n X dX9_image_16 rfl rfl ?_
  refine ei_getf X fl_RX9_10 dX9_image_17 rfl rfl ?_
  refine ei_getf X fl_RX9_87 dX9_image_20 rfl rfl ?_
  refine ei_ireturn X F dX9_image_23 ?_
  exact ⟨rfl, D, be, h_0, rfl⟩
set_option maxRecDepth 100000 in
set_option maxHeartbeats 1000000 in
theorem ct_X9_restore (n : Nat) (w se sp hr lt hd sc : Int32) (so fi wo : Nat → Int32) (D T : St) (im : Bool) (Z : Nat → Sh) (be : Nat → Int32) (h_0 : dg0 be) : e_Ct yX9_restore cX9_restore 1 (some .int) 2 [.ref 0] (oH (n, w, se, sp, hr, lt, hd, sc, so, fi, wo) D T im Z be) (fP (.int (if im = true then sH T else -3)) (if im = true then T else (n, w, se, sp, hr, lt, hd, sc, so, fi, wo)) T im Z) := by
  refine e_open RX9 rfl (by decide +kernel) rfl (fun _ => Nat.le_of_ble_eq_true rfl) (fun x X F => ?_)
  refine ei_aload_n X dX9_restore_0 rfl rfl ?_
  refine ei_getf X fl_RX9_291 dX9_restore_1 rfl rfl ?_
  refine ei_ifz_ne (tgt := 10) X dX9_restore_4 (by decide) (fun cq4 => ?_) (fun cq4 => ?_)
  · refine ei_aload_n X dX9_restore_10 rfl rfl ?_
    refine ei_getf X fl_RX9_10 dX9_restore_11 rfl rfl ?_
    refine ei_aload_n X dX9_restore_14 rfl rfl ?_
    refine ei_getf X fl_RX9_19 dX9_restore_15 rfl rfl ?_
    refine ei_cv0 [1, 2, 3, 4, 9, 10, 11, 12] (oH_gNT _ _ _ _ _ _) (oH_pNT _ _ _ _ _ _ _) X ml_RX9_44 dX9_restore_18 (ct_X2_becomes _ _) rfl rfl (by decide) (by decide) rfl (Nat.le_of_ble_eq_true rfl) (by decide) ?_
    refine ei_aload_n X dX9_restore_21 rfl rfl ?_
    refine ei_getf X fl_RX9_10 dX9_restore_22 rfl rfl ?_
    refine ei_getf X fl_RX9_87 dX9_restore_25 rfl rfl ?_
    refine ei_ireturn X F dX9_restore_28 ?_
    exact ⟨by rw [cq4, if_pos rfl], D, be, h_0, by rw [cq4, if_pos rfl]⟩
  · refine ei_bipush (v := -3) X dX9_restore_7 rfl ?_
    refine ei_ireturn X F dX9_restore_9 ?_
    exact ⟨by rw [cq4, if_neg Bool.false_ne_true], D, be, h_0, by rw [cq4, if_neg Bool.false_ne_true]⟩
set_option maxRecDepth 100000 in
set_option maxHeartbeats 1000000 in
theorem ct_X9_count (n : Nat) (w se sp hr lt hd sc : Int32) (so fi wo : Nat → Int32) (D T : St) (im : Bool) (Z : Nat → Sh) (be : Nat → Int32) (what : Int32) (h_0 : dg0 be) : e_Ct yX9_count cX9_count 2 (some .int) 1 [.ref 0, .int what] (oH (n, w, se, sp, hr, lt, hd, sc, so, fi, wo) D T im Z be) (fP (.int (countF (n, w, se, sp, hr, lt, hd, sc, so, fi, wo) what)) (n, w, se, sp, hr, lt, hd, sc, so, fi, wo) T im Z) := by
  refine e_open RX9 rfl (by decide +kernel) rfl (fun _ => Nat.le_of_ble_eq_true rfl) (fun x X F => ?_)
  refine ei_iload_n X dX9_count_0 rfl rfl ?_
  refine ei_table [(0, 48), (1, 56), (2, 64), (3, 72), (4, 80), (5, 88), (6, 96), (7, 104)] 112 X dX9_count_1 (by decide) (by decide) (by decide) ⟨fun cq1 => ?_, fun cq1 => ?_, fun cq1 => ?_, fun cq1 => ?_, fun cq1 => ?_, fun cq1 => ?_, fun cq1 => ?_, fun cq1 => ?_, trivial⟩ (fun cq1 => ?_)
  · refine ei_aload_n X dX9_count_48 rfl rfl ?_
    refine ei_getf X fl_RX9_10 dX9_count_49 rfl rfl ?_
    refine ei_getf X fl_RX9_109 dX9_count_52 rfl rfl ?_
    refine ei_ireturn X F dX9_count_55 ?_
    exact ⟨by simp [countF, cq1], D, be, h_0, rfl⟩
  · refine ei_aload_n X dX9_count_56 rfl rfl ?_
    refine ei_getf X fl_RX9_10 dX9_count_57 rfl rfl ?_
    refine ei_getf X fl_RX9_87 dX9_count_60 rfl rfl ?_
    refine ei_ireturn X F dX9_count_63 ?_
    exact ⟨by simp [countF, cq1], D, be, h_0, rfl⟩
  · refine ei_aload_n X dX9_count_64 rfl rfl ?_
    refine ei_getf X fl_RX9_10 dX9_count_65 rfl rfl ?_
    refine ei_getf X fl_RX9_135 dX9_count_68 rfl rfl ?_
    refine ei_ireturn X F dX9_count_71 ?_
    exact ⟨by simp [countF, cq1], D, be, h_0, rfl⟩
  · refine ei_aload_n X dX9_count_72 rfl rfl ?_
    refine ei_getf X fl_RX9_10 dX9_count_73 rfl rfl ?_
    refine ei_getf X fl_RX9_120 dX9_count_76 rfl rfl ?_
    refine ei_ireturn X F dX9_count_79 ?_
    exact ⟨by simp [countF, cq1], D, be, h_0, rfl⟩
  · refine ei_aload_n X dX9_count_80 rfl rfl ?_
    refine ei_getf X fl_RX9_10 dX9_count_81 rfl rfl ?_
    refine ei_getf X fl_RX9_295 dX9_count_84 rfl rfl ?_
    refine ei_ireturn X F dX9_count_87 ?_
    exact ⟨by simp [countF, cq1], D, be, h_0, rfl⟩
  · refine ei_aload_n X dX9_count_88 rfl rfl ?_
    refine ei_getf X fl_RX9_10 dX9_count_89 rfl rfl ?_
    refine ei_getf X fl_RX9_180 dX9_count_92 rfl rfl ?_
    refine ei_ireturn X F dX9_count_95 ?_
    exact ⟨by simp [countF, cq1], D, be, h_0, rfl⟩
  · refine ei_aload_n X dX9_count_96 rfl rfl ?_
    refine ei_getf X fl_RX9_10 dX9_count_97 rfl rfl ?_
    refine ei_getf X fl_RX9_141 dX9_count_100 rfl rfl ?_
    refine ei_ireturn X F dX9_count_103 ?_
    exact ⟨by simp [countF, cq1], D, be, h_0, rfl⟩
  · refine ei_aload_n X dX9_count_104 rfl rfl ?_
    refine ei_getf X fl_RX9_10 dX9_count_105 rfl rfl ?_
    refine ei_getf X fl_RX9_297 dX9_count_108 rfl rfl ?_
    refine ei_ireturn X F dX9_count_111 ?_
    exact ⟨by simp [countF, cq1], D, be, h_0, rfl⟩
  · refine ei_iconst (v := -1) X dX9_count_112 rfl ?_
    refine ei_ireturn X F dX9_count_113 ?_
    exact ⟨by simp_all [countF, e_tn], D, be, h_0, rfl⟩
set_option maxRecDepth 100000 in
set_option maxHeartbeats 1000000 in
theorem ct_X9_keep (n : Nat) (w se sp hr lt hd sc : Int32) (so fi wo : Nat → Int32) (D T : St) (im : Bool) (Z : Nat → Sh) (be : Nat → Int32) (d what ks fg : Int32) (h_0 : dg0 be) : e_Ct yX9_keep cX9_keep 5 (some .int) 3 [.ref 0, .int d, .int what, .int ks, .int fg] (oH (n, w, se, sp, hr, lt, hd, sc, so, fi, wo) D T im Z be) (fP (.int (keepF d what ks fg)) (n, w, se, sp, hr, lt, hd, sc, so, fi, wo) T im (keepZ Z d what ks fg)) := by
  refine e_open RX9 rfl (by decide +kernel) rfl (fun _ => Nat.le_of_ble_eq_true rfl) (fun x X F => ?_)
  have RN : keepC d what ks fg = false → fP (.int (keepF d what ks fg)) (n, w, se, sp, hr, lt, hd, sc, so, fi, wo) T im (keepZ Z d what ks fg) (some (.int (-1))) (oH (n, w, se, sp, hr, lt, hd, sc, so, fi, wo) D T im Z be) := fun h => ⟨by unfold keepF; rw [h, if_neg Bool.false_ne_true], D, be, h_0, by unfold keepZ; rw [h, if_neg Bool.false_ne_true]⟩
  refine ei_iload_n X dX9_keep_0 rfl rfl ?_
  refine ei_callT1 X ml_RX9_228 dX9_keep_1 (ct_X9_isShelf _ _) rfl rfl (by decide) (by decide) (Nat.le_of_ble_eq_true rfl) ?_
  refine ei_ifz_eq (tgt := 16) X dX9_keep_4 (by decide) (fun cq4 => ?_) (fun cq4 => ?_)
  · refine ei_iconst (v := -1) X dX9_keep_16 rfl ?_
    refine ei_ireturn X F dX9_keep_17 ?_
    exact RN (by unfold keepC; rw [cq4, Bool.false_and])
  · refine ei_iload_n X dX9_keep_7 rfl rfl ?_
    refine ei_iconst (v := 0) X dX9_keep_8 rfl ?_
    refine ei_iconst (v := 1) X dX9_keep_9 rfl ?_
    refine ei_callT1 X ml_RX9_112 dX9_keep_10 (ct_X9_within _ _ _ _) rfl rfl (by decide) (by decide) (Nat.le_of_ble_eq_true rfl) ?_
    refine ei_ifz_ne (tgt := 18) X dX9_keep_13 (by decide) (fun cq13 => ?_) (fun cq13 => ?_)
    · obtain ⟨k, -, hk7, rfl⟩ := (inI_iff (lo := 0) (hi := 7) (by decide) (by decide)).mp cq4
      have hnc : nc (nI k) = k := nc_nI (by omega)
      have hk : k < 8 := (by omega)
      refine ei_iload_n X dX9_keep_18 rfl rfl ?_
      refine ei_if_ne (tgt := 33) X dX9_keep_19 (by decide) (fun cq19 => ?_) (fun cq19 => ?_)
      · refine ei_iload_n X dX9_keep_33 rfl rfl ?_
        refine ei_iconst (v := 0) X dX9_keep_34 rfl ?_
        refine ei_bipush (v := 7) X dX9_keep_35 rfl ?_
        refine ei_callT1 X ml_RX9_112 dX9_keep_37 (ct_X9_within _ _ _ _) rfl rfl (by decide) (by decide) (Nat.le_of_ble_eq_true rfl) ?_
        refine ei_ifz_eq (tgt := 54) X dX9_keep_40 (by decide) (fun cq40 => ?_) (fun cq40 => ?_)
        · refine ei_iconst (v := -1) X dX9_keep_54 rfl ?_
          refine ei_ireturn X F dX9_keep_55 ?_
          exact RN (by unfold keepC; rw [cq40, decide_eq_false cq19]; simp)
        · refine ei_iload X dX9_keep_43 rfl ?_
          refine ei_iconst (v := 0) X dX9_keep_45 rfl ?_
          refine ei_bipush (v := 9) X dX9_keep_46 rfl ?_
          refine ei_callT1 X ml_RX9_112 dX9_keep_48 (ct_X9_within _ _ _ _) rfl rfl (by decide) (by decide) (Nat.le_of_ble_eq_true rfl) ?_
          refine ei_ifz_ne (tgt := 56) X dX9_keep_51 (by decide) (fun cq51 => ?_) (fun cq51 => ?_)
          · refine ei_aload_n X dX9_keep_56 rfl rfl ?_
            refine ei_getf X fl_RX9_24 dX9_keep_57 rfl rfl ?_
            refine ei_iload_n X dX9_keep_60 rfl rfl ?_
            refine ei_aaload_n X dX9_keep_61 rfl (by first | omega | assumption) (by decide) rfl ?_
            refine ei_iload_n X dX9_keep_62 rfl rfl ?_
            refine ei_iload X dX9_keep_63 rfl ?_
            refine ei_cv0 [14 + 2 * k, 14 + 2 * k + 1] (oH_gZ _ _ _ _ _ _ hk) (oH_pZ _ _ _ _ _ _ hk _) X ml_RX9_303 dX9_keep_65 (ct_X4_getBulb _ _ _) rfl rfl (by decide) (by decide) (oH_sO _ _ _ _ _ _ hk) (Nat.le_of_ble_eq_true rfl) (nd2 k) ?_
            refine ei_iconst (v := 0) X dX9_keep_68 rfl ?_
            refine ei_ireturn X F dX9_keep_69 ?_
            have hC : keepC (nI k) what ks fg = true := (by unfold keepC; rw [cq4, cq13, cq40, cq51, Bool.and_self, Bool.or_true]; rfl)
            exact ⟨by unfold keepF; rw [hC, if_pos rfl], D, be, h_0, by unfold keepZ; rw [hC, if_pos rfl, if_neg cq19, hnc]⟩
          · refine ei_iconst (v := -1) X dX9_keep_54 rfl ?_
            refine ei_ireturn X F dX9_keep_55 ?_
            exact RN (by unfold keepC; rw [cq51, decide_eq_false cq19]; simp)
      · refine ei_aload_n X dX9_keep_22 rfl rfl ?_
        refine ei_getf X fl_RX9_24 dX9_keep_23 rfl rfl ?_
        refine ei_iload_n X dX9_keep_26 rfl rfl ?_
        refine ei_aaload_n X dX9_keep_27 rfl (by first | omega | assumption) (by decide) rfl ?_
        refine ei_cv0 [14 + 2 * k, 14 + 2 * k + 1] (oH_gZ _ _ _ _ _ _ hk) (oH_pZ _ _ _ _ _ _ hk _) X ml_RX9_300 dX9_keep_28 (ct_X4_getNothing _) rfl rfl (by decide) (by decide) (oH_sO _ _ _ _ _ _ hk) (Nat.le_of_ble_eq_true rfl) (nd2 k) ?_
        refine ei_iconst (v := 0) X dX9_keep_31 rfl ?_
        refine ei_ireturn X F dX9_keep_32 ?_
        have hC : keepC (nI k) what ks fg = true := (by unfold keepC; rw [cq4, cq13, decide_eq_true cq19, Bool.true_or]; rfl)
        exact ⟨by unfold keepF; rw [hC, if_pos rfl], D, be, h_0, by unfold keepZ; rw [hC, if_pos rfl, if_pos cq19, hnc]⟩
    · refine ei_iconst (v := -1) X dX9_keep_16 rfl ?_
      refine ei_ireturn X F dX9_keep_17 ?_
      exact RN (by unfold keepC; rw [cq13, Bool.false_and, Bool.and_false])
set_option maxRecDepth 100000 in
set_option maxHeartbeats 1000000 in
theorem ct_X9_row (n : Nat) (w se sp hr lt hd sc : Int32) (so fi wo : Nat → Int32) (D T : St) (im : Bool) (Z : Nat → Sh) (be : Nat → Int32) (d s m : Int32) (h_0 : dg0 be) : e_Ct yX9_row cX9_row 4 (some .int) 3 [.ref 0, .int d, .int s, .int m] (oH (n, w, se, sp, hr, lt, hd, sc, so, fi, wo) D T im Z be) (fP (.int (rowF d s m)) (n, w, se, sp, hr, lt, hd, sc, so, fi, wo) T im (rowZ Z d s m)) := by
  refine e_open RX9 rfl (by decide +kernel) rfl (fun _ => Nat.le_of_ble_eq_true rfl) (fun x X F => ?_)
  have RN : rowC d s m = false → fP (.int (rowF d s m)) (n, w, se, sp, hr, lt, hd, sc, so, fi, wo) T im (rowZ Z d s m) (some (.int (-1))) (oH (n, w, se, sp, hr, lt, hd, sc, so, fi, wo) D T im Z be) := fun h => ⟨by unfold rowF; rw [h, if_neg Bool.false_ne_true], D, be, h_0, by unfold rowZ; rw [h, if_neg Bool.false_ne_true]⟩
  refine ei_iload_n X dX9_row_0 rfl rfl ?_
  refine ei_callT1 X ml_RX9_228 dX9_row_1 (ct_X9_isShelf _ _) rfl rfl (by decide) (by decide) (Nat.le_of_ble_eq_true rfl) ?_
  refine ei_ifz_eq (tgt := 22) X dX9_row_4 (by decide) (fun cq4 => ?_) (fun cq4 => ?_)
  · refine ei_iconst (v := -1) X dX9_row_22 rfl ?_
    refine ei_ireturn X F dX9_row_23 ?_
    exact RN (by unfold rowC; rw [cq4, Bool.false_and])
  · refine ei_iload_n X dX9_row_7 rfl rfl ?_
    refine ei_iconst (v := 0) X dX9_row_8 rfl ?_
    refine ei_iconst (v := 2) X dX9_row_9 rfl ?_
    refine ei_callT1 X ml_RX9_112 dX9_row_10 (ct_X9_within _ _ _ _) rfl rfl (by decide) (by decide) (Nat.le_of_ble_eq_true rfl) ?_
    refine ei_ifz_eq (tgt := 22) X dX9_row_13 (by decide) (fun cq13 => ?_) (fun cq13 => ?_)
    · refine ei_iconst (v := -1) X dX9_row_22 rfl ?_
      refine ei_ireturn X F dX9_row_23 ?_
      exact RN (by unfold rowC; rw [cq13, Bool.false_and, Bool.and_false])
    · refine ei_iload_n X dX9_row_16 rfl rfl ?_
      refine ei_bipush (v := 100) X dX9_row_17 rfl ?_
      refine ei_icmp_le (tgt := 24) X dX9_row_19 (by decide) (fun cq19 => ?_) (fun cq19 => ?_)
      · have hC : rowC d s m = true := (by unfold rowC; rw [cq4, cq13, decide_eq_true cq19]; rfl)
        refine ei_iload_n X dX9_row_24 rfl rfl ?_
        refine ei_if_ge (tgt := 31) X dX9_row_25 (by decide) (fun cq25 => ?_) (fun cq25 => ?_)
        · obtain ⟨k, -, hk7, ek⟩ := (inI_iff (lo := 0) (hi := 7) (by decide) (by decide)).mp cq4
          have hnc : nc d = k := (by rw [ek]; exact nc_nI (by omega))
          have hk : k < 8 := (by omega)
          obtain ⟨q, hq, eq⟩ := nI_of (x := m) (Int32.not_lt.mpr cq25)
          have hnq : nc m = q := (by rw [eq]; exact nc_nI hq)
          rw [ek, eq]
          refine ei_aload_n X dX9_row_31 rfl rfl ?_
          refine ei_getf X fl_RX9_24 dX9_row_32 rfl rfl ?_
          refine ei_iload_n X dX9_row_35 rfl rfl ?_
          refine ei_aaload_n X dX9_row_36 rfl (by first | omega | assumption) (by decide) rfl ?_
          refine ei_iload_n X dX9_row_37 rfl rfl ?_
          refine ei_iload_n X dX9_row_38 rfl rfl ?_
          refine ei_cv0 [14 + 2 * k, 14 + 2 * k + 1] (oH_gZ _ _ _ _ _ _ hk) (oH_pZ _ _ _ _ _ _ hk _) X ml_RX9_306 dX9_row_39 (ct_X4_getRow _ _ _) rfl rfl (by decide) (by decide) (oH_sO _ _ _ _ _ _ hk) (Nat.le_of_ble_eq_true rfl) (nd2 k) ?_
          refine ei_iconst (v := 0) X dX9_row_42 rfl ?_
          refine ei_ireturn X F dX9_row_43 ?_
          have h0 : ¬ m < 0 := Int32.not_lt.mpr cq25
          exact ⟨by unfold rowF; rw [hC, if_pos rfl, if_neg h0], D, be, h_0, by unfold rowZ; rw [hC, if_pos rfl, if_neg h0, hnc, hnq]⟩
        · refine ei_bipush (v := -14) X dX9_row_28 rfl ?_
          refine ei_ireturn X F dX9_row_30 ?_
          have h0 : m < 0 := Int32.not_le.mp cq25
          exact ⟨by unfold rowF; rw [hC, if_pos rfl, if_pos h0], D, be, h_0, by unfold rowZ; rw [hC, if_pos rfl, if_pos h0]⟩
      · refine ei_iconst (v := -1) X dX9_row_22 rfl ?_
        refine ei_ireturn X F dX9_row_23 ?_
        exact RN (by unfold rowC; rw [decide_eq_false cq19, Bool.and_false, Bool.and_false])
set_option maxRecDepth 100000 in
set_option maxHeartbeats 1000000 in
theorem ct_X9_put (n : Nat) (w se sp hr lt hd sc : Int32) (so fi wo : Nat → Int32) (D T : St) (im : Bool) (Z : Nat → Sh) (be : Nat → Int32) (d i v : Int32) (h_Z : ∀ k, k < 8 → okZ (Z k)) (h_0 : dg0 be) : e_Ct yX9_put cX9_put 5 (some .int) 4 [.ref 0, .int d, .int i, .int v] (oH (n, w, se, sp, hr, lt, hd, sc, so, fi, wo) D T im Z be) (fP (.int (putF Z d i)) (n, w, se, sp, hr, lt, hd, sc, so, fi, wo) T im (putZ Z d i v)) := by
  refine e_open RX9 rfl (by decide +kernel) rfl (fun _ => Nat.le_of_ble_eq_true rfl) (fun x X F => ?_)
  refine ei_aload_n X dX9_put_0 rfl rfl ?_
  refine ei_iload_n X dX9_put_1 rfl rfl ?_
  refine ei_callI1 X ml_RX9_36 dX9_put_2 (ct_X9_rowRefusal _ _ _ _ _ _ _ _ _ _ _ _ _ _ _ _ _) rfl rfl (by decide) (by decide) rfl (Nat.le_of_ble_eq_true rfl) ?_
  refine ei_istore X dX9_put_5 (Nat.le_of_ble_eq_true rfl) rfl ?_
  refine ei_iload X dX9_put_7 rfl ?_
  refine ei_if_eq (tgt := 15) X dX9_put_9 (by decide) (fun cq9 => ?_) (fun cq9 => ?_)
  · obtain ⟨k, hk, ek, hz⟩ := wrongRow_0 cq9
    have hnc : nc d = k := (by rw [ek]; exact nc_nI (by omega))
    obtain ⟨hzn, hzk⟩ := okZ_n h_Z hk hz
    rw [ek]
    refine ei_aload_n X dX9_put_15 rfl rfl ?_
    refine ei_getf X fl_RX9_24 dX9_put_16 rfl rfl ?_
    refine ei_iload_n X dX9_put_19 rfl rfl ?_
    refine ei_aaload_n X dX9_put_20 rfl (by first | omega | assumption) (by decide) rfl ?_
    refine ei_iload_n X dX9_put_21 rfl rfl ?_
    refine ei_cv1 [14 + 2 * k, 14 + 2 * k + 1] (oH_gZ _ _ _ _ _ _ hk) (oH_pZ0 _ _ _ _ _ _ hk) X ml_RX9_309 dX9_put_22 (ct_X4_hasPlace (Z k) i hzn) rfl rfl (by decide) (by decide) (oH_sO _ _ _ _ _ _ hk) (Nat.le_of_ble_eq_true rfl) (nd2 k) ?_
    refine ei_ifz_ne (tgt := 31) X dX9_put_25 (by decide) (fun cq25 => ?_) (fun cq25 => ?_)
    · obtain ⟨j, hj, ej⟩ := (hasF_iff (by omega)).mp cq25
      have hnj : nc i = j := (by rw [ej]; exact nc_nI (by omega))
      rw [ej]
      refine ei_aload_n X dX9_put_31 rfl rfl ?_
      refine ei_getf X fl_RX9_24 dX9_put_32 rfl rfl ?_
      refine ei_iload_n X dX9_put_35 rfl rfl ?_
      refine ei_aaload_n X dX9_put_36 rfl (by first | omega | assumption) (by decide) rfl ?_
      refine ei_iload_n X dX9_put_37 rfl rfl ?_
      refine ei_iload_n X dX9_put_38 rfl rfl ?_
      refine ei_cv0 [14 + 2 * k, 14 + 2 * k + 1] (oH_gZ _ _ _ _ _ _ hk) (oH_pZ _ _ _ _ _ _ hk _) X ml_RX9_312 dX9_put_39 (ct_X4_set (Z k) j v (by omega) hzk) rfl rfl (by decide) (by decide) (oH_sO _ _ _ _ _ _ hk) (Nat.le_of_ble_eq_true rfl) (nd2 k) ?_
      refine ei_iconst (v := 0) X dX9_put_42 rfl ?_
      refine ei_ireturn X F dX9_put_43 ?_
      exact ⟨by unfold putF; rw [if_pos cq9, hnc, if_pos cq25], D, be, h_0, by unfold putZ; rw [hnc, if_pos ⟨cq9, cq25⟩, hnj]⟩
    · refine ei_bipush (v := -13) X dX9_put_28 rfl ?_
      refine ei_ireturn X F dX9_put_30 ?_
      exact ⟨by unfold putF; rw [if_pos cq9, hnc, if_neg (by rw [cq25]; exact Bool.false_ne_true)], D, be, h_0, by unfold putZ; rw [hnc, if_neg (fun z => Bool.false_ne_true (cq25.symm.trans z.2))]⟩
  · refine ei_iload X dX9_put_12 rfl ?_
    refine ei_ireturn X F dX9_put_14 ?_
    exact ⟨by unfold putF; rw [if_neg cq9], D, be, h_0, by unfold putZ; rw [if_neg (fun z => cq9 z.1)]⟩
set_option maxRecDepth 100000 in
set_option maxHeartbeats 1000000 in
theorem ct_X9_cost (n : Nat) (w se sp hr lt hd sc : Int32) (so fi wo : Nat → Int32) (D T : St) (im : Bool) (Z : Nat → Sh) (be : Nat → Int32) (d : Int32) (h_Z : ∀ k, k < 8 → okZ (Z k)) (h_0 : dg0 be) : e_Ct yX9_cost cX9_cost 3 (some .int) 4 [.ref 0, .int d] (oH (n, w, se, sp, hr, lt, hd, sc, so, fi, wo) D T im Z be) (fP (.int (costF Z d)) (n, w, se, sp, hr, lt, hd, sc, so, fi, wo) T im Z) := by
  refine e_open RX9 rfl (by decide +kernel) rfl (fun _ => Nat.le_of_ble_eq_true rfl) (fun x X F => ?_)
  refine ei_aload_n X dX9_cost_0 rfl rfl ?_
  refine ei_iload_n X dX9_cost_1 rfl rfl ?_
  refine ei_callI1 X ml_RX9_94 dX9_cost_2 (ct_X9_bulbRefusal _ _ _ _ _ _ _ _ _ _ _ _ _ _ _ _ _ h_Z) rfl rfl (by decide) (by decide) rfl (Nat.le_of_ble_eq_true rfl) ?_
  refine ei_istore_n X dX9_cost_5 rfl (Nat.le_of_ble_eq_true rfl) rfl ?_
  refine ei_iload_n X dX9_cost_6 rfl rfl ?_
  refine ei_if_eq (tgt := 12) X dX9_cost_7 (by decide) (fun cq7 => ?_) (fun cq7 => ?_)
  · obtain ⟨k, hk, rfl, hz⟩ := wrongKept_0 h_Z cq7
    have hnc : nc (nI k) = k := nc_nI (by omega)
    refine ei_aload_n X dX9_cost_12 rfl rfl ?_
    refine ei_getf X fl_RX9_24 dX9_cost_13 rfl rfl ?_
    refine ei_iload_n X dX9_cost_16 rfl rfl ?_
    refine ei_aaload_n X dX9_cost_17 rfl (by first | omega | assumption) (by decide) rfl ?_
    refine ei_getf X fl_RX9_101 dX9_cost_18 (oH_sO _ _ _ _ _ _ hk) rfl ?_
    refine ei_aload_n X dX9_cost_21 rfl rfl ?_
    refine ei_getf X fl_RX9_24 dX9_cost_22 rfl rfl ?_
    refine ei_iload_n X dX9_cost_25 rfl rfl ?_
    refine ei_aaload_n X dX9_cost_26 rfl (by first | omega | assumption) (by decide) rfl ?_
    refine ei_getf X fl_RX9_103 dX9_cost_27 (oH_sO _ _ _ _ _ _ hk) rfl ?_
    refine ei_callT1 X ml_RX9_341 dX9_cost_30 (ct_X5_price _ _ _) rfl rfl (by decide) (by decide) (Nat.le_of_ble_eq_true rfl) ?_
    refine ei_ireturn X F dX9_cost_33 ?_
    exact ⟨by unfold costF; rw [if_pos cq7, hnc], D, be, h_0, rfl⟩
  · refine ei_iload_n X dX9_cost_10 rfl rfl ?_
    refine ei_ireturn X F dX9_cost_11 ?_
    exact ⟨by unfold costF; rw [if_neg cq7], D, be, h_0, rfl⟩
set_option maxRecDepth 100000 in
set_option maxHeartbeats 1000000 in
theorem ct_X9_toss (n : Nat) (w se sp hr lt hd sc : Int32) (so fi wo : Nat → Int32) (D T : St) (im : Bool) (Z : Nat → Sh) (be : Nat → Int32) (d : Int32) (h_Z : ∀ k, k < 8 → okZ (Z k)) (h_0 : dg0 be) : e_Ct yX9_toss cX9_toss 3 (some .int) 4 [.ref 0, .int d] (oH (n, w, se, sp, hr, lt, hd, sc, so, fi, wo) D T im Z be) (fP (.int (tossF Z d)) (n, w, se, sp, hr, lt, hd, sc, so, fi, wo) T im Z) := by
  refine e_open RX9 rfl (by decide +kernel) rfl (fun _ => Nat.le_of_ble_eq_true rfl) (fun x X F => ?_)
  refine ei_aload_n X dX9_toss_0 rfl rfl ?_
  refine ei_iload_n X dX9_toss_1 rfl rfl ?_
  refine ei_callI1 X ml_RX9_94 dX9_toss_2 (ct_X9_bulbRefusal _ _ _ _ _ _ _ _ _ _ _ _ _ _ _ _ _ h_Z) rfl rfl (by decide) (by decide) rfl (Nat.le_of_ble_eq_true rfl) ?_
  refine ei_istore_n X dX9_toss_5 rfl (Nat.le_of_ble_eq_true rfl) rfl ?_
  refine ei_iload_n X dX9_toss_6 rfl rfl ?_
  refine ei_if_eq (tgt := 12) X dX9_toss_7 (by decide) (fun cq7 => ?_) (fun cq7 => ?_)
  · obtain ⟨k, hk, rfl, hz⟩ := wrongKept_0 h_Z cq7
    have hnc : nc (nI k) = k := nc_nI (by omega)
    refine ei_aload_n X dX9_toss_12 rfl rfl ?_
    refine ei_getf X fl_RX9_24 dX9_toss_13 rfl rfl ?_
    refine ei_iload_n X dX9_toss_16 rfl rfl ?_
    refine ei_aaload_n X dX9_toss_17 rfl (by first | omega | assumption) (by decide) rfl ?_
    refine ei_getf X fl_RX9_101 dX9_toss_18 (oH_sO _ _ _ _ _ _ hk) rfl ?_
    refine ei_aload_n X dX9_toss_21 rfl rfl ?_
    refine ei_getf X fl_RX9_24 dX9_toss_22 rfl rfl ?_
    refine ei_iload_n X dX9_toss_25 rfl rfl ?_
    refine ei_aaload_n X dX9_toss_26 rfl (by first | omega | assumption) (by decide) rfl ?_
    refine ei_getf X fl_RX9_103 dX9_toss_27 (oH_sO _ _ _ _ _ _ hk) rfl ?_
    refine ei_callT1 X ml_RX9_344 dX9_toss_30 (ct_X5_failure _ _ _) rfl rfl (by decide) (by decide) (Nat.le_of_ble_eq_true rfl) ?_
    refine ei_ireturn X F dX9_toss_33 ?_
    exact ⟨by unfold tossF; rw [if_pos cq7, hnc], D, be, h_0, rfl⟩
  · refine ei_iload_n X dX9_toss_10 rfl rfl ?_
    refine ei_ireturn X F dX9_toss_11 ?_
    exact ⟨by unfold tossF; rw [if_neg cq7], D, be, h_0, rfl⟩
theorem st_copy {z : Sh} {i j : Int32} {m : Int32} {z2 : Sh} : (decide (0 ≤ m) && (decide (0 ≤ i) && (decide (0 ≤ j) && (decide (i ≤ nI (zN z) - m) && decide (j ≤ nI (zN z2) - m))))) = true → hasSt z i m = true → True := fun _ _ => trivial
theorem hasSt_iff {z : Sh} (hz : zN z ≤ 100) {i m : Int32} : hasSt z i m = (decide (0 ≤ m) && (decide (0 ≤ i) && decide (i ≤ nI (zN z) - m))) := by
  unfold hasSt
  by_cases h1 : 0 ≤ m
  · rw [decide_eq_true h1, Bool.true_and, Bool.true_and]
    by_cases h2 : 0 ≤ i
    · rw [decide_eq_true h2, Bool.true_and]
      by_cases h3 : i ≤ nI (zN z) - m
      · obtain ⟨a, c, ei, em, hac⟩ := cp_ex hz h1 h2 h3
        rw [decide_eq_true h3, Bool.and_true, em]
        exact decide_eq_true ((nn_le (by omega) (by omega)).mpr (by omega))
      · rw [decide_eq_false h3, Bool.and_false]
    · rw [decide_eq_false h2, Bool.false_and, Bool.and_false]
  · rw [decide_eq_false h1, Bool.false_and, Bool.false_and]
set_option maxRecDepth 100000 in
set_option maxHeartbeats 1000000 in
theorem ct_X9_copy (n : Nat) (w se sp hr lt hd sc : Int32) (so fi wo : Nat → Int32) (D T : St) (im : Bool) (Z : Nat → Sh) (be : Nat → Int32) (d i e j m : Int32) (h_Z : ∀ k, k < 8 → okZ (Z k)) (h_0 : dg0 be) : e_Ct yX9_copy cX9_copy 8 (some .int) 3 [.ref 0, .int d, .int i, .int e, .int j, .int m] (oH (n, w, se, sp, hr, lt, hd, sc, so, fi, wo) D T im Z be) (fP (.int (copyF Z d i e j m)) (n, w, se, sp, hr, lt, hd, sc, so, fi, wo) T im (copyZ Z d i e j m)) := by
  refine e_open RX9 rfl (by decide +kernel) rfl (fun _ => Nat.le_of_ble_eq_true rfl) (fun x X F => ?_)
  have B0 : ∀ v : Int32, copyF Z d i e j m = v → ¬ (inI d 0 7 = true ∧ inI e 0 7 = true ∧ zH (Z (nc d)) = 2 ∧ zH (Z (nc e)) = 2 ∧ zK (Z (nc d)) = zK (Z (nc e)) ∧ copyC Z d i e j m = true) → fP (.int (copyF Z d i e j m)) (n, w, se, sp, hr, lt, hd, sc, so, fi, wo) T im (copyZ Z d i e j m) (some (.int v)) (oH (n, w, se, sp, hr, lt, hd, sc, so, fi, wo) D T im Z be) := fun v h1 h2 => ⟨by rw [h1], D, be, h_0, by unfold copyZ; rw [if_neg h2]⟩
  refine ei_iload_n X dX9_copy_0 rfl rfl ?_
  refine ei_callT1 X ml_RX9_228 dX9_copy_1 (ct_X9_isShelf _ _) rfl rfl (by decide) (by decide) (Nat.le_of_ble_eq_true rfl) ?_
  refine ei_ifz_eq (tgt := 14) X dX9_copy_4 (by decide) (fun cq4 => ?_) (fun cq4 => ?_)
  · refine ei_iconst (v := -1) X dX9_copy_14 rfl ?_
    refine ei_ireturn X F dX9_copy_15 ?_
    exact B0 _ (by unfold copyF; rw [if_neg (fun z => Bool.false_ne_true (cq4.symm.trans z.1))]) (fun z => Bool.false_ne_true (cq4.symm.trans z.1))
  · refine ei_iload_n X dX9_copy_7 rfl rfl ?_
    refine ei_callT1 X ml_RX9_228 dX9_copy_8 (ct_X9_isShelf _ _) rfl rfl (by decide) (by decide) (Nat.le_of_ble_eq_true rfl) ?_
    refine ei_ifz_ne (tgt := 16) X dX9_copy_11 (by decide) (fun cq11 => ?_) (fun cq11 => ?_)
    · obtain ⟨k, -, hk7, ed⟩ := (inI_iff (lo := 0) (hi := 7) (by decide) (by decide)).mp cq4
      obtain ⟨l, -, hl7, ee⟩ := (inI_iff (lo := 0) (hi := 7) (by decide) (by decide)).mp cq11
      have nk : nc d = k := (by rw [ed]; exact nc_nI (by omega))
      have nl : nc e = l := (by rw [ee]; exact nc_nI (by omega))
      have hk : k < 8 := (by omega)
      have hl : l < 8 := (by omega)
      rw [ed, ee]
      refine ei_aload_n X dX9_copy_16 rfl rfl ?_
      refine ei_getf X fl_RX9_24 dX9_copy_17 rfl rfl ?_
      refine ei_iload_n X dX9_copy_20 rfl rfl ?_
      refine ei_aaload_n X dX9_copy_21 rfl (by first | omega | assumption) (by decide) rfl ?_
      refine ei_astore X dX9_copy_22 (Nat.le_of_ble_eq_true rfl) rfl ?_
      refine ei_aload_n X dX9_copy_24 rfl rfl ?_
      refine ei_getf X fl_RX9_24 dX9_copy_25 rfl rfl ?_
      refine ei_iload_n X dX9_copy_28 rfl rfl ?_
      refine ei_aaload_n X dX9_copy_29 rfl (by first | omega | assumption) (by decide) rfl ?_
      refine ei_astore X dX9_copy_30 (Nat.le_of_ble_eq_true rfl) rfl ?_
      refine ei_aload X dX9_copy_32 rfl ?_
      refine ei_getf X fl_RX9_329 dX9_copy_34 (oH_sO _ _ _ _ _ _ hk) rfl ?_
      refine ei_if_eq (tgt := 48) X dX9_copy_37 (by decide) (fun cq37 => ?_) (fun cq37 => ?_)
      · refine ei_bipush (v := -11) X dX9_copy_48 rfl ?_
        refine ei_ireturn X F dX9_copy_50 ?_
        exact B0 _ (by unfold copyF; rw [if_pos ⟨cq4, cq11⟩, nk, nl, if_pos (Or.inl cq37)]) (fun z => by have y := z.2.2.1; rw [nk, cq37] at y; exact absurd y (by decide))
      · refine ei_aload X dX9_copy_40 rfl ?_
        refine ei_getf X fl_RX9_329 dX9_copy_42 (oH_sO _ _ _ _ _ _ hl) rfl ?_
        refine ei_if_ne (tgt := 51) X dX9_copy_45 (by decide) (fun cq45 => ?_) (fun cq45 => ?_)
        · refine ei_aload X dX9_copy_51 rfl ?_
          refine ei_getf X fl_RX9_329 dX9_copy_53 (oH_sO _ _ _ _ _ _ hk) rfl ?_
          refine ei_iconst (v := 2) X dX9_copy_56 rfl ?_
          refine ei_icmp_ne (tgt := 82) X dX9_copy_57 (by decide) (fun cq57 => ?_) (fun cq57 => ?_)
          · refine ei_bipush (v := -12) X dX9_copy_82 rfl ?_
            refine ei_ireturn X F dX9_copy_84 ?_
            exact B0 _ (by unfold copyF; rw [if_pos ⟨cq4, cq11⟩, nk, nl, if_neg (fun z => z.elim cq37 cq45), if_pos (Or.inl cq57)]) (fun z => by have y := z.2.2.1; rw [nk] at y; exact cq57 y)
          · refine ei_aload X dX9_copy_60 rfl ?_
            refine ei_getf X fl_RX9_329 dX9_copy_62 (oH_sO _ _ _ _ _ _ hl) rfl ?_
            refine ei_iconst (v := 2) X dX9_copy_65 rfl ?_
            refine ei_icmp_ne (tgt := 82) X dX9_copy_66 (by decide) (fun cq66 => ?_) (fun cq66 => ?_)
            · refine ei_bipush (v := -12) X dX9_copy_82 rfl ?_
              refine ei_ireturn X F dX9_copy_84 ?_
              exact B0 _ (by unfold copyF; rw [if_pos ⟨cq4, cq11⟩, nk, nl, if_neg (fun z => z.elim cq37 cq45), if_pos (Or.inr (Or.inl cq66))]) (fun z => by have y := z.2.2.2.1; rw [nl] at y; exact cq66 y)
            · obtain ⟨hzk, hkk⟩ := okZ_n h_Z hk cq57
              obtain ⟨hzl, hkl⟩ := okZ_n h_Z hl cq66
              refine ei_aload X dX9_copy_69 rfl ?_
              refine ei_getf X fl_RX9_40 dX9_copy_71 (oH_sO _ _ _ _ _ _ hk) rfl ?_
              refine ei_aload X dX9_copy_74 rfl ?_
              refine ei_getf X fl_RX9_40 dX9_copy_76 (oH_sO _ _ _ _ _ _ hl) rfl ?_
              refine ei_icmp_eq (tgt := 85) X dX9_copy_79 (by decide) (fun cq79 => ?_) (fun cq79 => ?_)
              · refine ei_aload X dX9_copy_85 rfl ?_
                refine ei_iload_n X dX9_copy_87 rfl rfl ?_
                refine ei_iload X dX9_copy_88 rfl ?_
                refine ei_cv1 [14 + 2 * k, 14 + 2 * k + 1] (oH_gZ _ _ _ _ _ _ hk) (oH_pZ0 _ _ _ _ _ _ hk) X ml_RX9_332 dX9_copy_90 (ct_X4_hasStretch _ _ _) rfl rfl (by decide) (by decide) (oH_sO _ _ _ _ _ _ hk) (Nat.le_of_ble_eq_true rfl) (nd2 k) ?_
                rw [hasSt_iff hzk]
                refine ei_ifz_eq (tgt := 108) X dX9_copy_93 (by decide) (fun cq93 => ?_) (fun cq93 => ?_)
                · refine ei_bipush (v := -13) X dX9_copy_108 rfl ?_
                  refine ei_ireturn X F dX9_copy_110 ?_
                  have hC : ¬ copyC Z d i e j m = true := (fun z => by unfold copyC at z; rw [nk, nl] at z; obtain ⟨z1, z2⟩ := (Bool.and_eq_true _ _).mp z; obtain ⟨z3, z4⟩ := (Bool.and_eq_true _ _).mp z2; obtain ⟨z5, z6⟩ := (Bool.and_eq_true _ _).mp z4; obtain ⟨z7, z8⟩ := (Bool.and_eq_true _ _).mp z6; rw [z1, z3, z7] at cq93; exact Bool.false_ne_true cq93.symm)
                  exact B0 _ (by unfold copyF; rw [if_pos ⟨cq4, cq11⟩, nk, nl, if_neg (fun z => z.elim cq37 cq45), if_neg (fun z => z.elim (fun z => z cq57) (fun z => z.elim (fun z => z cq66) (fun z => z cq79))), if_neg hC]) (fun z => hC z.2.2.2.2.2)
                · refine ei_aload X dX9_copy_96 rfl ?_
                  refine ei_iload X dX9_copy_98 rfl ?_
                  refine ei_iload X dX9_copy_100 rfl ?_
                  refine ei_cv1 [14 + 2 * l, 14 + 2 * l + 1] (oH_gZ _ _ _ _ _ _ hl) (oH_pZ0 _ _ _ _ _ _ hl) X ml_RX9_332 dX9_copy_102 (ct_X4_hasStretch _ _ _) rfl rfl (by decide) (by decide) (oH_sO _ _ _ _ _ _ hl) (Nat.le_of_ble_eq_true rfl) (nd2 l) ?_
                  rw [hasSt_iff hzl]
                  refine ei_ifz_ne (tgt := 111) X dX9_copy_105 (by decide) (fun cq105 => ?_) (fun cq105 => ?_)
                  · obtain ⟨a1, a2⟩ := (Bool.and_eq_true _ _).mp cq93
                    obtain ⟨a3, a4⟩ := (Bool.and_eq_true _ _).mp a2
                    obtain ⟨b1, b2⟩ := (Bool.and_eq_true _ _).mp cq105
                    obtain ⟨b3, b4⟩ := (Bool.and_eq_true _ _).mp b2
                    obtain ⟨a, q0, ei, em, h1⟩ := cp_ex hzk (of_decide_eq_true a1) (of_decide_eq_true a3) (of_decide_eq_true a4)
                    obtain ⟨b, q1, ej, em1, h2⟩ := cp_ex hzl (of_decide_eq_true b1) (of_decide_eq_true b3) (of_decide_eq_true b4)
                    have hq0 : nc m = q0 := (by rw [em]; exact nc_nI (by omega))
                    have hq1 : nc m = q1 := (by rw [em1]; exact nc_nI (by omega))
                    have hqq : q1 = q0 := (by omega)
                    have na : nc i = a := (by rw [ei]; exact nc_nI (by omega))
                    have nb : nc j = b := (by rw [ej]; exact nc_nI (by omega))
                    have hC : copyC Z d i e j m = true := (by unfold copyC; rw [nk, nl, a1, a3, a4, b3, b4]; rfl)
                    refine ei_aload X dX9_copy_111 rfl ?_
                    refine ei_getf X fl_RX9_281 dX9_copy_113 (oH_sO _ _ _ _ _ _ hk) rfl ?_
                    refine ei_iload_n X dX9_copy_116 rfl rfl ?_
                    refine ei_aload X dX9_copy_117 rfl ?_
                    refine ei_getf X fl_RX9_281 dX9_copy_119 (oH_sO _ _ _ _ _ _ hl) rfl ?_
                    refine ei_iload X dX9_copy_122 rfl ?_
                    refine ei_iload X dX9_copy_124 rfl ?_
                    refine ei_copy (k0 := 14 + 2 * k + 1) (k1 := 14 + 2 * l + 1) X ml_RX9_335.1 ml_RX9_335.2.1 ml_RX9_335.2.2.1 ml_RX9_335.2.2.2 dX9_copy_126 (by decide) (oH_sC _ _ _ _ _ _ hk) (oH_sC _ _ _ _ _ _ hl) (by rw [ei]; exact nI_pos (by omega)) (by rw [ej]; exact nI_pos (by omega)) (by rw [em]; exact nI_pos (by omega)) (by show nc i + nc m ≤ 100; omega) (by show nc j + nc m ≤ 100; omega) (oH_setC _ _ _ _ _ _ hl _) ?_
                    refine ei_iload X dX9_copy_129 rfl ?_
                    refine ei_ireturn X F dX9_copy_131 ?_
                    exact ⟨by unfold copyF; rw [if_pos ⟨cq4, cq11⟩, nk, nl, if_neg (fun z => z.elim cq37 cq45), if_neg (fun z => z.elim (fun z => z cq57) (fun z => z.elim (fun z => z cq66) (fun z => z cq79))), if_pos hC], D, be, h_0, by unfold copyZ; rw [nk, nl, if_pos ⟨cq4, cq11, cq57, cq66, cq79, hC⟩]; rfl⟩
                  · refine ei_bipush (v := -13) X dX9_copy_108 rfl ?_
                    refine ei_ireturn X F dX9_copy_110 ?_
                    have hC : ¬ copyC Z d i e j m = true := (fun z => by unfold copyC at z; rw [nk, nl] at z; obtain ⟨z1, z2⟩ := (Bool.and_eq_true _ _).mp z; obtain ⟨z3, z4⟩ := (Bool.and_eq_true _ _).mp z2; obtain ⟨z5, z6⟩ := (Bool.and_eq_true _ _).mp z4; obtain ⟨z7, z8⟩ := (Bool.and_eq_true _ _).mp z6; rw [z1, z5, z8] at cq105; exact Bool.false_ne_true cq105.symm)
                    exact B0 _ (by unfold copyF; rw [if_pos ⟨cq4, cq11⟩, nk, nl, if_neg (fun z => z.elim cq37 cq45), if_neg (fun z => z.elim (fun z => z cq57) (fun z => z.elim (fun z => z cq66) (fun z => z cq79))), if_neg hC]) (fun z => hC z.2.2.2.2.2)
              · refine ei_bipush (v := -12) X dX9_copy_82 rfl ?_
                refine ei_ireturn X F dX9_copy_84 ?_
                exact B0 _ (by unfold copyF; rw [if_pos ⟨cq4, cq11⟩, nk, nl, if_neg (fun z => z.elim cq37 cq45), if_pos (Or.inr (Or.inr cq79))]) (fun z => by have y := z.2.2.2.2.1; rw [nk, nl] at y; exact cq79 y)
        · refine ei_bipush (v := -11) X dX9_copy_48 rfl ?_
          refine ei_ireturn X F dX9_copy_50 ?_
          exact B0 _ (by unfold copyF; rw [if_pos ⟨cq4, cq11⟩, nk, nl, if_pos (Or.inr cq45)]) (fun z => by have y := z.2.2.2.1; rw [nl, cq45] at y; exact absurd y (by decide))
    · refine ei_iconst (v := -1) X dX9_copy_14 rfl ?_
      refine ei_ireturn X F dX9_copy_15 ?_
      exact B0 _ (by unfold copyF; rw [if_neg (fun z => Bool.false_ne_true (cq11.symm.trans z.2))]) (fun z => Bool.false_ne_true (cq11.symm.trans z.2.1))

