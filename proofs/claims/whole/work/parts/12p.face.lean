theorem set_iff {n : Nat} (hn : n ≤ 10) {v : Int32} : decide (0 ≤ v ∧ v < bitI n) = (decide (0 ≤ v) && decide (v < bitI n)) := by
  rw [← Bool.decide_and]
set_option maxRecDepth 100000 in
set_option maxHeartbeats 1000000 in
theorem ct_X9_order (n : Nat) (w se sp hr lt hd sc : Int32) (so fi wo : Nat → Int32) (D T : St) (im : Bool) (Z : Nat → Sh) (be : Nat → Int32) (v what : Int32) (h_S : Good (n, w, se, sp, hr, lt, hd, sc, so, fi, wo)) (h_0 : dg0 be) : e_Ct yX9_order cX9_order 3 (some .int) 17 [.ref 0, .int v, .int what] (oH (n, w, se, sp, hr, lt, hd, sc, so, fi, wo) D T im Z be) (fP (.int (orderF (n, w, se, sp, hr, lt, hd, sc, so, fi, wo) v what)) (n, w, se, sp, hr, lt, hd, sc, so, fi, wo) T im Z) := by
  refine e_open RX9 rfl (by decide +kernel) rfl (fun _ => Nat.le_of_ble_eq_true rfl) (fun x X F => ?_)
  have hn : n ≤ 10 := h_S.1
  have RN : orderC n v what = false → fP (.int (orderF (n, w, se, sp, hr, lt, hd, sc, so, fi, wo) v what)) (n, w, se, sp, hr, lt, hd, sc, so, fi, wo) T im Z (some (.int (-1))) (oH (n, w, se, sp, hr, lt, hd, sc, so, fi, wo) D T im Z be) := fun h => ⟨by unfold orderF; rw [if_neg (by rw [show orderC (sN (n, w, se, sp, hr, lt, hd, sc, so, fi, wo)) v what = false from h]; exact Bool.false_ne_true)], D, be, h_0, rfl⟩
  refine ei_aload_n X dX9_order_0 rfl rfl ?_
  refine ei_getf X fl_RX9_10 dX9_order_1 rfl rfl ?_
  refine ei_iload_n X dX9_order_4 rfl rfl ?_
  refine ei_cv1 [1, 2, 3, 4] (oH_gN _ _ _ _ _ _) (oH_pN _ _ _ _ _ _ _) X ml_RX9_212 dX9_order_5 (ct_X2_isSet _ _ _ _ _ _ _ _ _ _ _ _) rfl rfl (by decide) (by decide) rfl (Nat.le_of_ble_eq_true rfl) (by decide) ?_
  refine ei_ifz_eq (tgt := 28) X dX9_order_8 (by decide) (fun cq8 => ?_) (fun cq8 => ?_)
  · refine ei_iconst (v := -1) X dX9_order_28 rfl ?_
    refine ei_ireturn X F dX9_order_29 ?_
    exact RN (by have hc := of_decide_eq_false cq8; unfold orderC; rw [← Bool.and_assoc, ← set_iff hn, decide_eq_false hc, Bool.false_and])
  · have hc := of_decide_eq_true cq8
    obtain ⟨s, hs, hvs, hv, hB⟩ := set_ex hn hc.1 hc.2
    refine ei_iload_n X dX9_order_11 rfl rfl ?_
    refine ei_callT1 X ml_RX9_215 dX9_order_12 (ct_J6_bitCount_0f7a4 _ _ hv) rfl rfl (by decide) (by decide) (Nat.le_of_ble_eq_true rfl) ?_
    refine ei_iconst (v := 5) X dX9_order_15 rfl ?_
    refine ei_icmp_gt (tgt := 28) X dX9_order_16 (by decide) (fun cq16 => ?_) (fun cq16 => ?_)
    · refine ei_iconst (v := -1) X dX9_order_28 rfl ?_
      refine ei_ireturn X F dX9_order_29 ?_
      exact RN (by unfold orderC; rw [decide_eq_false (Int32.not_le.mpr cq16), Bool.false_and, Bool.and_false, Bool.and_false])
    · refine ei_iload_n X dX9_order_19 rfl rfl ?_
      refine ei_iconst (v := 0) X dX9_order_20 rfl ?_
      refine ei_iconst (v := 1) X dX9_order_21 rfl ?_
      refine ei_callT1 X ml_RX9_112 dX9_order_22 (ct_X9_within _ _ _ _) rfl rfl (by decide) (by decide) (Nat.le_of_ble_eq_true rfl) ?_
      refine ei_ifz_ne (tgt := 30) X dX9_order_25 (by decide) (fun cq25 => ?_) (fun cq25 => ?_)
      · have hC : orderC n v what = true := (by unfold orderC; rw [decide_eq_true hc.1, decide_eq_true hc.2, decide_eq_true (Int32.not_lt.mp cq16), cq25]; rfl)
        have hm5 : mc v n ≤ 5 := (by have h7 := Int32.not_lt.mp cq16; rw [popF_mc hB hn] at h7; exact (nn_le (Nat.lt_of_le_of_lt (mc_le v n) (by omega)) (by omega)).mp (show nI (mc v n) ≤ nI 5 from h7))
        refine ei_iload_n X dX9_order_30 rfl rfl ?_
        refine ei_if_ne (tgt := 45) X dX9_order_31 (by decide) (fun cq31 => ?_) (fun cq31 => ?_)
        · refine ei_aload_n X dX9_order_45 rfl rfl ?_
          refine ei_getf X fl_RX9_10 dX9_order_46 rfl rfl ?_
          refine ei_iload_n X dX9_order_49 rfl rfl ?_
          refine ei_cs1 [1, 2, 3, 4] (oH_gN _ _ _ _ _ _) (oH_pN _ _ _ _ _ _ _) X ml_RX9_225 dX9_order_50 (ct_X7_seconds _ _ _ _ _ _ _ _ _ _ _ v h_S hB hm5) rfl rfl (by decide) (by decide) (Nat.le_of_ble_eq_true rfl) (by decide) ?_
          refine ei_ireturn X F dX9_order_53 ?_
          exact ⟨by unfold orderF; rw [if_pos (show orderC (sN (n, w, se, sp, hr, lt, hd, sc, so, fi, wo)) v what = true from hC), if_neg cq31], D, be, h_0, rfl⟩
        · refine ei_aload_n X dX9_order_34 rfl rfl ?_
          refine ei_getf X fl_RX9_10 dX9_order_35 rfl rfl ?_
          refine ei_iload_n X dX9_order_38 rfl rfl ?_
          refine ei_cs1 [1, 2, 3, 4] (oH_gN _ _ _ _ _ _) (oH_pN _ _ _ _ _ _ _) X ml_RX9_220 dX9_order_39 (ct_X7_number _ _ _ _ _ _ _ _ _ _ _ v h_S hB hm5) rfl rfl (by decide) (by decide) (Nat.le_of_ble_eq_true rfl) (by decide) ?_
          refine ei_goto (tgt := 53) X dX9_order_42 (by decide) ?_
          refine ei_ireturn X F dX9_order_53 ?_
          exact ⟨by unfold orderF; rw [if_pos (show orderC (sN (n, w, se, sp, hr, lt, hd, sc, so, fi, wo)) v what = true from hC), if_pos cq31], D, be, h_0, rfl⟩
      · refine ei_iconst (v := -1) X dX9_order_28 rfl ?_
        refine ei_ireturn X F dX9_order_29 ?_
        exact RN (by unfold orderC; rw [cq25, Bool.and_false, Bool.and_false, Bool.and_false])
set_option maxRecDepth 100000 in
set_option maxHeartbeats 1000000 in
theorem ct_X9_suspects (n : Nat) (w se sp hr lt hd sc : Int32) (so fi wo : Nat → Int32) (D T : St) (im : Bool) (Z : Nat → Sh) (be : Nat → Int32) (d what : Int32) (h_S : Good (n, w, se, sp, hr, lt, hd, sc, so, fi, wo)) (h_Z : ∀ k, k < 8 → okZ (Z k)) (h_0 : dg0 be) : e_Ct yX9_suspects cX9_suspects 4 (some .int) 4 [.ref 0, .int d, .int what] (oH (n, w, se, sp, hr, lt, hd, sc, so, fi, wo) D T im Z be) (fP (.int (suspectsF n Z d what)) (n, w, se, sp, hr, lt, hd, sc, so, fi, wo) T im Z) := by
  refine e_open RX9 rfl (by decide +kernel) rfl (fun _ => Nat.le_of_ble_eq_true rfl) (fun x X F => ?_)
  have hn : n ≤ 10 := h_S.1
  have RV : ∀ v, suspectsF n Z d what = v → fP (.int (suspectsF n Z d what)) (n, w, se, sp, hr, lt, hd, sc, so, fi, wo) T im Z (some (.int v)) (oH (n, w, se, sp, hr, lt, hd, sc, so, fi, wo) D T im Z be) := fun v h => ⟨by rw [h], D, be, h_0, rfl⟩
  refine ei_iload_n X dX9_suspects_0 rfl rfl ?_
  refine ei_callT1 X ml_RX9_228 dX9_suspects_1 (ct_X9_isShelf _ _) rfl rfl (by decide) (by decide) (Nat.le_of_ble_eq_true rfl) ?_
  refine ei_ifz_eq (tgt := 16) X dX9_suspects_4 (by decide) (fun cq4 => ?_) (fun cq4 => ?_)
  · refine ei_iconst (v := -1) X dX9_suspects_16 rfl ?_
    refine ei_ireturn X F dX9_suspects_17 ?_
    exact RV _ (by have hw : wrongRowF Z d = -1 := (by unfold wrongRowF; rw [cq4, if_neg Bool.false_ne_true]); unfold suspectsF threesF; rw [hw, if_neg (show ¬ (-1 : Int32) = 0 by decide), if_neg (show ¬ (-1 : Int32) = 0 by decide)]; split <;> rfl)
  · refine ei_iload_n X dX9_suspects_7 rfl rfl ?_
    refine ei_iconst (v := 0) X dX9_suspects_8 rfl ?_
    refine ei_iconst (v := 1) X dX9_suspects_9 rfl ?_
    refine ei_callT1 X ml_RX9_112 dX9_suspects_10 (ct_X9_within _ _ _ _) rfl rfl (by decide) (by decide) (Nat.le_of_ble_eq_true rfl) ?_
    refine ei_ifz_ne (tgt := 18) X dX9_suspects_13 (by decide) (fun cq13 => ?_) (fun cq13 => ?_)
    · refine ei_aload_n X dX9_suspects_18 rfl rfl ?_
      refine ei_iload_n X dX9_suspects_19 rfl rfl ?_
      refine ei_callI1 X ml_RX9_36 dX9_suspects_20 (ct_X9_rowRefusal _ _ _ _ _ _ _ _ _ _ _ _ _ _ _ _ _) rfl rfl (by decide) (by decide) rfl (Nat.le_of_ble_eq_true rfl) ?_
      refine ei_istore_n X dX9_suspects_23 rfl (Nat.le_of_ble_eq_true rfl) rfl ?_
      refine ei_iload_n X dX9_suspects_24 rfl rfl ?_
      refine ei_if_eq (tgt := 30) X dX9_suspects_25 (by decide) (fun cq25 => ?_) (fun cq25 => ?_)
      · obtain ⟨k, hk, rfl, hz⟩ := wrongRow_0 cq25
        have hnc : nc (nI k) = k := nc_nI (by omega)
        obtain ⟨hzn, hzk⟩ := okZ_n h_Z hk hz
        refine ei_aload_n X dX9_suspects_30 rfl rfl ?_
        refine ei_getf X fl_RX9_24 dX9_suspects_31 rfl rfl ?_
        refine ei_iload_n X dX9_suspects_34 rfl rfl ?_
        refine ei_aaload_n X dX9_suspects_35 rfl (by first | omega | assumption) (by decide) rfl ?_
        refine ei_aload_n X dX9_suspects_36 rfl rfl ?_
        refine ei_getf X fl_RX9_10 dX9_suspects_37 rfl rfl ?_
        refine ei_cs1 [1, 2, 3, 4, 14 + 2 * k, 14 + 2 * k + 1] (oH_gNZ _ _ _ _ _ _ hk) (oH_pNZ _ _ _ _ _ _ hk) X ml_RX9_231 dX9_suspects_40 (ct_X8_areTold _ _ _ _ _ _ _ _ _ _ _ (Z k) hzn hn) rfl rfl (by decide) (by decide) (Nat.le_of_ble_eq_true rfl) (nd6b k) ?_
        refine ei_ifz_ne (tgt := 49) X dX9_suspects_43 (by decide) (fun cq43 => ?_) (fun cq43 => ?_)
        · have h3 : threesF n Z (nI k) = 0 := (by unfold threesF; rw [if_pos cq25, hnc, if_pos cq43])
          refine ei_iload_n X dX9_suspects_49 rfl rfl ?_
          refine ei_if_ne (tgt := 72) X dX9_suspects_50 (by decide) (fun cq50 => ?_) (fun cq50 => ?_)
          · refine ei_aload_n X dX9_suspects_72 rfl rfl ?_
            refine ei_getf X fl_RX9_24 dX9_suspects_73 rfl rfl ?_
            refine ei_iload_n X dX9_suspects_76 rfl rfl ?_
            refine ei_aaload_n X dX9_suspects_77 rfl (by first | omega | assumption) (by decide) rfl ?_
            refine ei_aload_n X dX9_suspects_78 rfl rfl ?_
            refine ei_getf X fl_RX9_10 dX9_suspects_79 rfl rfl ?_
            refine ei_getf X fl_RX9_109 dX9_suspects_82 rfl rfl ?_
            refine ei_cs1 [14 + 2 * k, 14 + 2 * k + 1] (oH_gZ _ _ _ _ _ _ hk) (oH_pZ0 _ _ _ _ _ _ hk) X ml_RX9_241 dX9_suspects_85 (ct_X8_twos (Z k) n hzn hn) rfl rfl (by decide) (by decide) (Nat.le_of_ble_eq_true rfl) (nd2 k) ?_
            refine ei_ireturn X F dX9_suspects_88 ?_
            exact RV _ (by unfold suspectsF; rw [if_pos cq13, if_pos h3, if_neg cq50, hnc])
          · refine ei_aload_n X dX9_suspects_53 rfl rfl ?_
            refine ei_getf X fl_RX9_24 dX9_suspects_54 rfl rfl ?_
            refine ei_iload_n X dX9_suspects_57 rfl rfl ?_
            refine ei_aaload_n X dX9_suspects_58 rfl (by first | omega | assumption) (by decide) rfl ?_
            refine ei_aload_n X dX9_suspects_59 rfl rfl ?_
            refine ei_getf X fl_RX9_10 dX9_suspects_60 rfl rfl ?_
            refine ei_getf X fl_RX9_109 dX9_suspects_63 rfl rfl ?_
            refine ei_cs1 [14 + 2 * k, 14 + 2 * k + 1] (oH_gZ _ _ _ _ _ _ hk) (oH_pZ0 _ _ _ _ _ _ hk) X ml_RX9_237 dX9_suspects_66 (ct_X8_ones (Z k) n hzn hn) rfl rfl (by decide) (by decide) (Nat.le_of_ble_eq_true rfl) (nd2 k) ?_
            refine ei_goto (tgt := 88) X dX9_suspects_69 (by decide) ?_
            refine ei_ireturn X F dX9_suspects_88 ?_
            exact RV _ (by unfold suspectsF; rw [if_pos cq13, if_pos h3, if_pos cq50, hnc])
        · refine ei_bipush (v := -13) X dX9_suspects_46 rfl ?_
          refine ei_ireturn X F dX9_suspects_48 ?_
          have h3 : threesF n Z (nI k) = -13 := (by unfold threesF; rw [if_pos cq25, hnc, if_neg (show ¬ toldF n (Z k) = true by rw [cq43]; exact Bool.false_ne_true)])
          exact RV _ (by unfold suspectsF; rw [if_pos cq13, h3, if_neg (by decide)])
      · refine ei_iload_n X dX9_suspects_28 rfl rfl ?_
        refine ei_ireturn X F dX9_suspects_29 ?_
        exact RV _ (by unfold suspectsF threesF; rw [if_pos cq13, if_neg cq25, if_neg cq25])
    · refine ei_iconst (v := -1) X dX9_suspects_16 rfl ?_
      refine ei_ireturn X F dX9_suspects_17 ?_
      exact RV _ (by unfold suspectsF; rw [if_neg (by rw [cq13]; exact Bool.false_ne_true)])
set_option maxRecDepth 100000 in
set_option maxHeartbeats 1000000 in
theorem ct_X9_buy (n : Nat) (w se sp hr lt hd sc : Int32) (so fi wo : Nat → Int32) (D T : St) (im : Bool) (Z : Nat → Sh) (be : Nat → Int32) (m : Int32) (h_S : Good (n, w, se, sp, hr, lt, hd, sc, so, fi, wo)) (h_0 : dg0 be) : e_Ct yX9_buy cX9_buy 3 (some .int) 6 [.ref 0, .int m] (oH (n, w, se, sp, hr, lt, hd, sc, so, fi, wo) D T im Z be) (fP (.int (buyF (n, w, se, sp, hr, lt, hd, sc, so, fi, wo) m)) (n, w, se, sp, hr, lt, hd, sc, so, fi, wo) T im Z) := by
  refine e_open RX9 rfl (by decide +kernel) rfl (fun _ => Nat.le_of_ble_eq_true rfl) (fun x X F => ?_)
  have hn : n ≤ 10 := h_S.1
  have L : ∀ mk, mk ≤ 60 → m = nI mk → inI m 0 60 = true → ∀ (c k : Nat) (D3 : St), 10 - k < c → k ≤ 10 → buyN (n, w, se, sp, hr, lt, hd, sc, so, fi, wo) mk 10 = firstN (fun k => buyR mk (n, w, se, sp, hr, lt, hd, sc, so, fi, wo) (nI k)) k (10 - k) → e_E x 14 [some (.ref 0), some (.int (nI mk)), some (.int (nI k))] [] (oH (n, w, se, sp, hr, lt, hd, sc, so, fi, wo) D3 T im Z be) := by
    intro mk hmk hm hin c
    have hnc : nc m = mk := by rw [hm]; exact nc_nI (by omega)
    induction c with
    | zero => intro k D3 hc; exact absurd hc (Nat.not_lt_zero _)
    | succ c ih =>
      intro k D3 hc hk hv
      refine ei_iload_n X dX9_buy_14 rfl rfl ?_
      refine ei_bipush (v := nI 9) X dX9_buy_15 rfl ?_
      refine ei_icmpn_gt (tgt := 58) X dX9_buy_17 (by decide) (by first | omega | assumption) (by first | omega | assumption) (fun cq17 => ?_) (fun cq17 => ?_)
      · refine ei_bipush (v := -4) X dX9_buy_58 rfl ?_
        refine ei_ireturn X F dX9_buy_60 ?_
        have e : buyN (n, w, se, sp, hr, lt, hd, sc, so, fi, wo) mk 10 = 10 := (by rw [hv, firstN_e (by omega)]; omega)
        exact ⟨by unfold buyF; rw [if_pos hin, hnc, if_pos e], D3, be, h_0, rfl⟩
      · refine ei_aload_n X dX9_buy_20 rfl rfl ?_
        refine ei_getf X fl_RX9_16 dX9_buy_21 rfl rfl ?_
        refine ei_aload_n X dX9_buy_24 rfl rfl ?_
        refine ei_getf X fl_RX9_10 dX9_buy_25 rfl rfl ?_
        refine ei_cv0 [5, 6, 7, 8, 1, 2, 3, 4] (oH_gDN _ _ _ _ _ _) (oH_pDN _ _ _ _ _ _ _) X ml_RX9_44 dX9_buy_28 (ct_X2_becomes _ _) rfl rfl (by decide) (by decide) rfl (Nat.le_of_ble_eq_true rfl) (by decide) ?_
        refine ei_aload_n X dX9_buy_31 rfl rfl ?_
        refine ei_getf X fl_RX9_16 dX9_buy_32 rfl rfl ?_
        refine ei_iload_n X dX9_buy_35 rfl rfl ?_
        refine ei_puti X fp_RX9_120 dX9_buy_36 rfl (Nat.le_of_ble_eq_true rfl) (po_D6 _ _ _ _ _ _ _) ?_
        refine ei_aload_n X dX9_buy_39 rfl rfl ?_
        refine ei_getf X fl_RX9_16 dX9_buy_40 rfl rfl ?_
        refine ei_iload_n X dX9_buy_43 rfl rfl ?_
        refine ei_csR [5, 6, 7, 8] (oH_gD _ _ _ _ _ _) (fun D2 => oH_pD _ _ _ _ _ _ D2) X ml_RX9_244 dX9_buy_44 (ct_X0_burnsWithSpares (n, w, se, sp, hr, lt, hd, sc, so, fi, wo) (nI k) mk h_S (by omega)) rfl rfl (by decide) (by decide) (Nat.le_of_ble_eq_true rfl) (by decide) (fun D2 => ?_)
        refine ei_ifz_eq (tgt := 52) X dX9_buy_47 (by decide) (fun cq47 => ?_) (fun cq47 => ?_)
        · refine ei_iinc_n X dX9_buy_52 rfl rfl ?_
          refine ei_goto (tgt := 14) X dX9_buy_55 (by decide) ?_
          exact ih (k + 1) D2 (by omega) (by omega) (by rw [hv, firstN_f (by omega) cq47])
        · refine ei_iload_n X dX9_buy_50 rfl rfl ?_
          refine ei_ireturn X F dX9_buy_51 ?_
          have e : buyN (n, w, se, sp, hr, lt, hd, sc, so, fi, wo) mk 10 = k := (by rw [hv, firstN_t (by omega) cq47])
          exact ⟨by unfold buyF; rw [if_pos hin, hnc, e, if_neg (by omega)], D2, be, h_0, rfl⟩
  refine ei_iload_n X dX9_buy_0 rfl rfl ?_
  refine ei_iconst (v := 0) X dX9_buy_1 rfl ?_
  refine ei_bipush (v := 60) X dX9_buy_2 rfl ?_
  refine ei_callT1 X ml_RX9_112 dX9_buy_4 (ct_X9_within _ _ _ _) rfl rfl (by decide) (by decide) (Nat.le_of_ble_eq_true rfl) ?_
  refine ei_ifz_ne (tgt := 12) X dX9_buy_7 (by decide) (fun cq7 => ?_) (fun cq7 => ?_)
  · obtain ⟨mk, -, hk2, em⟩ := (inI_iff (lo := 0) (hi := 60) (by decide) (by decide)).mp cq7
    refine ei_iconst (v := nI 0) X dX9_buy_12 rfl ?_
    refine ei_istore_n X dX9_buy_13 rfl (Nat.le_of_ble_eq_true rfl) rfl ?_
    have h0 := L mk (by omega) em cq7 11 0 D (by omega) (by omega) rfl
    rw [← em] at h0
    exact h0
  · refine ei_iconst (v := -1) X dX9_buy_10 rfl ?_
    refine ei_ireturn X F dX9_buy_11 ?_
    exact ⟨by unfold buyF; rw [if_neg (by rw [cq7]; exact Bool.false_ne_true)], D, be, h_0, rfl⟩
/-! light, uncut: the same but for LIT -/
def wiL (S : St) (l : Int32) : St := (sN S, sW S, sE S, sP S, sH S, l, sD S, sC S, sO S, sG S, sR S)
theorem lead_cut1 (S : St) (l : Int32) : cut1 (wiL S l) 0 = (sN S, sW S, sE S, sP S, sH S + 1, l, sD S, sC S, sO S, sG S, sR S) := by
  have e1 : partQ (wiL S l) 0 0 (sH S + 1) = (sW S, sR S) := by
    unfold partQ
    split
    · rfl
    · rfl
  have e2 : partQ (wiL S l) 0 0 (sH (wiL S l) + 1) = (sW S, sR S) := e1
  unfold cut1
  rw [e2]
  rfl
theorem cut0 (S : St) (l : Int32) : cutS (wiL S l) 0 = wiL (hourS S 1) l ∧ cutN (wiL S l) 0 = (if hourB S then wholeN (sW S) 0 (sN S) else 0) := by
  have ec := lead_cut1 S l
  have eL : leadAll (cut1 (wiL S l) 0) 0 (sN S) (sH S + 1) = leadAll S 0 (sN S) (sH S + 1) := by rw [ec]; rfl
  have eW : wearV (cut1 (wiL S l) 0) 0 (sN S) 1 = wearV S 0 (sN S) 1 := by rw [ec]; rfl
  have eV : (sW (cut1 (wiL S l) 0), sR (cut1 (wiL S l) 0)) = (sW S, sR S) := by rw [ec]
  have eP0 : partN (wiL S l) 0 0 (sH S + 1) = 0 := by
    unfold partN
    split
    · rfl
    · rfl
  have eQ : partQ (cut1 (wiL S l) 0) 0 (sN S) (sH S + 1) = hourQ S 1 := by
    unfold partQ hourQ
    rw [eL, eW, eV]
    rcases Nat.eq_zero_or_pos (sN S) with z | z
    · have e3 : wearV S 0 (sN S) 1 = (sW S, sR S) := by rw [z]; rfl
      rw [e3]
      split <;> split <;> rfl
    · have e4 : hourB S = leadAll S 0 (sN S) (sH S + 1) := by
        unfold hourB burnsF
        rw [decide_eq_true z, Bool.true_and]
      rw [e4]
  have eN : partN (cut1 (wiL S l) 0) 0 (sN S) (sH S + 1) = (if hourB S then wholeN (sW S) 0 (sN S) else 0) := by
    unfold partN
    rw [eL, show sW (cut1 (wiL S l) 0) = sW S from by rw [ec]]
    rcases Nat.eq_zero_or_pos (sN S) with z | z
    · have e3 : wholeN (sW S) 0 (sN S) = 0 := by rw [z]; rfl
      rw [e3]
      split <;> split <;> rfl
    · have e4 : hourB S = leadAll S 0 (sN S) (sH S + 1) := by
        unfold hourB burnsF
        rw [decide_eq_true z, Bool.true_and]
      rw [e4]
  constructor
  · show (sN S, (partQ (cut1 (wiL S l) 0) 0 (sN S) (sH S + 1)).1, hourE S, sP S, sH S + 1, l, sD S, sC S, sO S, sG S, (partQ (cut1 (wiL S l) 0) 0 (sN S) (sH S + 1)).2) = _
    rw [eQ]
    rfl
  · show partN (wiL S l) 0 0 (sH S + 1) + partN (cut1 (wiL S l) 0) 0 (sN S) (sH S + 1) = _
    rw [eP0, eN, Int32.zero_add]
theorem lp0 (l : Int32) : ∀ (m i : Nat) (S : St) (a : Int32), (itr (lpCut 0) (wiL S l, a) i m).2 = (itr lpGo (S, a) i m).2
  | 0, _, _, _ => rfl
  | m + 1, i, S, a => by
    obtain ⟨e1, e2⟩ := cut0 S l
    rw [itr_s, itr_s]
    have e3 : lpCut 0 (wiL S l, a) i = (wiL (hourS S 1) l, a + if hourB S then wholeN (sW S) 0 (sN S) else 0) := by
      unfold lpCut
      rw [e1, e2]
    rw [e3, lp0 l m (i + 1)]
    rfl
theorem light_cut (S : St) (k m : Nat) : (itr (lpCut k) (S, 0) 0 m).2 = lightF S k m := by
  show _ = (lightP S k m).2
  unfold lightP
  split
  · rename_i q
    subst q
    have h := lp0 (sL S) m 0 S 0
    exact h
  · rfl
theorem wholeN_ge (w : Int32) (i e : Nat) (he : e ≤ 10) : Gd1 (wholeN w i e) 10 := by
  obtain ⟨k, h1, h2⟩ := wholeN_nI w i e
  rw [h2]
  exact nI_gd (m := 10) (by omega) (by decide)
theorem lpGo_ge : ∀ (m i : Nat) (S : St) (a : Nat), sN S ≤ 10 → a + 10 * m < 100000 → ∃ b, b ≤ a + 10 * m ∧ (itr lpGo (S, nI a) i m).2 = nI b
  | 0, _, _, a, _, _ => ⟨a, by omega, rfl⟩
  | m + 1, i, S, a, hn, hb => by
    rw [itr_s]
    obtain ⟨k, h1, h2⟩ := wholeN_nI (sW S) 0 (sN S)
    have e : lpGo (S, nI a) i = (hourS S 1, nI (a + if hourB S then k else 0)) := by
      unfold lpGo
      rw [h2]
      show (hourS S 1, nI a + if hourB S then nI k else 0) = _
      split
      · rw [nI_add]
      · rw [show (0 : Int32) = nI 0 from rfl, nI_add]
    rw [e]
    obtain ⟨b, b1, b2⟩ := lpGo_ge m (i + 1) (hourS S 1) (a + if hourB S then k else 0) hn (by split <;> omega)
    exact ⟨b, by split at b1 <;> omega, b2⟩
theorem light_ge {S : St} (h : Good S) {k m : Nat} (hk : k = 0 ∨ k = 0) (hm : m < 1000) : ¬ lightF S k m ≤ -1 := by
  have h0 : k = 0 := by omega
  subst h0
  obtain ⟨b, b1, b2⟩ := lpGo_ge m 0 S 0 h.1 (by omega)
  have e : lightF S 0 m = nI b := b2
  rw [e, Int32.le_iff_toInt_le, nI_toInt (by omega), show (-1 : Int32).toInt = -1 from rfl]
  omega
theorem cut_N (S : St) (k : Nat) : sN (cutS S k) = sN S := rfl
set_option maxRecDepth 100000 in
set_option maxHeartbeats 1000000 in
theorem ct_X9_lightOfCut (n : Nat) (w se sp hr lt hd sc : Int32) (so fi wo : Nat → Int32) (D T : St) (im : Bool) (Z : Nat → Sh) (be : Nat → Int32) (k m : Nat) (h_k : k ≤ 10) (h_m : m < 1000) (h_S : Good (n, w, se, sp, hr, lt, hd, sc, so, fi, wo)) : e_Ct yX9_lightOfCut cX9_lightOfCut 5 (some .int) 6 [.ref 0, .int (nI k), .int (nI m)] (oH (n, w, se, sp, hr, lt, hd, sc, so, fi, wo) D T im Z be) (rP (.int (lightF (n, w, se, sp, hr, lt, hd, sc, so, fi, wo) k m)) (fun D2 => oH (n, w, se, sp, hr, lt, hd, sc, so, fi, wo) D2 T im Z be)) := by
  refine e_open RX9 rfl (by decide +kernel) rfl (fun _ => Nat.le_of_ble_eq_true rfl) (fun x X F => ?_)
  have hn : n ≤ 10 := h_S.1
  have L : ∀ (c j : Nat) (q : St × Int32), m - j < c → j ≤ m → sN q.1 ≤ 10 → (itr (lpCut k) ((n, w, se, sp, hr, lt, hd, sc, so, fi, wo), 0) 0 m).2 = (itr (lpCut k) q j (m - j)).2 → e_E x 16 [some (.ref 0), some (.int (nI k)), some (.int (nI m)), some (.int q.2), some (.int (nI j))] [] (oH (n, w, se, sp, hr, lt, hd, sc, so, fi, wo) q.1 T im Z be) := by
    intro c
    induction c with
    | zero => intro j q hc; exact absurd hc (Nat.not_lt_zero _)
    | succ c ih =>
      intro j q hc hj hq hv
      obtain ⟨⟨n2, w2, se2, sp2, hr2, lt2, hd2, sc2, so2, fi2, wo2⟩, a⟩ := q
      refine ei_iload X dX9_lightOfCut_16 rfl ?_
      refine ei_iload_n X dX9_lightOfCut_18 rfl rfl ?_
      refine ei_icmpn_ge (tgt := 39) X dX9_lightOfCut_19 (by decide) (by first | omega | assumption) (by first | omega | assumption) (fun cq19 => ?_) (fun cq19 => ?_)
      · refine ei_iload_n X dX9_lightOfCut_39 rfl rfl ?_
        refine ei_ireturn X F dX9_lightOfCut_40 ?_
        exact ⟨by rw [← light_cut, hv, itr_ge _ _ (by omega)], (n2, w2, se2, sp2, hr2, lt2, hd2, sc2, so2, fi2, wo2), rfl⟩
      · refine ei_iload_n X dX9_lightOfCut_22 rfl rfl ?_
        refine ei_aload_n X dX9_lightOfCut_23 rfl rfl ?_
        refine ei_getf X fl_RX9_16 dX9_lightOfCut_24 rfl rfl ?_
        refine ei_iload_n X dX9_lightOfCut_27 rfl rfl ?_
        refine ei_cv1 [5, 6, 7, 8] (oH_gD _ _ _ _ _ _) (oH_pD _ _ _ _ _ _ _) X ml_RX9_349 dX9_lightOfCut_28 (ct_X2_cutHour _ _ _ _ _ _ _ _ _ _ _ k hq h_k) rfl rfl (by decide) (by decide) rfl (Nat.le_of_ble_eq_true rfl) (by decide) ?_
        refine ei_iadd X dX9_lightOfCut_31 ?_
        refine ei_istore_n X dX9_lightOfCut_32 rfl (Nat.le_of_ble_eq_true rfl) rfl ?_
        refine ei_iinc_n X dX9_lightOfCut_33 rfl rfl ?_
        refine ei_goto (tgt := 16) X dX9_lightOfCut_36 (by decide) ?_
        exact ih (j + 1) (lpCut k ((n2, w2, se2, sp2, hr2, lt2, hd2, sc2, so2, fi2, wo2), a) j) (by omega) (by omega) hq (by rw [hv, itr_lt _ _ (by omega)])
  refine ei_aload_n X dX9_lightOfCut_0 rfl rfl ?_
  refine ei_getf X fl_RX9_16 dX9_lightOfCut_1 rfl rfl ?_
  refine ei_aload_n X dX9_lightOfCut_4 rfl rfl ?_
  refine ei_getf X fl_RX9_10 dX9_lightOfCut_5 rfl rfl ?_
  refine ei_cv0 [5, 6, 7, 8, 1, 2, 3, 4] (oH_gDN _ _ _ _ _ _) (oH_pDN _ _ _ _ _ _ _) X ml_RX9_44 dX9_lightOfCut_8 (ct_X2_becomes _ _) rfl rfl (by decide) (by decide) rfl (Nat.le_of_ble_eq_true rfl) (by decide) ?_
  refine ei_iconst (v := 0) X dX9_lightOfCut_11 rfl ?_
  refine ei_istore_n X dX9_lightOfCut_12 rfl (Nat.le_of_ble_eq_true rfl) rfl ?_
  refine ei_iconst (v := nI 0) X dX9_lightOfCut_13 rfl ?_
  refine ei_istore X dX9_lightOfCut_14 (Nat.le_of_ble_eq_true rfl) rfl ?_
  exact L (m + 1) 0 ((n, w, se, sp, hr, lt, hd, sc, so, fi, wo), 0) (by omega) (by omega) hn rfl
set_option maxRecDepth 100000 in
set_option maxHeartbeats 1000000 in
theorem ct_X9_light (n : Nat) (w se sp hr lt hd sc : Int32) (so fi wo : Nat → Int32) (D T : St) (im : Bool) (Z : Nat → Sh) (be : Nat → Int32) (k m : Int32) (h_S : Good (n, w, se, sp, hr, lt, hd, sc, so, fi, wo)) (h_0 : dg0 be) : e_Ct yX9_light cX9_light 4 (some .int) 7 [.ref 0, .int k, .int m] (oH (n, w, se, sp, hr, lt, hd, sc, so, fi, wo) D T im Z be) (fP (.int (lightR (n, w, se, sp, hr, lt, hd, sc, so, fi, wo) k m)) (n, w, se, sp, hr, lt, hd, sc, so, fi, wo) T im Z) := by
  refine e_open RX9 rfl (by decide +kernel) rfl (fun _ => Nat.le_of_ble_eq_true rfl) (fun x X F => ?_)
  have hn : n ≤ 10 := h_S.1
  have RN : ¬ ((¬ k < 0 ∧ (k ≤ 0 ∨ ¬ nI (sN (n, w, se, sp, hr, lt, hd, sc, so, fi, wo)) ≤ k)) ∧ inI m 0 30 = true) → fP (.int (lightR (n, w, se, sp, hr, lt, hd, sc, so, fi, wo) k m)) (n, w, se, sp, hr, lt, hd, sc, so, fi, wo) T im Z (some (.int (-1))) (oH (n, w, se, sp, hr, lt, hd, sc, so, fi, wo) D T im Z be) := fun h => ⟨by unfold lightR; rw [if_neg h], D, be, h_0, rfl⟩
  have E25 : ¬ k < 0 ∧ (k ≤ 0 ∨ ¬ nI n ≤ k) → e_E x 25 [some (.ref 0), some (.int k), some (.int m), some (.int 1)] [] (oH (n, w, se, sp, hr, lt, hd, sc, so, fi, wo) D T im Z be) := by
    intro hk
    obtain ⟨a, ha, rfl⟩ := lightR_k hn hk.1 hk.2
    refine ei_iload_n X dX9_light_25 rfl rfl ?_
    refine ei_if_eq (tgt := 39) X dX9_light_26 (by decide) (fun cq26 => ?_) (fun cq26 => ?_)
    · first | exact absurd cq26 (by decide) | exact absurd (by decide) cq26
    · refine ei_iload_n X dX9_light_29 rfl rfl ?_
      refine ei_iconst (v := 0) X dX9_light_30 rfl ?_
      refine ei_bipush (v := 30) X dX9_light_31 rfl ?_
      refine ei_callT1 X ml_RX9_112 dX9_light_33 (ct_X9_within _ _ _ _) rfl rfl (by decide) (by decide) (Nat.le_of_ble_eq_true rfl) ?_
      refine ei_ifz_ne (tgt := 41) X dX9_light_36 (by decide) (fun cq36 => ?_) (fun cq36 => ?_)
      · obtain ⟨b, -, hb, rfl⟩ := (inI_iff (lo := 0) (hi := 30) (by decide) (by decide)).mp cq36
        refine ei_aload_n X dX9_light_41 rfl rfl ?_
        refine ei_iload_n X dX9_light_42 rfl rfl ?_
        refine ei_iload_n X dX9_light_43 rfl rfl ?_
        refine ei_callI X ml_RX9_248 dX9_light_44 (ct_X9_lightOfCut _ _ _ _ _ _ _ _ _ _ _ _ _ _ _ _ a b (by omega) (by omega) h_S) rfl rfl (by decide) (by decide) rfl (Nat.le_of_ble_eq_true rfl) (fun r h2 hp => ?_)
        obtain ⟨rfl, D2, rfl⟩ := hp
        refine ei_ireturn X F dX9_light_47 ?_
        exact ⟨by unfold lightR; rw [if_pos ⟨hk, cq36⟩, nc_nI (by omega), nc_nI (by omega)], D2, be, h_0, rfl⟩
      · refine ei_iconst (v := -1) X dX9_light_39 rfl ?_
        refine ei_ireturn X F dX9_light_40 ?_
        exact RN (fun z => Bool.false_ne_true (cq36.symm.trans z.2))
  have EF : ¬ (¬ k < 0 ∧ (k ≤ 0 ∨ ¬ nI n ≤ k)) → e_E x 25 [some (.ref 0), some (.int k), some (.int m), some (.int 0)] [] (oH (n, w, se, sp, hr, lt, hd, sc, so, fi, wo) D T im Z be) := by
    intro hk
    refine ei_iload_n X dX9_light_25 rfl rfl ?_
    refine ei_if_eq (tgt := 39) X dX9_light_26 (by decide) (fun cq26 => ?_) (fun cq26 => ?_)
    · refine ei_iconst (v := -1) X dX9_light_39 rfl ?_
      refine ei_ireturn X F dX9_light_40 ?_
      exact RN (fun z => hk z.1)
    · first | exact absurd cq26 (by decide) | exact absurd (by decide) cq26
  refine ei_iload_n X dX9_light_0 rfl rfl ?_
  refine ei_if_eq (tgt := 19) X dX9_light_1 (by decide) (fun cq1 => ?_) (fun cq1 => ?_)
  · refine ei_iconst (v := 1) X dX9_light_19 rfl ?_
    refine ei_goto (tgt := 24) X dX9_light_20 (by decide) ?_
    refine ei_istore_n X dX9_light_24 rfl (Nat.le_of_ble_eq_true rfl) rfl ?_
    exact E25 (by rw [cq1]; exact ⟨by decide, Or.inl (by decide)⟩)
  · refine ei_iload_n X dX9_light_4 rfl rfl ?_
    refine ei_if_le (tgt := 23) X dX9_light_5 (by decide) (fun cq5 => ?_) (fun cq5 => ?_)
    · refine ei_iconst (v := 0) X dX9_light_23 rfl ?_
      refine ei_istore_n X dX9_light_24 rfl (Nat.le_of_ble_eq_true rfl) rfl ?_
      exact EF (fun z => z.1 (Int32.lt_of_le_of_ne cq5 cq1))
    · refine ei_iload_n X dX9_light_8 rfl rfl ?_
      refine ei_aload_n X dX9_light_9 rfl rfl ?_
      refine ei_getf X fl_RX9_10 dX9_light_10 rfl rfl ?_
      refine ei_getf X fl_RX9_109 dX9_light_13 rfl rfl ?_
      refine ei_icmp_ge (tgt := 23) X dX9_light_16 (by decide) (fun cq16 => ?_) (fun cq16 => ?_)
      · refine ei_iconst (v := 0) X dX9_light_23 rfl ?_
        refine ei_istore_n X dX9_light_24 rfl (Nat.le_of_ble_eq_true rfl) rfl ?_
        exact EF (fun z => z.2.elim (fun y => cq5 y) (fun y => y cq16))
      · refine ei_iconst (v := 1) X dX9_light_19 rfl ?_
        refine ei_goto (tgt := 24) X dX9_light_20 (by decide) ?_
        refine ei_istore_n X dX9_light_24 rfl (Nat.le_of_ble_eq_true rfl) rfl ?_
        exact E25 ⟨fun z => cq5 (Int32.le_of_lt z), Or.inr cq16⟩
set_option maxRecDepth 100000 in
set_option maxHeartbeats 1000000 in
theorem ct_X9_split (n : Nat) (w se sp hr lt hd sc : Int32) (so fi wo : Nat → Int32) (D T : St) (im : Bool) (Z : Nat → Sh) (be : Nat → Int32) (m what : Int32) (h_S : Good (n, w, se, sp, hr, lt, hd, sc, so, fi, wo)) (h_0 : dg0 be) : e_Ct yX9_split cX9_split 7 (some .int) 7 [.ref 0, .int m, .int what] (oH (n, w, se, sp, hr, lt, hd, sc, so, fi, wo) D T im Z be) (fP (.int (splitF (n, w, se, sp, hr, lt, hd, sc, so, fi, wo) m what)) (n, w, se, sp, hr, lt, hd, sc, so, fi, wo) T im Z) := by
  refine e_open RX9 rfl (by decide +kernel) rfl (fun _ => Nat.le_of_ble_eq_true rfl) (fun x X F => ?_)
  have hn : n ≤ 10 := h_S.1
  have L : ∀ mk, mk ≤ 30 → nc m = mk → m = nI mk → inI m 0 30 = true → inI what 0 1 = true → ∀ (c k : Nat) (q : Int32 × Int32) (D3 : St), 11 - k < c → 1 ≤ k → k ≤ 10 → k ≤ (if n = 0 then 1 else n) → splitP (n, w, se, sp, hr, lt, hd, sc, so, fi, wo) mk = itr (split1 (n, w, se, sp, hr, lt, hd, sc, so, fi, wo) mk) q k ((if n = 0 then 1 else n) - k) → e_E x 34 [some (.ref 0), some (.int (nI mk)), some (.int what), some (.int q.1), some (.int q.2), some (.int (nI k)), none] [] (oH (n, w, se, sp, hr, lt, hd, sc, so, fi, wo) D3 T im Z be) := by
    intro mk hmk hnc hm hin1 hin2 c
    induction c with
    | zero => intro k q D3 hc; exact absurd hc (Nat.not_lt_zero _)
    | succ c ih =>
      intro k q D3 hc hk1 hk hke hv
      refine ei_iload X dX9_split_34 rfl ?_
      refine ei_aload_n X dX9_split_36 rfl rfl ?_
      refine ei_getf X fl_RX9_10 dX9_split_37 rfl rfl ?_
      refine ei_getf X fl_RX9_109 dX9_split_40 rfl rfl ?_
      show e_E x _ _ [.int (nI n), .int (nI k)] _
      refine ei_icmpn_ge (tgt := 75) X dX9_split_43 (by decide) (by first | omega | assumption) (by first | omega | assumption) (fun cq43 => ?_) (fun cq43 => ?_)
      · have he : splitP (n, w, se, sp, hr, lt, hd, sc, so, fi, wo) mk = q := (by rw [hv, itr_ge _ _ (by split <;> omega)])
        refine ei_iload_n X dX9_split_75 rfl rfl ?_
        refine ei_if_ne (tgt := 83) X dX9_split_76 (by decide) (fun cq76 => ?_) (fun cq76 => ?_)
        · refine ei_iload X dX9_split_83 rfl ?_
          refine ei_ireturn X F dX9_split_85 ?_
          exact ⟨by unfold splitF; rw [if_pos ⟨hin1, hin2⟩, hnc, he, if_neg cq76], D3, be, h_0, rfl⟩
        · refine ei_iload_n X dX9_split_79 rfl rfl ?_
          refine ei_goto (tgt := 85) X dX9_split_80 (by decide) ?_
          refine ei_ireturn X F dX9_split_85 ?_
          exact ⟨by unfold splitF; rw [if_pos ⟨hin1, hin2⟩, hnc, he, if_pos cq76], D3, be, h_0, rfl⟩
      · have hne : (if n = 0 then 1 else n) = n := if_neg (by omega)
        refine ei_aload_n X dX9_split_46 rfl rfl ?_
        refine ei_iload X dX9_split_47 rfl ?_
        refine ei_iload_n X dX9_split_49 rfl rfl ?_
        refine ei_callI X ml_RX9_248 dX9_split_50 (ct_X9_lightOfCut _ _ _ _ _ _ _ _ _ _ _ _ _ _ _ _ k mk (by omega) (by omega) h_S) rfl rfl (by decide) (by decide) rfl (Nat.le_of_ble_eq_true rfl) (fun r h2 hp => ?_)
        obtain ⟨rfl, D2, rfl⟩ := hp
        refine ei_istore X dX9_split_53 (Nat.le_of_ble_eq_true rfl) rfl ?_
        refine ei_iload X dX9_split_55 rfl ?_
        refine ei_iload X dX9_split_57 rfl ?_
        refine ei_icmp_le (tgt := 69) X dX9_split_59 (by decide) (fun cq59 => ?_) (fun cq59 => ?_)
        · refine ei_iinc_n X dX9_split_69 rfl rfl ?_
          refine ei_goto (tgt := 34) X dX9_split_72 (by decide) ?_
          refine ei_drop 6 ?_
          exact ih (k + 1) q D2 (by omega) (by omega) (by omega) (by omega) (by rw [hv, itr_lt _ _ (by omega), show split1 (n, w, se, sp, hr, lt, hd, sc, so, fi, wo) mk q k = q from by unfold split1; rw [if_pos cq59, if_pos cq59]])
        · refine ei_iload X dX9_split_62 rfl ?_
          refine ei_istore_n X dX9_split_64 rfl (Nat.le_of_ble_eq_true rfl) rfl ?_
          refine ei_iload X dX9_split_65 rfl ?_
          refine ei_istore X dX9_split_67 (Nat.le_of_ble_eq_true rfl) rfl ?_
          refine ei_iinc_n X dX9_split_69 rfl rfl ?_
          refine ei_goto (tgt := 34) X dX9_split_72 (by decide) ?_
          refine ei_drop 6 ?_
          exact ih (k + 1) (nI k, lightF (n, w, se, sp, hr, lt, hd, sc, so, fi, wo) k mk) D2 (by omega) (by omega) (by omega) (by omega) (by rw [hv, itr_lt _ _ (by omega), show split1 (n, w, se, sp, hr, lt, hd, sc, so, fi, wo) mk q k = (nI k, lightF (n, w, se, sp, hr, lt, hd, sc, so, fi, wo) k mk) from by unfold split1; rw [if_neg cq59, if_neg cq59]])
  refine ei_iload_n X dX9_split_0 rfl rfl ?_
  refine ei_iconst (v := 0) X dX9_split_1 rfl ?_
  refine ei_bipush (v := 30) X dX9_split_2 rfl ?_
  refine ei_callT1 X ml_RX9_112 dX9_split_4 (ct_X9_within _ _ _ _) rfl rfl (by decide) (by decide) (Nat.le_of_ble_eq_true rfl) ?_
  refine ei_ifz_eq (tgt := 19) X dX9_split_7 (by decide) (fun cq7 => ?_) (fun cq7 => ?_)
  · refine ei_iconst (v := -1) X dX9_split_19 rfl ?_
    refine ei_ireturn X F dX9_split_20 ?_
    exact ⟨by unfold splitF; rw [if_neg (fun z => Bool.false_ne_true (cq7.symm.trans z.1))], D, be, h_0, rfl⟩
  · refine ei_iload_n X dX9_split_10 rfl rfl ?_
    refine ei_iconst (v := 0) X dX9_split_11 rfl ?_
    refine ei_iconst (v := 1) X dX9_split_12 rfl ?_
    refine ei_callT1 X ml_RX9_112 dX9_split_13 (ct_X9_within _ _ _ _) rfl rfl (by decide) (by decide) (Nat.le_of_ble_eq_true rfl) ?_
    refine ei_ifz_ne (tgt := 21) X dX9_split_16 (by decide) (fun cq16 => ?_) (fun cq16 => ?_)
    · obtain ⟨mk, -, hk2, em⟩ := (inI_iff (lo := 0) (hi := 30) (by decide) (by decide)).mp cq7
      have hnc : nc m = mk := (by rw [em]; exact nc_nI (by omega))
      have hge := light_ge h_S (k := 0) (m := mk) (Or.inl rfl) (by omega)
      refine ei_iconst (v := 0) X dX9_split_21 rfl ?_
      refine ei_istore_n X dX9_split_22 rfl (Nat.le_of_ble_eq_true rfl) rfl ?_
      refine ei_aload_n X dX9_split_23 rfl rfl ?_
      refine ei_iconst (v := 0) X dX9_split_24 rfl ?_
      refine ei_iload_n X dX9_split_25 rfl rfl ?_
      rw [em]
      refine ei_callI X ml_RX9_248 dX9_split_26 (ct_X9_lightOfCut _ _ _ _ _ _ _ _ _ _ _ _ _ _ _ _ 0 mk (by omega) (by omega) h_S) rfl rfl (by decide) (by decide) rfl (Nat.le_of_ble_eq_true rfl) (fun r h2 hp => ?_)
      obtain ⟨rfl, D2, rfl⟩ := hp
      refine ei_istore X dX9_split_29 (Nat.le_of_ble_eq_true rfl) rfl ?_
      refine ei_iconst (v := nI 1) X dX9_split_31 rfl ?_
      refine ei_istore X dX9_split_32 (Nat.le_of_ble_eq_true rfl) rfl ?_
      exact L mk (by omega) hnc em cq7 cq16 12 1 (0, lightF (n, w, se, sp, hr, lt, hd, sc, so, fi, wo) 0 mk) D2 (by omega) (by omega) (by omega) (by split <;> omega) (by unfold splitP; rw [show (if sN (n, w, se, sp, hr, lt, hd, sc, so, fi, wo) = 0 then 1 else sN (n, w, se, sp, hr, lt, hd, sc, so, fi, wo)) = (if n = 0 then 1 else n) from rfl]; have h1 : 0 < (if n = 0 then 1 else n) := (by split <;> omega); have h2 := itr_lt (split1 (n, w, se, sp, hr, lt, hd, sc, so, fi, wo) mk) (0, -1) h1; rw [Nat.sub_zero] at h2; rw [h2, show split1 (n, w, se, sp, hr, lt, hd, sc, so, fi, wo) mk (0, -1) 0 = (0, lightF (n, w, se, sp, hr, lt, hd, sc, so, fi, wo) 0 mk) from by unfold split1; rw [if_neg hge, if_neg hge]; rfl])
    · refine ei_iconst (v := -1) X dX9_split_19 rfl ?_
      refine ei_ireturn X F dX9_split_20 ?_
      exact ⟨by unfold splitF; rw [if_neg (fun z => Bool.false_ne_true (cq16.symm.trans z.2))], D, be, h_0, rfl⟩

