set_option maxRecDepth 100000 in
set_option maxHeartbeats 1000000 in
theorem ct_X9_beat (n : Nat) (w se sp hr lt hd sc : Int32) (so fi wo : Nat → Int32) (D T : St) (im : Bool) (Z : Nat → Sh) (be : Nat → Int32) (b m what : Int32) (h_S : Good (n, w, se, sp, hr, lt, hd, sc, so, fi, wo)) (h_0 : dg0 be) : e_Ct yX9_beat cX9_beat 8 (some .int) 6 [.ref 0, .int b, .int m, .int what] (oH (n, w, se, sp, hr, lt, hd, sc, so, fi, wo) D T im Z be) (fP (.int (beatF (n, w, se, sp, hr, lt, hd, sc, so, fi, wo) b m what)) (n, w, se, sp, hr, lt, hd, sc, so, fi, wo) T im Z) := by
  refine e_open RX9 rfl (by decide +kernel) rfl (fun _ => Nat.le_of_ble_eq_true rfl) (fun x X F => ?_)
  have hn : n ≤ 10 := h_S.1
  have L : ∀ (j mk : Nat), j < n → mk ≤ 60 → beatF (n, w, se, sp, hr, lt, hd, sc, so, fi, wo) b m what = (if what = 0 then (itr (beat1 (n, w, se, sp, hr, lt, hd, sc, so, fi, wo) j mk) (0, -1) 0 10).1 else (itr (beat1 (n, w, se, sp, hr, lt, hd, sc, so, fi, wo) j mk) (0, -1) 0 10).2) → ∀ (c f : Nat) (q : Int32 × Int32) (D3 : St), 10 - f < c → f ≤ 10 → itr (beat1 (n, w, se, sp, hr, lt, hd, sc, so, fi, wo) j mk) (0, -1) 0 10 = itr (beat1 (n, w, se, sp, hr, lt, hd, sc, so, fi, wo) j mk) q f (10 - f) → e_E x 41 [some (.ref 0), some (.int (nI j)), some (.int (nI mk)), some (.int what), some (.int q.1), some (.int q.2), some (.int (nI f)), none] [] (oH (n, w, se, sp, hr, lt, hd, sc, so, fi, wo) D3 T im Z be) := by
    intro j mk hj hmk hF c
    induction c with
    | zero => intro f q D3 hc; exact absurd hc (Nat.not_lt_zero _)
    | succ c ih =>
      intro f q D3 hc hf hv
      refine ei_iload X dX9_beat_41 rfl ?_
      refine ei_bipush (v := nI 9) X dX9_beat_43 rfl ?_
      refine ei_icmpn_gt (tgt := 101) X dX9_beat_45 (by decide) (by first | omega | assumption) (by first | omega | assumption) (fun cq45 => ?_) (fun cq45 => ?_)
      · have he : itr (beat1 (n, w, se, sp, hr, lt, hd, sc, so, fi, wo) j mk) (0, -1) 0 10 = q := (by rw [hv, itr_ge _ _ (by omega)])
        refine ei_iload_n X dX9_beat_101 rfl rfl ?_
        refine ei_if_ne (tgt := 110) X dX9_beat_102 (by decide) (fun cq102 => ?_) (fun cq102 => ?_)
        · refine ei_iload X dX9_beat_110 rfl ?_
          refine ei_ireturn X F dX9_beat_112 ?_
          exact ⟨by rw [hF, if_neg cq102, he], D3, be, h_0, rfl⟩
        · refine ei_iload X dX9_beat_105 rfl ?_
          refine ei_goto (tgt := 112) X dX9_beat_107 (by decide) ?_
          refine ei_ireturn X F dX9_beat_112 ?_
          exact ⟨by rw [hF, if_pos cq102, he], D3, be, h_0, rfl⟩
      · refine ei_aload_n X dX9_beat_48 rfl rfl ?_
        refine ei_getf X fl_RX9_16 dX9_beat_49 rfl rfl ?_
        refine ei_aload_n X dX9_beat_52 rfl rfl ?_
        refine ei_getf X fl_RX9_10 dX9_beat_53 rfl rfl ?_
        refine ei_cv0 [5, 6, 7, 8, 1, 2, 3, 4] (oH_gDN _ _ _ _ _ _) (oH_pDN _ _ _ _ _ _ _) X ml_RX9_44 dX9_beat_56 (ct_X2_becomes _ _) rfl rfl (by decide) (by decide) rfl (Nat.le_of_ble_eq_true rfl) (by decide) ?_
        refine ei_aload_n X dX9_beat_59 rfl rfl ?_
        refine ei_getf X fl_RX9_16 dX9_beat_60 rfl rfl ?_
        refine ei_getf X fl_RX9_62 dX9_beat_63 rfl rfl ?_
        refine ei_iload_n X dX9_beat_66 rfl rfl ?_
        refine ei_iload X dX9_beat_67 rfl ?_
        refine ei_iastore_n X dX9_beat_69 rfl (by first | omega | assumption) (by decide) (po_D3 _ _ _ _ _ _ _) ?_
        refine ei_aload_n X dX9_beat_70 rfl rfl ?_
        refine ei_getf X fl_RX9_16 dX9_beat_71 rfl rfl ?_
        refine ei_iload_n X dX9_beat_74 rfl rfl ?_
        refine ei_csR [5, 6, 7, 8] (oH_gD _ _ _ _ _ _) (fun D2 => oH_pD _ _ _ _ _ _ D2) X ml_RX9_251 dX9_beat_75 (ct_X0_hoursBurnt _ _ _ _ _ _ _ _ _ _ _ mk (good_fig (S := (n, w, se, sp, hr, lt, hd, sc, so, fi, wo)) h_S (b := j) (f := f) (by omega)) (by omega)) rfl rfl (by decide) (by decide) (Nat.le_of_ble_eq_true rfl) (by decide) (fun D2 => ?_)
        show e_E x _ _ [.int (burntF (figS (n, w, se, sp, hr, lt, hd, sc, so, fi, wo) j f) mk)] _
        refine ei_istore X dX9_beat_78 (Nat.le_of_ble_eq_true rfl) rfl ?_
        refine ei_iload X dX9_beat_80 rfl ?_
        refine ei_iload X dX9_beat_82 rfl ?_
        refine ei_icmp_le (tgt := 95) X dX9_beat_84 (by decide) (fun cq84 => ?_) (fun cq84 => ?_)
        · refine ei_iinc_n X dX9_beat_95 rfl rfl ?_
          refine ei_goto (tgt := 41) X dX9_beat_98 (by decide) ?_
          refine ei_drop 7 ?_
          exact ih (f + 1) q D2 (by omega) (by omega) (by rw [hv, itr_lt _ _ (by omega), show beat1 (n, w, se, sp, hr, lt, hd, sc, so, fi, wo) j mk q f = q from by unfold beat1; rw [if_pos cq84, if_pos cq84]])
        · refine ei_iload X dX9_beat_87 rfl ?_
          refine ei_istore X dX9_beat_89 (Nat.le_of_ble_eq_true rfl) rfl ?_
          refine ei_iload X dX9_beat_91 rfl ?_
          refine ei_istore X dX9_beat_93 (Nat.le_of_ble_eq_true rfl) rfl ?_
          refine ei_iinc_n X dX9_beat_95 rfl rfl ?_
          refine ei_goto (tgt := 41) X dX9_beat_98 (by decide) ?_
          refine ei_drop 7 ?_
          exact ih (f + 1) (nI f, burntF (figS (n, w, se, sp, hr, lt, hd, sc, so, fi, wo) j f) mk) D2 (by omega) (by omega) (by rw [hv, itr_lt _ _ (by omega), show beat1 (n, w, se, sp, hr, lt, hd, sc, so, fi, wo) j mk q f = (nI f, burntF (figS (n, w, se, sp, hr, lt, hd, sc, so, fi, wo) j f) mk) from by unfold beat1; rw [if_neg cq84, if_neg cq84]])
  refine ei_aload_n X dX9_beat_0 rfl rfl ?_
  refine ei_getf X fl_RX9_10 dX9_beat_1 rfl rfl ?_
  refine ei_iload_n X dX9_beat_4 rfl rfl ?_
  refine ei_cv1 [1, 2, 3, 4] (oH_gN _ _ _ _ _ _) (oH_pN _ _ _ _ _ _ _) X ml_RX9_54 dX9_beat_5 (ct_X2_has _ _ _ _ _ _ _ _ _ _ _ _) rfl rfl (by decide) (by decide) rfl (Nat.le_of_ble_eq_true rfl) (by decide) ?_
  refine ei_ifz_eq (tgt := 30) X dX9_beat_8 (by decide) (fun cq8 => ?_) (fun cq8 => ?_)
  · refine ei_iconst (v := -1) X dX9_beat_30 rfl ?_
    refine ei_ireturn X F dX9_beat_31 ?_
    exact ⟨by unfold beatF; rw [if_neg (fun z => Bool.false_ne_true (cq8.symm.trans z.1))], D, be, h_0, rfl⟩
  · refine ei_iload_n X dX9_beat_11 rfl rfl ?_
    refine ei_iconst (v := 0) X dX9_beat_12 rfl ?_
    refine ei_bipush (v := 60) X dX9_beat_13 rfl ?_
    refine ei_callT1 X ml_RX9_112 dX9_beat_15 (ct_X9_within _ _ _ _) rfl rfl (by decide) (by decide) (Nat.le_of_ble_eq_true rfl) ?_
    refine ei_ifz_eq (tgt := 30) X dX9_beat_18 (by decide) (fun cq18 => ?_) (fun cq18 => ?_)
    · refine ei_iconst (v := -1) X dX9_beat_30 rfl ?_
      refine ei_ireturn X F dX9_beat_31 ?_
      exact ⟨by unfold beatF; rw [if_neg (fun z => Bool.false_ne_true (cq18.symm.trans z.2.1))], D, be, h_0, rfl⟩
    · refine ei_iload_n X dX9_beat_21 rfl rfl ?_
      refine ei_iconst (v := 0) X dX9_beat_22 rfl ?_
      refine ei_iconst (v := 1) X dX9_beat_23 rfl ?_
      refine ei_callT1 X ml_RX9_112 dX9_beat_24 (ct_X9_within _ _ _ _) rfl rfl (by decide) (by decide) (Nat.le_of_ble_eq_true rfl) ?_
      refine ei_ifz_ne (tgt := 32) X dX9_beat_27 (by decide) (fun cq27 => ?_) (fun cq27 => ?_)
      · obtain ⟨j, hj, ej⟩ := (hasF_iff (by omega)).mp cq8
        obtain ⟨mk, -, hmk, em⟩ := (inI_iff (lo := 0) (hi := 60) (by decide) (by decide)).mp cq18
        refine ei_iconst (v := 0) X dX9_beat_32 rfl ?_
        refine ei_istore X dX9_beat_33 (Nat.le_of_ble_eq_true rfl) rfl ?_
        refine ei_iconst (v := -1) X dX9_beat_35 rfl ?_
        refine ei_istore X dX9_beat_36 (Nat.le_of_ble_eq_true rfl) rfl ?_
        refine ei_iconst (v := nI 0) X dX9_beat_38 rfl ?_
        refine ei_istore X dX9_beat_39 (Nat.le_of_ble_eq_true rfl) rfl ?_
        have h0 := L j mk hj hmk (by unfold beatF; rw [if_pos ⟨cq8, cq18, cq27⟩, ej, em, nc_nI (by omega), nc_nI (by omega)]) 11 0 (0, -1) D (by omega) (by omega) rfl
        rw [← ej, ← em] at h0
        exact h0
      · refine ei_iconst (v := -1) X dX9_beat_30 rfl ?_
        refine ei_ireturn X F dX9_beat_31 ?_
        exact ⟨by unfold beatF; rw [if_neg (fun z => Bool.false_ne_true (cq27.symm.trans z.2.2))], D, be, h_0, rfl⟩
set_option maxRecDepth 100000 in
set_option maxHeartbeats 1000000 in
theorem ct_X9_end (n : Nat) (w se sp hr lt hd sc : Int32) (so fi wo : Nat → Int32) (D T : St) (im : Bool) (Z : Nat → Sh) (be : Nat → Int32) (what : Int32) (h_S : Good (n, w, se, sp, hr, lt, hd, sc, so, fi, wo)) (h_0 : dg0 be) : e_Ct yX9_end cX9_end 5 (some .int) 2 [.ref 0, .int what] (oH (n, w, se, sp, hr, lt, hd, sc, so, fi, wo) D T im Z be) (fP (.int (endF (n, w, se, sp, hr, lt, hd, sc, so, fi, wo) what)) (n, w, se, sp, hr, lt, hd, sc, so, fi, wo) T im Z) := by
  refine e_open RX9 rfl (by decide +kernel) rfl (fun _ => Nat.le_of_ble_eq_true rfl) (fun x X F => ?_)
  have hn : n ≤ 10 := h_S.1
  have E90 : ∀ (q : Int32 × Int32) (y : Option Value) (c : Bool), endF (n, w, se, sp, hr, lt, hd, sc, so, fi, wo) what = bz c → e_E x 90 [some (.ref 0), some (.int what), some (.int q.1), some (.int q.2), y] [.int (bz c)] (oH (n, w, se, sp, hr, lt, hd, sc, so, fi, wo) D T im Z be) := by
    intro q y c hc
    refine ei_callT1 X ml_RX9_71 dX9_end_90 (ct_X9_bit _ _) rfl rfl (by decide) (by decide) (Nat.le_of_ble_eq_true rfl) ?_
    refine ei_ireturn X F dX9_end_93 ?_
    exact ⟨by rw [hc], D, be, h_0, rfl⟩
  have L : inI what 0 1 = true → ∀ (m k : Nat) (q : Int32 × Int32), n - k < m → k ≤ 10 → endQ (n, w, se, sp, hr, lt, hd, sc, so, fi, wo) = itr (fun q b => (q.1 + nI b * (wo b + 1), q.2 + (nI n - 1 - nI b) * (wo b + 1))) q k (n - k) → e_E x 18 [some (.ref 0), some (.int what), some (.int q.1), some (.int q.2), some (.int (nI k))] [] (oH (n, w, se, sp, hr, lt, hd, sc, so, fi, wo) D T im Z be) := by
    intro hw m
    induction m with
    | zero => intro k q hk; exact absurd hk (Nat.not_lt_zero _)
    | succ m ih =>
      intro k q hk hk2 hv
      refine ei_iload X dX9_end_18 rfl ?_
      refine ei_aload_n X dX9_end_20 rfl rfl ?_
      refine ei_getf X fl_RX9_10 dX9_end_21 rfl rfl ?_
      refine ei_getf X fl_RX9_109 dX9_end_24 rfl rfl ?_
      show e_E x _ _ [.int (nI n), .int (nI k)] _
      refine ei_icmpn_ge (tgt := 76) X dX9_end_27 (by decide) (by first | omega | assumption) (by first | omega | assumption) (fun cq27 => ?_) (fun cq27 => ?_)
      · have he : endQ (n, w, se, sp, hr, lt, hd, sc, so, fi, wo) = q := by rw [hv, itr_ge _ _ (by omega)]
        refine ei_iload_n X dX9_end_76 rfl rfl ?_
        refine ei_if_ne (tgt := 94) X dX9_end_77 (by decide) (fun cq77 => ?_) (fun cq77 => ?_)
        · refine ei_iload_n X dX9_end_94 rfl rfl ?_
          refine ei_iload_n X dX9_end_95 rfl rfl ?_
          refine ei_mmin X ml_RX9_256 dX9_end_96 (Nat.le_of_ble_eq_true rfl) ?_
          refine ei_ireturn X F dX9_end_99 ?_
          exact ⟨by unfold endF; rw [hw, if_pos rfl, if_neg cq77, he], D, be, h_0, rfl⟩
        · refine ei_iload_n X dX9_end_80 rfl rfl ?_
          refine ei_iload_n X dX9_end_81 rfl rfl ?_
          refine ei_icmp_ge (tgt := 89) X dX9_end_82 (by decide) (fun cq82 => ?_) (fun cq82 => ?_)
          · refine ei_iconst (v := 0) X dX9_end_89 rfl ?_
            exact E90 q _ false (by unfold endF; rw [hw, if_pos rfl, if_pos cq77, he, decide_eq_false (Int32.not_lt.mpr cq82)])
          · refine ei_iconst (v := 1) X dX9_end_85 rfl ?_
            refine ei_goto (tgt := 90) X dX9_end_86 (by decide) ?_
            exact E90 q _ true (by unfold endF; rw [hw, if_pos rfl, if_pos cq77, he, decide_eq_true (Int32.not_le.mp cq82)])
      · refine ei_iload_n X dX9_end_30 rfl rfl ?_
        refine ei_iload X dX9_end_31 rfl ?_
        refine ei_aload_n X dX9_end_33 rfl rfl ?_
        refine ei_getf X fl_RX9_10 dX9_end_34 rfl rfl ?_
        refine ei_iload X dX9_end_37 rfl ?_
        refine ei_cv1 [1, 2, 3, 4] (oH_gN _ _ _ _ _ _) (oH_pN _ _ _ _ _ _ _) X ml_RX9_254 dX9_end_39 (ct_X2_oddsOf _ _ _ _ _ _ _ _ _ _ _ k (by omega)) rfl rfl (by decide) (by decide) rfl (Nat.le_of_ble_eq_true rfl) (by decide) ?_
        refine ei_imul X dX9_end_42 ?_
        refine ei_iadd X dX9_end_43 ?_
        refine ei_istore_n X dX9_end_44 rfl (Nat.le_of_ble_eq_true rfl) rfl ?_
        refine ei_iload_n X dX9_end_45 rfl rfl ?_
        refine ei_aload_n X dX9_end_46 rfl rfl ?_
        refine ei_getf X fl_RX9_10 dX9_end_47 rfl rfl ?_
        refine ei_getf X fl_RX9_109 dX9_end_50 rfl rfl ?_
        refine ei_iconst (v := 1) X dX9_end_53 rfl ?_
        refine ei_isub X dX9_end_54 ?_
        refine ei_iload X dX9_end_55 rfl ?_
        refine ei_isub X dX9_end_57 ?_
        refine ei_aload_n X dX9_end_58 rfl rfl ?_
        refine ei_getf X fl_RX9_10 dX9_end_59 rfl rfl ?_
        refine ei_iload X dX9_end_62 rfl ?_
        refine ei_cv1 [1, 2, 3, 4] (oH_gN _ _ _ _ _ _) (oH_pN _ _ _ _ _ _ _) X ml_RX9_254 dX9_end_64 (ct_X2_oddsOf _ _ _ _ _ _ _ _ _ _ _ k (by omega)) rfl rfl (by decide) (by decide) rfl (Nat.le_of_ble_eq_true rfl) (by decide) ?_
        refine ei_imul X dX9_end_67 ?_
        refine ei_iadd X dX9_end_68 ?_
        refine ei_istore_n X dX9_end_69 rfl (Nat.le_of_ble_eq_true rfl) rfl ?_
        refine ei_iinc_n X dX9_end_70 rfl rfl ?_
        refine ei_goto (tgt := 18) X dX9_end_73 (by decide) ?_
        exact ih (k + 1) (q.1 + nI k * (wo k + 1), q.2 + (nI n - 1 - nI k) * (wo k + 1)) (by omega) (by omega) (by rw [hv, itr_lt _ _ (by omega)])
  refine ei_iload_n X dX9_end_0 rfl rfl ?_
  refine ei_iconst (v := 0) X dX9_end_1 rfl ?_
  refine ei_iconst (v := 1) X dX9_end_2 rfl ?_
  refine ei_callT1 X ml_RX9_112 dX9_end_3 (ct_X9_within _ _ _ _) rfl rfl (by decide) (by decide) (Nat.le_of_ble_eq_true rfl) ?_
  refine ei_ifz_ne (tgt := 11) X dX9_end_6 (by decide) (fun cq6 => ?_) (fun cq6 => ?_)
  · refine ei_iconst (v := 0) X dX9_end_11 rfl ?_
    refine ei_istore_n X dX9_end_12 rfl (Nat.le_of_ble_eq_true rfl) rfl ?_
    refine ei_iconst (v := 0) X dX9_end_13 rfl ?_
    refine ei_istore_n X dX9_end_14 rfl (Nat.le_of_ble_eq_true rfl) rfl ?_
    refine ei_iconst (v := nI 0) X dX9_end_15 rfl ?_
    refine ei_istore X dX9_end_16 (Nat.le_of_ble_eq_true rfl) rfl ?_
    exact L cq6 (n + 1) 0 (0, 0) (by omega) (by omega) rfl
  · refine ei_iconst (v := -1) X dX9_end_9 rfl ?_
    refine ei_ireturn X F dX9_end_10 ?_
    exact ⟨by unfold endF; rw [cq6, if_neg Bool.false_ne_true], D, be, h_0, rfl⟩
set_option maxRecDepth 100000 in
set_option maxHeartbeats 1000000 in
theorem ct_X9_sortsByRow (n : Nat) (w se sp hr lt hd sc : Int32) (so fi wo : Nat → Int32) (D T : St) (im : Bool) (Z : Nat → Sh) (be : Nat → Int32) (k b : Nat) (hk : k < 8) (h_b : b < 10) (h_S : Good (n, w, se, sp, hr, lt, hd, sc, so, fi, wo)) (h_z : zN (Z k) ≤ 100) : e_Ct yX9_sortsByRow cX9_sortsByRow 5 (some .int) 7 [.ref 0, .ref (14 + 2 * k), .int (nI b)] (oH (n, w, se, sp, hr, lt, hd, sc, so, fi, wo) D T im Z be) (rP (.int (whatS (n, w, se, sp, hr, lt, hd, sc, so, fi, wo) (Z k) b)) (fun D2 => oH (n, w, se, sp, hr, lt, hd, sc, so, fi, wo) D2 T im Z be)) := by
  refine e_open RX9 rfl (by decide +kernel) rfl (fun _ => Nat.le_of_ble_eq_true rfl) (fun x X F => ?_)
  have L : ∀ (c i : Nat) (a : Int32) (D3 : St), 8 - i < c → i ≤ 8 → whatS (n, w, se, sp, hr, lt, hd, sc, so, fi, wo) (Z k) b = itr (fun a i => if wornRowF (n, w, se, sp, hr, lt, hd, sc, upd so b (nI i), fi, wo) (Z k) b 0 then a ||| bitI i else a) a i (8 - i) → e_E x 5 [some (.ref 0), some (.ref (14 + 2 * k)), some (.int (nI b)), some (.int a), some (.int (nI i))] [] (oH (n, w, se, sp, hr, lt, hd, sc, so, fi, wo) D3 T im Z be) := by
    intro c
    induction c with
    | zero => intro i a D3 hc; exact absurd hc (Nat.not_lt_zero _)
    | succ c ih =>
      intro i a D3 hc hi hv
      refine ei_iload X dX9_sortsByRow_5 rfl ?_
      refine ei_bipush (v := nI 7) X dX9_sortsByRow_7 rfl ?_
      refine ei_icmpn_gt (tgt := 60) X dX9_sortsByRow_9 (by decide) (by first | omega | assumption) (by first | omega | assumption) (fun cq9 => ?_) (fun cq9 => ?_)
      · refine ei_iload_n X dX9_sortsByRow_60 rfl rfl ?_
        refine ei_ireturn X F dX9_sortsByRow_61 ?_
        exact ⟨by rw [hv, itr_ge _ _ (by omega)], D3, rfl⟩
      · refine ei_aload_n X dX9_sortsByRow_12 rfl rfl ?_
        refine ei_getf X fl_RX9_16 dX9_sortsByRow_13 rfl rfl ?_
        refine ei_aload_n X dX9_sortsByRow_16 rfl rfl ?_
        refine ei_getf X fl_RX9_10 dX9_sortsByRow_17 rfl rfl ?_
        refine ei_cv0 [5, 6, 7, 8, 1, 2, 3, 4] (oH_gDN _ _ _ _ _ _) (oH_pDN _ _ _ _ _ _ _) X ml_RX9_44 dX9_sortsByRow_20 (ct_X2_becomes _ _) rfl rfl (by decide) (by decide) rfl (Nat.le_of_ble_eq_true rfl) (by decide) ?_
        refine ei_aload_n X dX9_sortsByRow_23 rfl rfl ?_
        refine ei_getf X fl_RX9_16 dX9_sortsByRow_24 rfl rfl ?_
        refine ei_getf X fl_RX9_58 dX9_sortsByRow_27 rfl rfl ?_
        refine ei_iload_n X dX9_sortsByRow_30 rfl rfl ?_
        refine ei_iload X dX9_sortsByRow_31 rfl ?_
        refine ei_iastore_n X dX9_sortsByRow_33 rfl (by first | omega | assumption) (by decide) (po_D2 _ _ _ _ _ _ _) ?_
        refine ei_aload_n X dX9_sortsByRow_34 rfl rfl ?_
        refine ei_getf X fl_RX9_16 dX9_sortsByRow_35 rfl rfl ?_
        refine ei_iload_n X dX9_sortsByRow_38 rfl rfl ?_
        refine ei_aload_n X dX9_sortsByRow_39 rfl rfl ?_
        refine ei_iconst (v := nI 0) X dX9_sortsByRow_40 rfl ?_
        refine ei_csR [5, 6, 7, 8, 14 + 2 * k, 14 + 2 * k + 1] (oH_gDZ _ _ _ _ _ _ hk) (fun D2 => oH_pDZ _ _ _ _ _ _ hk D2) X ml_RX9_267 dX9_sortsByRow_41 (ct_X0_wearsAsTold _ _ _ _ _ _ _ _ _ _ _ (Z k) b 0 h_b (by decide) h_z (good_O _ _ _ _ _ _ _ _ _ _ _ h_S (gd_nI (m := 7) (by omega) (by decide)))) rfl rfl (by decide) (by decide) (Nat.le_of_ble_eq_true rfl) (nd6 k) (fun D2 => ?_)
        show e_E x _ _ [.int (bz (wornRowF (n, w, se, sp, hr, lt, hd, sc, upd so b (nI i), fi, wo) (Z k) b 0))] _
        refine ei_ifz_eq (tgt := 54) X dX9_sortsByRow_44 (by decide) (fun cq44 => ?_) (fun cq44 => ?_)
        · refine ei_iinc_n X dX9_sortsByRow_54 rfl rfl ?_
          refine ei_goto (tgt := 5) X dX9_sortsByRow_57 (by decide) ?_
          exact ih (i + 1) a D2 (by omega) (by omega) (by rw [hv, itr_lt _ _ (by omega), if_neg (by rw [cq44]; exact Bool.false_ne_true)])
        · refine ei_iload_n X dX9_sortsByRow_47 rfl rfl ?_
          refine ei_iconst (v := 1) X dX9_sortsByRow_48 rfl ?_
          refine ei_iload X dX9_sortsByRow_49 rfl ?_
          refine ei_ishl X dX9_sortsByRow_51 ?_
          refine ei_ior X dX9_sortsByRow_52 ?_
          refine ei_istore_n X dX9_sortsByRow_53 rfl (Nat.le_of_ble_eq_true rfl) rfl ?_
          refine ei_iinc_n X dX9_sortsByRow_54 rfl rfl ?_
          refine ei_goto (tgt := 5) X dX9_sortsByRow_57 (by decide) ?_
          exact ih (i + 1) (a ||| bitI i) D2 (by omega) (by omega) (by rw [hv, itr_lt _ _ (by omega), if_pos cq44])
  refine ei_iconst (v := 0) X dX9_sortsByRow_0 rfl ?_
  refine ei_istore_n X dX9_sortsByRow_1 rfl (Nat.le_of_ble_eq_true rfl) rfl ?_
  refine ei_iconst (v := nI 0) X dX9_sortsByRow_2 rfl ?_
  refine ei_istore X dX9_sortsByRow_3 (Nat.le_of_ble_eq_true rfl) rfl ?_
  exact L 9 0 0 D (by omega) (by omega) rfl
set_option maxRecDepth 100000 in
set_option maxHeartbeats 1000000 in
theorem ct_X9_figuresByRow (n : Nat) (w se sp hr lt hd sc : Int32) (so fi wo : Nat → Int32) (D T : St) (im : Bool) (Z : Nat → Sh) (be : Nat → Int32) (k b : Nat) (hk : k < 8) (h_b : b < 10) (h_S : Good (n, w, se, sp, hr, lt, hd, sc, so, fi, wo)) (h_z : zN (Z k) ≤ 100) : e_Ct yX9_figuresByRow cX9_figuresByRow 5 (some .int) 7 [.ref 0, .ref (14 + 2 * k), .int (nI b)] (oH (n, w, se, sp, hr, lt, hd, sc, so, fi, wo) D T im Z be) (rP (.int (whatG (n, w, se, sp, hr, lt, hd, sc, so, fi, wo) (Z k) b)) (fun D2 => oH (n, w, se, sp, hr, lt, hd, sc, so, fi, wo) D2 T im Z be)) := by
  refine e_open RX9 rfl (by decide +kernel) rfl (fun _ => Nat.le_of_ble_eq_true rfl) (fun x X F => ?_)
  have L : ∀ (c i : Nat) (a : Int32) (D3 : St), 10 - i < c → i ≤ 10 → whatG (n, w, se, sp, hr, lt, hd, sc, so, fi, wo) (Z k) b = itr (fun a i => if wornRowF (n, w, se, sp, hr, lt, hd, sc, so, upd fi b (nI i), wo) (Z k) b 0 then a ||| bitI i else a) a i (10 - i) → e_E x 5 [some (.ref 0), some (.ref (14 + 2 * k)), some (.int (nI b)), some (.int a), some (.int (nI i))] [] (oH (n, w, se, sp, hr, lt, hd, sc, so, fi, wo) D3 T im Z be) := by
    intro c
    induction c with
    | zero => intro i a D3 hc; exact absurd hc (Nat.not_lt_zero _)
    | succ c ih =>
      intro i a D3 hc hi hv
      refine ei_iload X dX9_figuresByRow_5 rfl ?_
      refine ei_bipush (v := nI 9) X dX9_figuresByRow_7 rfl ?_
      refine ei_icmpn_gt (tgt := 60) X dX9_figuresByRow_9 (by decide) (by first | omega | assumption) (by first | omega | assumption) (fun cq9 => ?_) (fun cq9 => ?_)
      · refine ei_iload_n X dX9_figuresByRow_60 rfl rfl ?_
        refine ei_ireturn X F dX9_figuresByRow_61 ?_
        exact ⟨by rw [hv, itr_ge _ _ (by omega)], D3, rfl⟩
      · refine ei_aload_n X dX9_figuresByRow_12 rfl rfl ?_
        refine ei_getf X fl_RX9_16 dX9_figuresByRow_13 rfl rfl ?_
        refine ei_aload_n X dX9_figuresByRow_16 rfl rfl ?_
        refine ei_getf X fl_RX9_10 dX9_figuresByRow_17 rfl rfl ?_
        refine ei_cv0 [5, 6, 7, 8, 1, 2, 3, 4] (oH_gDN _ _ _ _ _ _) (oH_pDN _ _ _ _ _ _ _) X ml_RX9_44 dX9_figuresByRow_20 (ct_X2_becomes _ _) rfl rfl (by decide) (by decide) rfl (Nat.le_of_ble_eq_true rfl) (by decide) ?_
        refine ei_aload_n X dX9_figuresByRow_23 rfl rfl ?_
        refine ei_getf X fl_RX9_16 dX9_figuresByRow_24 rfl rfl ?_
        refine ei_getf X fl_RX9_62 dX9_figuresByRow_27 rfl rfl ?_
        refine ei_iload_n X dX9_figuresByRow_30 rfl rfl ?_
        refine ei_iload X dX9_figuresByRow_31 rfl ?_
        refine ei_iastore_n X dX9_figuresByRow_33 rfl (by first | omega | assumption) (by decide) (po_D3 _ _ _ _ _ _ _) ?_
        refine ei_aload_n X dX9_figuresByRow_34 rfl rfl ?_
        refine ei_getf X fl_RX9_16 dX9_figuresByRow_35 rfl rfl ?_
        refine ei_iload_n X dX9_figuresByRow_38 rfl rfl ?_
        refine ei_aload_n X dX9_figuresByRow_39 rfl rfl ?_
        refine ei_iconst (v := nI 0) X dX9_figuresByRow_40 rfl ?_
        refine ei_csR [5, 6, 7, 8, 14 + 2 * k, 14 + 2 * k + 1] (oH_gDZ _ _ _ _ _ _ hk) (fun D2 => oH_pDZ _ _ _ _ _ _ hk D2) X ml_RX9_267 dX9_figuresByRow_41 (ct_X0_wearsAsTold _ _ _ _ _ _ _ _ _ _ _ (Z k) b 0 h_b (by decide) h_z (good_G _ _ _ _ _ _ _ _ _ _ _ h_S (gd_nI (m := 9) (by omega) (by decide)))) rfl rfl (by decide) (by decide) (Nat.le_of_ble_eq_true rfl) (nd6 k) (fun D2 => ?_)
        show e_E x _ _ [.int (bz (wornRowF (n, w, se, sp, hr, lt, hd, sc, so, upd fi b (nI i), wo) (Z k) b 0))] _
        refine ei_ifz_eq (tgt := 54) X dX9_figuresByRow_44 (by decide) (fun cq44 => ?_) (fun cq44 => ?_)
        · refine ei_iinc_n X dX9_figuresByRow_54 rfl rfl ?_
          refine ei_goto (tgt := 5) X dX9_figuresByRow_57 (by decide) ?_
          exact ih (i + 1) a D2 (by omega) (by omega) (by rw [hv, itr_lt _ _ (by omega), if_neg (by rw [cq44]; exact Bool.false_ne_true)])
        · refine ei_iload_n X dX9_figuresByRow_47 rfl rfl ?_
          refine ei_iconst (v := 1) X dX9_figuresByRow_48 rfl ?_
          refine ei_iload X dX9_figuresByRow_49 rfl ?_
          refine ei_ishl X dX9_figuresByRow_51 ?_
          refine ei_ior X dX9_figuresByRow_52 ?_
          refine ei_istore_n X dX9_figuresByRow_53 rfl (Nat.le_of_ble_eq_true rfl) rfl ?_
          refine ei_iinc_n X dX9_figuresByRow_54 rfl rfl ?_
          refine ei_goto (tgt := 5) X dX9_figuresByRow_57 (by decide) ?_
          exact ih (i + 1) (a ||| bitI i) D2 (by omega) (by omega) (by rw [hv, itr_lt _ _ (by omega), if_pos cq44])
  refine ei_iconst (v := 0) X dX9_figuresByRow_0 rfl ?_
  refine ei_istore_n X dX9_figuresByRow_1 rfl (Nat.le_of_ble_eq_true rfl) rfl ?_
  refine ei_iconst (v := nI 0) X dX9_figuresByRow_2 rfl ?_
  refine ei_istore X dX9_figuresByRow_3 (Nat.le_of_ble_eq_true rfl) rfl ?_
  exact L 11 0 0 D (by omega) (by omega) rfl
theorem wr_m1 {Z : Nat → Sh} {d : Int32} (h : inI d 0 7 = false) : wrongRowF Z d = -1 := by unfold wrongRowF; rw [h, if_neg Bool.false_ne_true]
set_option maxRecDepth 100000 in
set_option maxHeartbeats 1000000 in
theorem ct_X9_whatIs (n : Nat) (w se sp hr lt hd sc : Int32) (so fi wo : Nat → Int32) (D T : St) (im : Bool) (Z : Nat → Sh) (be : Nat → Int32) (d b what : Int32) (h_S : Good (n, w, se, sp, hr, lt, hd, sc, so, fi, wo)) (h_Z : ∀ k, k < 8 → okZ (Z k)) (h_0 : dg0 be) : e_Ct yX9_whatIs cX9_whatIs 5 (some .int) 8 [.ref 0, .int d, .int b, .int what] (oH (n, w, se, sp, hr, lt, hd, sc, so, fi, wo) D T im Z be) (fP (.int (whatF (n, w, se, sp, hr, lt, hd, sc, so, fi, wo) Z d b what)) (n, w, se, sp, hr, lt, hd, sc, so, fi, wo) T im Z) := by
  refine e_open RX9 rfl (by decide +kernel) rfl (fun _ => Nat.le_of_ble_eq_true rfl) (fun x X F => ?_)
  have hn : n ≤ 10 := h_S.1
  have RV : ∀ v D2, whatF (n, w, se, sp, hr, lt, hd, sc, so, fi, wo) Z d b what = v → fP (.int (whatF (n, w, se, sp, hr, lt, hd, sc, so, fi, wo) Z d b what)) (n, w, se, sp, hr, lt, hd, sc, so, fi, wo) T im Z (some (.int v)) (oH (n, w, se, sp, hr, lt, hd, sc, so, fi, wo) D2 T im Z be) := fun v D2 h => ⟨by rw [h], D2, be, h_0, rfl⟩
  refine ei_iload_n X dX9_whatIs_0 rfl rfl ?_
  refine ei_callT1 X ml_RX9_228 dX9_whatIs_1 (ct_X9_isShelf _ _) rfl rfl (by decide) (by decide) (Nat.le_of_ble_eq_true rfl) ?_
  refine ei_ifz_eq (tgt := 27) X dX9_whatIs_4 (by decide) (fun cq4 => ?_) (fun cq4 => ?_)
  · refine ei_iconst (v := -1) X dX9_whatIs_27 rfl ?_
    refine ei_ireturn X F dX9_whatIs_28 ?_
    exact RV _ _ (by unfold whatF; rw [wr_m1 cq4, if_neg (show ¬ (-1 : Int32) = 0 by decide)]; split <;> rfl)
  · refine ei_aload_n X dX9_whatIs_7 rfl rfl ?_
    refine ei_getf X fl_RX9_10 dX9_whatIs_8 rfl rfl ?_
    refine ei_iload_n X dX9_whatIs_11 rfl rfl ?_
    refine ei_cv1 [1, 2, 3, 4] (oH_gN _ _ _ _ _ _) (oH_pN _ _ _ _ _ _ _) X ml_RX9_54 dX9_whatIs_12 (ct_X2_has _ _ _ _ _ _ _ _ _ _ _ _) rfl rfl (by decide) (by decide) rfl (Nat.le_of_ble_eq_true rfl) (by decide) ?_
    refine ei_ifz_eq (tgt := 27) X dX9_whatIs_15 (by decide) (fun cq15 => ?_) (fun cq15 => ?_)
    · refine ei_iconst (v := -1) X dX9_whatIs_27 rfl ?_
      refine ei_ireturn X F dX9_whatIs_28 ?_
      exact RV _ _ (by unfold whatF; rw [if_neg (fun z => Bool.false_ne_true (cq15.symm.trans z.1))])
    · refine ei_iload_n X dX9_whatIs_18 rfl rfl ?_
      refine ei_iconst (v := 0) X dX9_whatIs_19 rfl ?_
      refine ei_iconst (v := 1) X dX9_whatIs_20 rfl ?_
      refine ei_callT1 X ml_RX9_112 dX9_whatIs_21 (ct_X9_within _ _ _ _) rfl rfl (by decide) (by decide) (Nat.le_of_ble_eq_true rfl) ?_
      refine ei_ifz_ne (tgt := 29) X dX9_whatIs_24 (by decide) (fun cq24 => ?_) (fun cq24 => ?_)
      · refine ei_aload_n X dX9_whatIs_29 rfl rfl ?_
        refine ei_iload_n X dX9_whatIs_30 rfl rfl ?_
        refine ei_callI1 X ml_RX9_36 dX9_whatIs_31 (ct_X9_rowRefusal _ _ _ _ _ _ _ _ _ _ _ _ _ _ _ _ _) rfl rfl (by decide) (by decide) rfl (Nat.le_of_ble_eq_true rfl) ?_
        refine ei_istore X dX9_whatIs_34 (Nat.le_of_ble_eq_true rfl) rfl ?_
        refine ei_iload X dX9_whatIs_36 rfl ?_
        refine ei_if_eq (tgt := 44) X dX9_whatIs_38 (by decide) (fun cq38 => ?_) (fun cq38 => ?_)
        · obtain ⟨k, hk, rfl, hz⟩ := wrongRow_0 cq38
          have hnc : nc (nI k) = k := nc_nI (by omega)
          obtain ⟨hzn, hzk⟩ := okZ_n h_Z hk hz
          obtain ⟨j, hj, rfl⟩ := (hasF_iff (by omega)).mp cq15
          have hnj : nc (nI j) = j := nc_nI (by omega)
          refine ei_iload_n X dX9_whatIs_44 rfl rfl ?_
          refine ei_if_ne (tgt := 62) X dX9_whatIs_45 (by decide) (fun cq45 => ?_) (fun cq45 => ?_)
          · refine ei_aload_n X dX9_whatIs_62 rfl rfl ?_
            refine ei_aload_n X dX9_whatIs_63 rfl rfl ?_
            refine ei_getf X fl_RX9_24 dX9_whatIs_64 rfl rfl ?_
            refine ei_iload_n X dX9_whatIs_67 rfl rfl ?_
            refine ei_aaload_n X dX9_whatIs_68 rfl (by first | omega | assumption) (by decide) rfl ?_
            refine ei_iload_n X dX9_whatIs_69 rfl rfl ?_
            refine ei_callI X ml_RX9_264 dX9_whatIs_70 (ct_X9_figuresByRow _ _ _ _ _ _ _ _ _ _ _ _ _ _ _ _ k j hk (by omega) h_S hzn) rfl rfl (by decide) (by decide) rfl (Nat.le_of_ble_eq_true rfl) (fun r h2 hp => ?_)
            obtain ⟨rfl, D2, rfl⟩ := hp
            refine ei_ireturn X F dX9_whatIs_73 ?_
            exact RV _ _ (by unfold whatF; rw [if_pos ⟨cq15, cq24⟩, if_pos cq38, if_neg cq45, hnc, hnj])
          · refine ei_aload_n X dX9_whatIs_48 rfl rfl ?_
            refine ei_aload_n X dX9_whatIs_49 rfl rfl ?_
            refine ei_getf X fl_RX9_24 dX9_whatIs_50 rfl rfl ?_
            refine ei_iload_n X dX9_whatIs_53 rfl rfl ?_
            refine ei_aaload_n X dX9_whatIs_54 rfl (by first | omega | assumption) (by decide) rfl ?_
            refine ei_iload_n X dX9_whatIs_55 rfl rfl ?_
            refine ei_callI X ml_RX9_261 dX9_whatIs_56 (ct_X9_sortsByRow _ _ _ _ _ _ _ _ _ _ _ _ _ _ _ _ k j hk (by omega) h_S hzn) rfl rfl (by decide) (by decide) rfl (Nat.le_of_ble_eq_true rfl) (fun r h2 hp => ?_)
            obtain ⟨rfl, D2, rfl⟩ := hp
            refine ei_goto (tgt := 73) X dX9_whatIs_59 (by decide) ?_
            refine ei_ireturn X F dX9_whatIs_73 ?_
            exact RV _ _ (by unfold whatF; rw [if_pos ⟨cq15, cq24⟩, if_pos cq38, if_pos cq45, hnc, hnj])
        · refine ei_iload X dX9_whatIs_41 rfl ?_
          refine ei_ireturn X F dX9_whatIs_43 ?_
          exact RV _ _ (by unfold whatF; rw [if_pos ⟨cq15, cq24⟩, if_neg cq38])
      · refine ei_iconst (v := -1) X dX9_whatIs_27 rfl ?_
        refine ei_ireturn X F dX9_whatIs_28 ?_
        exact RV _ _ (by unfold whatF; rw [if_neg (fun z => Bool.false_ne_true (cq24.symm.trans z.2))])
set_option maxRecDepth 100000 in
set_option maxHeartbeats 1000000 in
theorem ct_X9_wornFrom (n : Nat) (w se sp hr lt hd sc : Int32) (so fi wo : Nat → Int32) (D T : St) (im : Bool) (Z : Nat → Sh) (be : Nat → Int32) (d b what : Int32) (h_S : Good (n, w, se, sp, hr, lt, hd, sc, so, fi, wo)) (h_Z : ∀ k, k < 8 → okZ (Z k)) (h_0 : dg0 be) : e_Ct yX9_wornFrom cX9_wornFrom 9 (some .int) 7 [.ref 0, .int d, .int b, .int what] (oH (n, w, se, sp, hr, lt, hd, sc, so, fi, wo) D T im Z be) (fP (.int (wornFromF (n, w, se, sp, hr, lt, hd, sc, so, fi, wo) Z d b what)) (n, w, se, sp, hr, lt, hd, sc, so, fi, wo) T im Z) := by
  refine e_open RX9 rfl (by decide +kernel) rfl (fun _ => Nat.le_of_ble_eq_true rfl) (fun x X F => ?_)
  have hn : n ≤ 10 := h_S.1
  have RV : ∀ v D2, wornFromF (n, w, se, sp, hr, lt, hd, sc, so, fi, wo) Z d b what = v → fP (.int (wornFromF (n, w, se, sp, hr, lt, hd, sc, so, fi, wo) Z d b what)) (n, w, se, sp, hr, lt, hd, sc, so, fi, wo) T im Z (some (.int v)) (oH (n, w, se, sp, hr, lt, hd, sc, so, fi, wo) D2 T im Z be) := fun v D2 h => ⟨by rw [h], D2, be, h_0, rfl⟩
  have L : ∀ (k j : Nat) (u : Int32), k < 8 → j < n → zN (Z k) ≤ 100 → wornFromF (n, w, se, sp, hr, lt, hd, sc, so, fi, wo) Z d b what = (if what = 0 then (wornFromQ (n, w, se, sp, hr, lt, hd, sc, so, fi, wo) (Z k) j).1 else if what = 1 then (wornFromQ (n, w, se, sp, hr, lt, hd, sc, so, fi, wo) (Z k) j).2.1 else (wornFromQ (n, w, se, sp, hr, lt, hd, sc, so, fi, wo) (Z k) j).2.2) → ∀ (c v : Nat) (q : Int32 × Int32 × Int32) (D3 : St), 100 - v < c → v ≤ 100 → (q.2.1 = -4 ∨ 0 ≤ q.2.1) → wornFromQ (n, w, se, sp, hr, lt, hd, sc, so, fi, wo) (Z k) j = itr (wf1 (n, w, se, sp, hr, lt, hd, sc, so, fi, wo) (Z k) j) q v (100 - v) → e_E x 58 [some (.ref 0), some (.int (nI k)), some (.int (nI j)), some (.int what), some (.int u), some (.int q.1), some (.int q.2.1), some (.int q.2.2), some (.int (nI v))] [] (oH (n, w, se, sp, hr, lt, hd, sc, so, fi, wo) D3 T im Z be) := by
    intro k j u hk hj hzn hF c
    induction c with
    | zero => intro v q D3 hc; exact absurd hc (Nat.not_lt_zero _)
    | succ c ih =>
      intro v q D3 hc hv100 hq hv
      refine ei_iload X dX9_wornFrom_58 rfl ?_
      refine ei_bipush (v := nI 100) X dX9_wornFrom_60 rfl ?_
      refine ei_icmpn_ge (tgt := 134) X dX9_wornFrom_62 (by decide) (by first | omega | assumption) (by first | omega | assumption) (fun cq62 => ?_) (fun cq62 => ?_)
      · have he : wornFromQ (n, w, se, sp, hr, lt, hd, sc, so, fi, wo) (Z k) j = q := (by rw [hv, itr_ge _ _ (by omega)])
        refine ei_iload_n X dX9_wornFrom_134 rfl rfl ?_
        refine ei_if_ne (tgt := 141) X dX9_wornFrom_135 (by decide) (fun cq135 => ?_) (fun cq135 => ?_)
        · refine ei_iload_n X dX9_wornFrom_141 rfl rfl ?_
          refine ei_iconst (v := 1) X dX9_wornFrom_142 rfl ?_
          refine ei_icmp_ne (tgt := 151) X dX9_wornFrom_143 (by decide) (fun cq143 => ?_) (fun cq143 => ?_)
          · refine ei_iload X dX9_wornFrom_151 rfl ?_
            refine ei_ireturn X F dX9_wornFrom_153 ?_
            exact RV _ _ (by rw [hF, if_neg cq135, if_neg cq143, he])
          · refine ei_iload X dX9_wornFrom_146 rfl ?_
            refine ei_goto (tgt := 153) X dX9_wornFrom_148 (by decide) ?_
            refine ei_ireturn X F dX9_wornFrom_153 ?_
            exact RV _ _ (by rw [hF, if_neg cq135, if_pos cq143, he])
        · refine ei_iload X dX9_wornFrom_138 rfl ?_
          refine ei_ireturn X F dX9_wornFrom_140 ?_
          exact RV _ _ (by rw [hF, if_pos cq135, he])
      · refine ei_aload_n X dX9_wornFrom_65 rfl rfl ?_
        refine ei_getf X fl_RX9_16 dX9_wornFrom_66 rfl rfl ?_
        refine ei_aload_n X dX9_wornFrom_69 rfl rfl ?_
        refine ei_getf X fl_RX9_10 dX9_wornFrom_70 rfl rfl ?_
        refine ei_cv0 [5, 6, 7, 8, 1, 2, 3, 4] (oH_gDN _ _ _ _ _ _) (oH_pDN _ _ _ _ _ _ _) X ml_RX9_44 dX9_wornFrom_73 (ct_X2_becomes _ _) rfl rfl (by decide) (by decide) rfl (Nat.le_of_ble_eq_true rfl) (by decide) ?_
        refine ei_aload_n X dX9_wornFrom_76 rfl rfl ?_
        refine ei_getf X fl_RX9_16 dX9_wornFrom_77 rfl rfl ?_
        refine ei_getf X fl_RX9_65 dX9_wornFrom_80 rfl rfl ?_
        refine ei_iload_n X dX9_wornFrom_83 rfl rfl ?_
        refine ei_iload X dX9_wornFrom_84 rfl ?_
        refine ei_iastore_n X dX9_wornFrom_86 rfl (by first | omega | assumption) (by decide) (po_D4 _ _ _ _ _ _ _) ?_
        refine ei_aload_n X dX9_wornFrom_87 rfl rfl ?_
        refine ei_getf X fl_RX9_16 dX9_wornFrom_88 rfl rfl ?_
        refine ei_iload_n X dX9_wornFrom_91 rfl rfl ?_
        refine ei_aload_n X dX9_wornFrom_92 rfl rfl ?_
        refine ei_getf X fl_RX9_24 dX9_wornFrom_93 rfl rfl ?_
        refine ei_iload_n X dX9_wornFrom_96 rfl rfl ?_
        refine ei_aaload_n X dX9_wornFrom_97 rfl (by first | omega | assumption) (by decide) rfl ?_
        refine ei_iconst (v := nI 1) X dX9_wornFrom_98 rfl ?_
        refine ei_csR [5, 6, 7, 8, 14 + 2 * k, 14 + 2 * k + 1] (oH_gDZ _ _ _ _ _ _ hk) (fun D2 => oH_pDZ _ _ _ _ _ _ hk D2) X ml_RX9_267 dX9_wornFrom_99 (ct_X0_wearsAsTold _ _ _ _ _ _ _ _ _ _ _ (Z k) j 1 (by omega) (by decide) hzn (good_R _ _ _ _ _ _ _ _ _ _ _ h_S (gd_nI (m := 999) (by omega) (by decide)))) rfl rfl (by decide) (by decide) (Nat.le_of_ble_eq_true rfl) (nd6 k) (fun D2 => ?_)
        show e_E x _ _ [.int (bz (wornRowF (n, w, se, sp, hr, lt, hd, sc, so, fi, upd wo j (nI v)) (Z k) j 1))] _
        refine ei_ifz_eq (tgt := 128) X dX9_wornFrom_102 (by decide) (fun cq102 => ?_) (fun cq102 => ?_)
        · refine ei_iinc_n X dX9_wornFrom_128 rfl rfl ?_
          refine ei_goto (tgt := 58) X dX9_wornFrom_131 (by decide) ?_
          exact ih (v + 1) q D2 (by omega) (by omega) hq (by rw [hv, itr_lt _ _ (by omega), show wf1 (n, w, se, sp, hr, lt, hd, sc, so, fi, wo) (Z k) j q v = q from by unfold wf1; rw [if_neg (by rw [show wornRowF (sN (n, w, se, sp, hr, lt, hd, sc, so, fi, wo), sW (n, w, se, sp, hr, lt, hd, sc, so, fi, wo), sE (n, w, se, sp, hr, lt, hd, sc, so, fi, wo), sP (n, w, se, sp, hr, lt, hd, sc, so, fi, wo), sH (n, w, se, sp, hr, lt, hd, sc, so, fi, wo), sL (n, w, se, sp, hr, lt, hd, sc, so, fi, wo), sD (n, w, se, sp, hr, lt, hd, sc, so, fi, wo), sC (n, w, se, sp, hr, lt, hd, sc, so, fi, wo), sO (n, w, se, sp, hr, lt, hd, sc, so, fi, wo), sG (n, w, se, sp, hr, lt, hd, sc, so, fi, wo), upd (sR (n, w, se, sp, hr, lt, hd, sc, so, fi, wo)) j (nI v)) (Z k) j 1 = false from cq102]; exact Bool.false_ne_true)]])
        · refine ei_iinc (v := _ + 1) X dX9_wornFrom_105 rfl rfl rfl ?_
          refine ei_iload X dX9_wornFrom_108 rfl ?_
          refine ei_bipush (v := -4) X dX9_wornFrom_110 rfl ?_
          refine ei_icmp_ne (tgt := 120) X dX9_wornFrom_112 (by decide) (fun cq112 => ?_) (fun cq112 => ?_)
          · refine ei_iload X dX9_wornFrom_120 rfl ?_
            refine ei_istore X dX9_wornFrom_122 (Nat.le_of_ble_eq_true rfl) rfl ?_
            refine ei_iload X dX9_wornFrom_124 rfl ?_
            refine ei_istore X dX9_wornFrom_126 (Nat.le_of_ble_eq_true rfl) rfl ?_
            refine ei_iinc_n X dX9_wornFrom_128 rfl rfl ?_
            refine ei_goto (tgt := 58) X dX9_wornFrom_131 (by decide) ?_
            have h0 : ¬ q.2.1 < 0 := (fun z => hq.elim (fun y => cq112 y) (fun y => Int32.lt_irrefl (Int32.lt_of_lt_of_le z y)))
            exact ih (v + 1) (q.1 + 1, q.2.1, nI v) D2 (by omega) (by omega) hq (by rw [hv, itr_lt _ _ (by omega), show wf1 (n, w, se, sp, hr, lt, hd, sc, so, fi, wo) (Z k) j q v = (q.1 + 1, q.2.1, nI v) from by unfold wf1; rw [if_pos (show wornRowF (sN (n, w, se, sp, hr, lt, hd, sc, so, fi, wo), sW (n, w, se, sp, hr, lt, hd, sc, so, fi, wo), sE (n, w, se, sp, hr, lt, hd, sc, so, fi, wo), sP (n, w, se, sp, hr, lt, hd, sc, so, fi, wo), sH (n, w, se, sp, hr, lt, hd, sc, so, fi, wo), sL (n, w, se, sp, hr, lt, hd, sc, so, fi, wo), sD (n, w, se, sp, hr, lt, hd, sc, so, fi, wo), sC (n, w, se, sp, hr, lt, hd, sc, so, fi, wo), sO (n, w, se, sp, hr, lt, hd, sc, so, fi, wo), sG (n, w, se, sp, hr, lt, hd, sc, so, fi, wo), upd (sR (n, w, se, sp, hr, lt, hd, sc, so, fi, wo)) j (nI v)) (Z k) j 1 = true from cq102), if_neg h0]])
          · refine ei_iload X dX9_wornFrom_115 rfl ?_
            refine ei_goto (tgt := 122) X dX9_wornFrom_117 (by decide) ?_
            refine ei_istore X dX9_wornFrom_122 (Nat.le_of_ble_eq_true rfl) rfl ?_
            refine ei_iload X dX9_wornFrom_124 rfl ?_
            refine ei_istore X dX9_wornFrom_126 (Nat.le_of_ble_eq_true rfl) rfl ?_
            refine ei_iinc_n X dX9_wornFrom_128 rfl rfl ?_
            refine ei_goto (tgt := 58) X dX9_wornFrom_131 (by decide) ?_
            have h0 : q.2.1 < 0 := (by rw [cq112]; decide)
            exact ih (v + 1) (q.1 + 1, nI v, nI v) D2 (by omega) (by omega) (Or.inr (nI_pos' (by omega))) (by rw [hv, itr_lt _ _ (by omega), show wf1 (n, w, se, sp, hr, lt, hd, sc, so, fi, wo) (Z k) j q v = (q.1 + 1, nI v, nI v) from by unfold wf1; rw [if_pos (show wornRowF (sN (n, w, se, sp, hr, lt, hd, sc, so, fi, wo), sW (n, w, se, sp, hr, lt, hd, sc, so, fi, wo), sE (n, w, se, sp, hr, lt, hd, sc, so, fi, wo), sP (n, w, se, sp, hr, lt, hd, sc, so, fi, wo), sH (n, w, se, sp, hr, lt, hd, sc, so, fi, wo), sL (n, w, se, sp, hr, lt, hd, sc, so, fi, wo), sD (n, w, se, sp, hr, lt, hd, sc, so, fi, wo), sC (n, w, se, sp, hr, lt, hd, sc, so, fi, wo), sO (n, w, se, sp, hr, lt, hd, sc, so, fi, wo), sG (n, w, se, sp, hr, lt, hd, sc, so, fi, wo), upd (sR (n, w, se, sp, hr, lt, hd, sc, so, fi, wo)) j (nI v)) (Z k) j 1 = true from cq102), if_pos h0]])
  refine ei_iload_n X dX9_wornFrom_0 rfl rfl ?_
  refine ei_callT1 X ml_RX9_228 dX9_wornFrom_1 (ct_X9_isShelf _ _) rfl rfl (by decide) (by decide) (Nat.le_of_ble_eq_true rfl) ?_
  refine ei_ifz_eq (tgt := 27) X dX9_wornFrom_4 (by decide) (fun cq4 => ?_) (fun cq4 => ?_)
  · refine ei_iconst (v := -1) X dX9_wornFrom_27 rfl ?_
    refine ei_ireturn X F dX9_wornFrom_28 ?_
    exact RV _ _ (by unfold wornFromF; rw [wr_m1 cq4, if_neg (show ¬ (-1 : Int32) = 0 by decide)]; split <;> rfl)
  · refine ei_aload_n X dX9_wornFrom_7 rfl rfl ?_
    refine ei_getf X fl_RX9_10 dX9_wornFrom_8 rfl rfl ?_
    refine ei_iload_n X dX9_wornFrom_11 rfl rfl ?_
    refine ei_cv1 [1, 2, 3, 4] (oH_gN _ _ _ _ _ _) (oH_pN _ _ _ _ _ _ _) X ml_RX9_54 dX9_wornFrom_12 (ct_X2_has _ _ _ _ _ _ _ _ _ _ _ _) rfl rfl (by decide) (by decide) rfl (Nat.le_of_ble_eq_true rfl) (by decide) ?_
    refine ei_ifz_eq (tgt := 27) X dX9_wornFrom_15 (by decide) (fun cq15 => ?_) (fun cq15 => ?_)
    · refine ei_iconst (v := -1) X dX9_wornFrom_27 rfl ?_
      refine ei_ireturn X F dX9_wornFrom_28 ?_
      exact RV _ _ (by unfold wornFromF; rw [if_neg (fun z => Bool.false_ne_true (cq15.symm.trans z.1))])
    · refine ei_iload_n X dX9_wornFrom_18 rfl rfl ?_
      refine ei_iconst (v := 0) X dX9_wornFrom_19 rfl ?_
      refine ei_iconst (v := 2) X dX9_wornFrom_20 rfl ?_
      refine ei_callT1 X ml_RX9_112 dX9_wornFrom_21 (ct_X9_within _ _ _ _) rfl rfl (by decide) (by decide) (Nat.le_of_ble_eq_true rfl) ?_
      refine ei_ifz_ne (tgt := 29) X dX9_wornFrom_24 (by decide) (fun cq24 => ?_) (fun cq24 => ?_)
      · refine ei_aload_n X dX9_wornFrom_29 rfl rfl ?_
        refine ei_iload_n X dX9_wornFrom_30 rfl rfl ?_
        refine ei_callI1 X ml_RX9_36 dX9_wornFrom_31 (ct_X9_rowRefusal _ _ _ _ _ _ _ _ _ _ _ _ _ _ _ _ _) rfl rfl (by decide) (by decide) rfl (Nat.le_of_ble_eq_true rfl) ?_
        refine ei_istore X dX9_wornFrom_34 (Nat.le_of_ble_eq_true rfl) rfl ?_
        refine ei_iload X dX9_wornFrom_36 rfl ?_
        refine ei_if_eq (tgt := 44) X dX9_wornFrom_38 (by decide) (fun cq38 => ?_) (fun cq38 => ?_)
        · obtain ⟨k, hk, ek, hz⟩ := wrongRow_0 cq38
          have hnc : nc d = k := (by rw [ek]; exact nc_nI (by omega))
          obtain ⟨hzn, hzk⟩ := okZ_n h_Z hk hz
          obtain ⟨j, hj, ej⟩ := (hasF_iff (by omega)).mp cq15
          have hnj : nc b = j := (by rw [ej]; exact nc_nI (by omega))
          refine ei_iconst (v := 0) X dX9_wornFrom_44 rfl ?_
          refine ei_istore X dX9_wornFrom_45 (Nat.le_of_ble_eq_true rfl) rfl ?_
          refine ei_bipush (v := -4) X dX9_wornFrom_47 rfl ?_
          refine ei_istore X dX9_wornFrom_49 (Nat.le_of_ble_eq_true rfl) rfl ?_
          refine ei_bipush (v := -4) X dX9_wornFrom_51 rfl ?_
          refine ei_istore X dX9_wornFrom_53 (Nat.le_of_ble_eq_true rfl) rfl ?_
          refine ei_iconst (v := nI 0) X dX9_wornFrom_55 rfl ?_
          refine ei_istore X dX9_wornFrom_56 (Nat.le_of_ble_eq_true rfl) rfl ?_
          have h0 := L k j (wrongRowF Z d) hk hj hzn (by unfold wornFromF; rw [if_pos ⟨cq15, cq24⟩, if_pos cq38, hnc, hnj]) 101 0 (0, -4, -4) D (by omega) (by omega) (Or.inl rfl) rfl
          rw [← ek, ← ej] at h0
          exact h0
        · refine ei_iload X dX9_wornFrom_41 rfl ?_
          refine ei_ireturn X F dX9_wornFrom_43 ?_
          exact RV _ _ (by unfold wornFromF; rw [if_pos ⟨cq15, cq24⟩, if_neg cq38])
      · refine ei_iconst (v := -1) X dX9_wornFrom_27 rfl ?_
        refine ei_ireturn X F dX9_wornFrom_28 ?_
        exact RV _ _ (by unfold wornFromF; rw [if_neg (fun z => Bool.false_ne_true (cq24.symm.trans z.2))])

