set_option maxRecDepth 100000 in
set_option maxHeartbeats 1000000 in
theorem ct_X0_nextOut (n : Nat) (w se sp hr lt hd sc : Int32) (so fi wo : Nat → Int32) (h_S : Good (n, w, se, sp, hr, lt, hd, sc, so, fi, wo)) : e_Ct yX0_nextOut cX0_nextOut 4 (some .int) 5 [.ref 0] (lH (n, w, se, sp, hr, lt, hd, sc, so, fi, wo)) (rP (.int (nextF (n, w, se, sp, hr, lt, hd, sc, so, fi, wo))) lH) := by
  refine e_open RX0 rfl (by decide +kernel) rfl (fun _ => Nat.le_of_ble_eq_true rfl) (fun x X F => ?_)
  have L : ∀ (c k : Nat), 60 - k < c → k ≤ 60 → (∀ o, o < n → hasB w o = true → hasB (sW (hoursS (n, w, se, sp, hr, lt, hd, sc, so, fi, wo) k)) o = true) → e_E x 7 [some (.ref 0), some (.int w), some (.int (nI k)), none] [] (lH (hoursS (n, w, se, sp, hr, lt, hd, sc, so, fi, wo) k)) := by
    intro c
    induction c with
    | zero => intro k hc; exact absurd hc (Nat.not_lt_zero _)
    | succ c ih =>
      intro k hc hk hv
      obtain ⟨w2, se2, hr2, lt2, wo2, e2⟩ := hours_ex (n, w, se, sp, hr, lt, hd, sc, so, fi, wo) k
      have hn : n ≤ 10 := h_S.1
      have e3 := hours_s (n, w, se, sp, hr, lt, hd, sc, so, fi, wo) k
      simp only [sN, sW, sE, sP, sH, sL, sD, sC, sO, sG, sR] at e2
      have hN := next_none (S := (n, w, se, sp, hr, lt, hd, sc, so, fi, wo)) hn
      rw [e2] at e3
      have e5 : sW (hoursS (n, w, se, sp, hr, lt, hd, sc, so, fi, wo) (k + 1)) = (hourQ (n, w2, se2, sp, hr2, lt2, hd, sc, so, fi, wo2) 1).1 := by rw [e3]; rfl
      have eg : goneF (n, w, se, sp, hr, lt, hd, sc, so, fi, wo) (k + 1) = w &&& ((hourQ (n, w2, se2, sp, hr2, lt2, hd, sc, so, fi, wo2) 1).1 ^^^ (-1)) := by unfold goneF; rw [e5]
      have h60 : k = 60 → nextF (n, w, se, sp, hr, lt, hd, sc, so, fi, wo) = -4 := fun z => hN (by rw [← z]; exact hv)
      rw [e2]
      refine ei_iload_n X dX0_nextOut_7 rfl rfl ?_
      refine ei_bipush (v := nI 60) X dX0_nextOut_8 rfl ?_
      refine ei_icmpn_ge (tgt := 43) X dX0_nextOut_10 (by decide) (by first | omega | assumption) (by first | omega | assumption) (fun cq10 => ?_) (fun cq10 => ?_)
      · refine ei_bipush (v := -4) X dX0_nextOut_43 rfl ?_
        refine ei_ireturn X F dX0_nextOut_45 ?_
        exact ⟨by rw [h60 (by omega)], _, rfl⟩
      · refine ei_aload_n X dX0_nextOut_13 rfl rfl ?_
        refine ei_iconst (v := 1) X dX0_nextOut_14 rfl ?_
        refine ei_callI1 X ml_RX0_15 dX0_nextOut_15 (ct_X2_passHour _ _ _ _ _ _ _ _ _ _ _ _ (by first | omega | assumption)) rfl rfl (by decide) (by decide) rfl (Nat.le_of_ble_eq_true rfl) ?_
        refine ei_pop X dX0_nextOut_18 rfl ?_
        refine ei_iload_n X dX0_nextOut_19 rfl rfl ?_
        refine ei_aload_n X dX0_nextOut_20 rfl rfl ?_
        refine ei_getf X fl_RX0_18 dX0_nextOut_21 rfl rfl ?_
        refine ei_iconst (v := -1) X dX0_nextOut_24 rfl ?_
        refine ei_ixor X dX0_nextOut_25 ?_
        refine ei_iand X dX0_nextOut_26 ?_
        refine ei_istore_n X dX0_nextOut_27 rfl (Nat.le_of_ble_eq_true rfl) rfl ?_
        refine ei_iload_n X dX0_nextOut_28 rfl rfl ?_
        rw [← eg]
        refine ei_if_eq (tgt := 37) X dX0_nextOut_29 (by decide) (fun cq29 => ?_) (fun cq29 => ?_)
        · refine ei_iinc_n X dX0_nextOut_37 rfl rfl ?_
          refine ei_goto (tgt := 7) X dX0_nextOut_40 (by decide) ?_
          refine ei_drop 3 ?_
          have h9 := ih (k + 1) (by omega) (by omega) ((gone_0 h_S).mp cq29)
          rw [e3] at h9
          exact h9
        · refine ei_iload_n X dX0_nextOut_32 rfl rfl ?_
          refine ei_callT1 X ml_RX0_22 dX0_nextOut_33 (ct_X0_leastOf _ _) rfl rfl (by decide) (by decide) (Nat.le_of_ble_eq_true rfl) ?_
          refine ei_ireturn X F dX0_nextOut_36 ?_
          obtain ⟨f1, f2⟩ := next_at h_S (k := k + 1) (by omega) (by omega) (by rw [Nat.add_sub_cancel]; exact hv) cq29
          exact ⟨by rw [if_neg f1, f2], _, rfl⟩
  refine ei_aload_n X dX0_nextOut_0 rfl rfl ?_
  refine ei_getf X fl_RX0_18 dX0_nextOut_1 rfl rfl ?_
  refine ei_istore_n X dX0_nextOut_4 rfl (Nat.le_of_ble_eq_true rfl) rfl ?_
  refine ei_iconst (v := nI 0) X dX0_nextOut_5 rfl ?_
  refine ei_istore_n X dX0_nextOut_6 rfl (Nat.le_of_ble_eq_true rfl) rfl ?_
  exact L 61 0 (by omega) (by omega) (fun _ _ h => h)
/-! spares in time: the string's own SPARES are those that are left -/
def wiP (S : St) (r : Int32) : St := (sN S, sW S, sE S, r, sH S, sL S, sD S, sC S, sO S, sG S, sR S)
theorem chg_N : ∀ (k i : Nat) (q : St × Int32), sN (itr chg1 q i k).1 = sN q.1
  | 0, _, _ => rfl
  | k + 1, i, q => by
    rw [itr_s, chg_N k (i + 1)]
    unfold chg1
    split
    · rfl
    · rfl
theorem wiP_hour (S : St) (r : Int32) : hourS (wiP S r) 1 = wiP (hourS S 1) r := rfl
set_option maxRecDepth 100000 in
set_option maxHeartbeats 1000000 in
theorem ct_X0_burnsWithSpares (S : St) (r : Int32) (m : Nat) (h_S : Good S) (h_m : m < 1000) : e_Ct yX0_burnsWithSpares cX0_burnsWithSpares 4 (some .boolean) 5 [.ref 0, .int (nI m)] (lH (wiP S r)) (rP (.int (bz (buyR m S r))) lH) := by
  refine e_open RX0 rfl (by decide +kernel) rfl (fun _ => Nat.le_of_ble_eq_true rfl) (fun x X F => ?_)
  have L : ∀ (c j : Nat) (S2 : St) (r2 : Int32), m - j < c → j ≤ m → Good S2 → buyR m S r = buyR (m - j) S2 r2 → e_E x 2 [some (.ref 0), some (.int (nI m)), some (.int (nI j)), none] [] (lH (wiP S2 r2)) := by
    intro c
    induction c with
    | zero => intro j S2 r2 hc; exact absurd hc (Nat.not_lt_zero _)
    | succ c ih =>
      intro j S2 r2 hc hj hg hv
      have LI : j < m → ∀ (cq2 b : Nat) (q : St × Int32), 10 - b < cq2 → b ≤ 10 → Good q.1 → sN q.1 = sN S2 → chgF S2 r2 = itr chg1 q b (sN S2 - b) → e_E x 9 [some (.ref 0), some (.int (nI m)), some (.int (nI j)), some (.int (nI b))] [] (lH (wiP q.1 q.2)) := by
        intro hlt cq2
        induction cq2 with
        | zero => intro b q hc2; exact absurd hc2 (Nat.not_lt_zero _)
        | succ cq2 ih2 =>
          intro b q hc2 hb hq hqn hv2
          obtain ⟨⟨n, w, se, sp, hr, lt, hd, sc, so, fi, wo⟩, rr⟩ := q
          have hn : n ≤ 10 := hq.1
          have hqn0 : n = sN S2 := hqn
          have hb2 : buyR m S r = (hourB (chgF S2 r2).1 && buyR (m - (j + 1)) (hourS (chgF S2 r2).1 1) (chgF S2 r2).2) := by
            rw [hv, show m - j = (m - (j + 1)) + 1 by omega]; rfl
          show e_E x 9 _ _ (lH (n, w, se, rr, hr, lt, hd, sc, so, fi, wo))
          refine ei_iload_n X dX0_burnsWithSpares_9 rfl rfl ?_
          refine ei_aload_n X dX0_burnsWithSpares_10 rfl rfl ?_
          refine ei_getf X fl_RX0_34 dX0_burnsWithSpares_11 rfl rfl ?_
          refine ei_icmpn_ge (tgt := 43) X dX0_burnsWithSpares_14 (by decide) (by first | omega | assumption) (by first | omega | assumption) (fun cq14 => ?_) (fun cq14 => ?_)
          · have hce : chgF S2 r2 = ((n, w, se, sp, hr, lt, hd, sc, so, fi, wo), rr) := (by rw [hv2, itr_ge _ _ (by omega)])
            rw [hce] at hb2
            refine ei_aload_n X dX0_burnsWithSpares_43 rfl rfl ?_
            refine ei_iconst (v := 1) X dX0_burnsWithSpares_44 rfl ?_
            refine ei_callI1 X ml_RX0_15 dX0_burnsWithSpares_45 (ct_X2_passHour _ _ _ _ _ _ _ _ _ _ _ _ (by first | omega | assumption)) rfl rfl (by decide) (by decide) rfl (Nat.le_of_ble_eq_true rfl) ?_
            refine ei_ifz_ne (tgt := 53) X dX0_burnsWithSpares_48 (by decide) (fun cq48 => ?_) (fun cq48 => ?_)
            · refine ei_iinc_n X dX0_burnsWithSpares_53 rfl rfl ?_
              refine ei_goto (tgt := 2) X dX0_burnsWithSpares_56 (by decide) ?_
              refine ei_drop 3 ?_
              have cq48' : hourB (n, w, se, sp, hr, lt, hd, sc, so, fi, wo) = true := cq48
              exact ih (j + 1) (hourS (n, w, se, sp, hr, lt, hd, sc, so, fi, wo) 1) rr (by omega) (by omega) (good_hour hq (Or.inl rfl)) (by rw [hb2, cq48', Bool.true_and])
            · refine ei_iconst (v := 0) X dX0_burnsWithSpares_51 rfl ?_
              refine ei_zreturn X F dX0_burnsWithSpares_52 (by decide) ?_
              have cq48' : hourB (n, w, se, sp, hr, lt, hd, sc, so, fi, wo) = false := cq48
              exact ⟨by rw [hb2, cq48', Bool.false_and]; rfl, _, rfl⟩
          · refine ei_aload_n X dX0_burnsWithSpares_17 rfl rfl ?_
            refine ei_iload_n X dX0_burnsWithSpares_18 rfl rfl ?_
            refine ei_callI1 X ml_RX0_9 dX0_burnsWithSpares_19 (ct_X2_isWhole _ _ _ _ _ _ _ _ _ _ _ _) rfl rfl (by decide) (by decide) rfl (Nat.le_of_ble_eq_true rfl) ?_
            refine ei_ifz_ne (tgt := 37) X dX0_burnsWithSpares_22 (by decide) (fun cq22 => ?_) (fun cq22 => ?_)
            · refine ei_iinc_n X dX0_burnsWithSpares_37 rfl rfl ?_
              refine ei_goto (tgt := 9) X dX0_burnsWithSpares_40 (by decide) ?_
              exact ih2 (b + 1) ((n, w, se, sp, hr, lt, hd, sc, so, fi, wo), rr) (by omega) (by omega) hq hqn (by rw [hv2, itr_lt _ _ (by omega)]; congr 1; unfold chg1; rw [if_pos (Or.inl cq22)])
            · refine ei_aload_n X dX0_burnsWithSpares_25 rfl rfl ?_
              refine ei_getf X fl_RX0_37 dX0_burnsWithSpares_26 rfl rfl ?_
              refine ei_if_le (tgt := 37) X dX0_burnsWithSpares_29 (by decide) (fun cq29 => ?_) (fun cq29 => ?_)
              · refine ei_iinc_n X dX0_burnsWithSpares_37 rfl rfl ?_
                refine ei_goto (tgt := 9) X dX0_burnsWithSpares_40 (by decide) ?_
                exact ih2 (b + 1) ((n, w, se, sp, hr, lt, hd, sc, so, fi, wo), rr) (by omega) (by omega) hq hqn (by rw [hv2, itr_lt _ _ (by omega)]; congr 1; unfold chg1; rw [if_pos (Or.inr cq29)])
              · refine ei_aload_n X dX0_burnsWithSpares_32 rfl rfl ?_
                refine ei_iload_n X dX0_burnsWithSpares_33 rfl rfl ?_
                refine ei_callI0 X ml_RX0_40 dX0_burnsWithSpares_34 (ct_X2_putSpare _ _ _ _ _ _ _ _ _ _ _ _ (by first | omega | assumption)) rfl rfl (by decide) (by decide) rfl (Nat.le_of_ble_eq_true rfl) ?_
                refine ei_iinc_n X dX0_burnsWithSpares_37 rfl rfl ?_
                refine ei_goto (tgt := 9) X dX0_burnsWithSpares_40 (by decide) ?_
                have e0 : rr - 1 = rr + (-1) := Int32.sub_eq_add_neg _ _
                rw [e0]
                exact ih2 (b + 1) (spareS (n, w, se, sp, hr, lt, hd, sc, so, fi, wo) b, rr + (-1)) (by omega) (by omega) (good_spare hq (by omega)) hqn (by rw [hv2, itr_lt _ _ (by omega)]; congr 1; unfold chg1; rw [if_neg (fun z => z.elim (fun y => by rw [cq22] at y; cases y) cq29)])
      refine ei_iload_n X dX0_burnsWithSpares_2 rfl rfl ?_
      refine ei_iload_n X dX0_burnsWithSpares_3 rfl rfl ?_
      refine ei_icmpn_ge (tgt := 59) X dX0_burnsWithSpares_4 (by decide) (by first | omega | assumption) (by first | omega | assumption) (fun cq4 => ?_) (fun cq4 => ?_)
      · refine ei_iconst (v := 1) X dX0_burnsWithSpares_59 rfl ?_
        refine ei_zreturn X F dX0_burnsWithSpares_60 (by decide) ?_
        exact ⟨by rw [hv, show m - j = 0 by omega]; rfl, _, rfl⟩
      · refine ei_iconst (v := nI 0) X dX0_burnsWithSpares_7 rfl ?_
        refine ei_istore_n X dX0_burnsWithSpares_8 rfl (Nat.le_of_ble_eq_true rfl) rfl ?_
        exact LI (by omega) 11 0 (S2, r2) (by omega) (by omega) hg rfl rfl
  refine ei_iconst (v := nI 0) X dX0_burnsWithSpares_0 rfl ?_
  refine ei_istore_n X dX0_burnsWithSpares_1 rfl (Nat.le_of_ble_eq_true rfl) rfl ?_
  exact L (m + 1) 0 S r (by omega) (by omega) h_S rfl
set_option maxRecDepth 100000 in
set_option maxHeartbeats 1000000 in
theorem ct_X0_wearsAsTold (n : Nat) (w se sp hr lt hd sc : Int32) (so fi wo : Nat → Int32) (z : Sh) (b f : Nat) (h_b : b < 10) (h_f : f < 100) (h_z : zN z ≤ 100) (h_S : Good (n, w, se, sp, hr, lt, hd, sc, so, fi, wo)) : e_Ct yX0_wearsAsTold cX0_wearsAsTold 6 (some .boolean) 6 [.ref 0, .int (nI b), .ref 4, .int (nI f)] (lz (n, w, se, sp, hr, lt, hd, sc, so, fi, wo) z) (rP (.int (bz (wornRowF (n, w, se, sp, hr, lt, hd, sc, so, fi, wo) z b f))) (fun T => lz T z)) := by
  refine e_open RX0 rfl (by decide +kernel) rfl (fun _ => Nat.le_of_ble_eq_true rfl) (fun x X F => ?_)
  obtain ⟨t1, t2⟩ := told_sp z
  have hn : n ≤ 10 := h_S.1
  have E32 : ∀ (c i : Nat), toldN z - i ≤ c → i < toldN z → wornRowF (n, w, se, sp, hr, lt, hd, sc, so, fi, wo) z b f = allF (wornP (n, w, se, sp, hr, lt, hd, sc, so, fi, wo) z b f) i (zN z) → (∀ i', i < i' → i' ≤ 100 → wornRowF (n, w, se, sp, hr, lt, hd, sc, so, fi, wo) z b f = allF (wornP (n, w, se, sp, hr, lt, hd, sc, so, fi, wo) z b f) i' (zN z) → e_E x 14 [some (.ref 0), some (.int (nI b)), some (.ref 4), some (.int (nI f)), some (.int (nI (toldN z))), some (.int (nI i'))] [] (lz (hoursS (n, w, se, sp, hr, lt, hd, sc, so, fi, wo) (f + (i' - 1))) z)) → e_E x 32 [some (.ref 0), some (.int (nI b)), some (.ref 4), some (.int (nI f)), some (.int (nI (toldN z))), some (.int (nI i))] [] (lz (hoursS (n, w, se, sp, hr, lt, hd, sc, so, fi, wo) (f + i)) z) := by
    intro c i hc hi hv hx
    obtain ⟨w2, se2, hr2, lt2, wo2, e2⟩ := hours_ex (n, w, se, sp, hr, lt, hd, sc, so, fi, wo) (f + i)
    simp only [sN, sW, sE, sP, sH, sL, sD, sC, sO, sG, sR] at e2
    have ew : sR (hoursS (n, w, se, sp, hr, lt, hd, sc, so, fi, wo) (f + i)) b = wo2 b := by rw [e2]
    have h14 := hx (i + 1) (by omega) (by omega)
    rw [Nat.add_sub_cancel, e2] at h14
    rw [e2]
    refine ei_aload_n X dX0_wearsAsTold_32 rfl rfl ?_
    refine ei_iload X dX0_wearsAsTold_33 rfl ?_
    refine ei_cv1 [4, 5] (lz_gZ _ _) (lz_pZ _ _ _) X ml_RX0_53 dX0_wearsAsTold_35 (ct_X4_isSkipped _ _ (by first | omega | assumption)) rfl rfl (by decide) (by decide) rfl (Nat.le_of_ble_eq_true rfl) (by decide) ?_
    refine ei_ifz_ne (tgt := 59) X dX0_wearsAsTold_38 (by decide) (fun cq38 => ?_) (fun cq38 => ?_)
    · refine ei_iinc_n X dX0_wearsAsTold_59 rfl rfl ?_
      refine ei_goto (tgt := 14) X dX0_wearsAsTold_62 (by decide) ?_
      exact h14 (by rw [hv, allF_lt (by omega), show wornP (n, w, se, sp, hr, lt, hd, sc, so, fi, wo) z b f i = true from by unfold wornP; rw [cq38]; rfl, Bool.true_and])
    · refine ei_aload_n X dX0_wearsAsTold_41 rfl rfl ?_
      refine ei_getf X fl_RX0_56 dX0_wearsAsTold_42 rfl rfl ?_
      refine ei_iload X dX0_wearsAsTold_45 rfl ?_
      refine ei_iaload_n X dX0_wearsAsTold_47 rfl (by first | omega | assumption) (by decide) ?_
      refine ei_aload_n X dX0_wearsAsTold_48 rfl rfl ?_
      refine ei_getf X fl_RX0_60 dX0_wearsAsTold_49 rfl rfl ?_
      refine ei_iload_n X dX0_wearsAsTold_52 rfl rfl ?_
      refine ei_iaload_n X dX0_wearsAsTold_53 rfl (by first | omega | assumption) (by decide) ?_
      refine ei_icmp_eq (tgt := 59) X dX0_wearsAsTold_54 (by decide) (fun cq54 => ?_) (fun cq54 => ?_)
      · refine ei_iinc_n X dX0_wearsAsTold_59 rfl rfl ?_
        refine ei_goto (tgt := 14) X dX0_wearsAsTold_62 (by decide) ?_
        exact h14 (by rw [hv, allF_lt (by omega), show wornP (n, w, se, sp, hr, lt, hd, sc, so, fi, wo) z b f i = true from by unfold wornP; rw [ew, decide_eq_true cq54, Bool.or_true], Bool.true_and])
      · refine ei_iconst (v := 0) X dX0_wearsAsTold_57 rfl ?_
        refine ei_zreturn X F dX0_wearsAsTold_58 (by decide) ?_
        exact ⟨by rw [hv, allF_lt (by omega), show wornP (n, w, se, sp, hr, lt, hd, sc, so, fi, wo) z b f i = false from by unfold wornP; rw [cq38, ew, decide_eq_false cq54]; rfl, Bool.false_and]; rfl, _, rfl⟩
  have L : ∀ (c i : Nat), toldN z - i < c → i ≤ 100 → wornRowF (n, w, se, sp, hr, lt, hd, sc, so, fi, wo) z b f = allF (wornP (n, w, se, sp, hr, lt, hd, sc, so, fi, wo) z b f) i (zN z) → e_E x 14 [some (.ref 0), some (.int (nI b)), some (.ref 4), some (.int (nI f)), some (.int (nI (toldN z))), some (.int (nI i))] [] (lz (hoursS (n, w, se, sp, hr, lt, hd, sc, so, fi, wo) (f + (i - 1))) z) := by
    intro c
    induction c with
    | zero => intro i hc; exact absurd hc (Nat.not_lt_zero _)
    | succ c ih =>
      intro i hc hi hv
      obtain ⟨w2, se2, hr2, lt2, wo2, e2⟩ := hours_ex (n, w, se, sp, hr, lt, hd, sc, so, fi, wo) (f + (i - 1))
      simp only [sN, sW, sE, sP, sH, sL, sD, sC, sO, sG, sR] at e2
      have h32 : i < toldN z → e_E x 32 [some (.ref 0), some (.int (nI b)), some (.ref 4), some (.int (nI f)), some (.int (nI (toldN z))), some (.int (nI i))] [] (lz (hoursS (n, w, se, sp, hr, lt, hd, sc, so, fi, wo) (f + i)) z) := fun hlt => E32 (toldN z) i (by omega) hlt hv (fun i' a1 a2 hv2 => ih i' (by omega) a2 hv2)
      have e3 : 0 < i → hoursS (n, w, se, sp, hr, lt, hd, sc, so, fi, wo) (f + i) = hourS (hoursS (n, w, se, sp, hr, lt, hd, sc, so, fi, wo) (f + (i - 1))) 1 := fun h0 => by rw [← hours_s]; congr 1; omega
      have e4 : i = 0 → hoursS (n, w, se, sp, hr, lt, hd, sc, so, fi, wo) (f + i) = hoursS (n, w, se, sp, hr, lt, hd, sc, so, fi, wo) (f + (i - 1)) := fun h0 => by rw [h0]
      rw [e2] at e3 e4
      rw [e2]
      have ei0 : nI i ≤ 0 ↔ i = 0 := nI_le0 (by omega)
      refine ei_iload X dX0_wearsAsTold_14 rfl ?_
      refine ei_iload X dX0_wearsAsTold_16 rfl ?_
      refine ei_icmpn_ge (tgt := 65) X dX0_wearsAsTold_18 (by decide) (by first | omega | assumption) (by first | omega | assumption) (fun cq18 => ?_) (fun cq18 => ?_)
      · refine ei_iconst (v := 1) X dX0_wearsAsTold_65 rfl ?_
        refine ei_zreturn X F dX0_wearsAsTold_66 (by decide) ?_
        exact ⟨by rw [hv, allF_none (fun k a1 a2 => by unfold wornP; rw [t2 k (by omega) a2]; rfl)]; rfl, _, rfl⟩
      · refine ei_iload X dX0_wearsAsTold_21 rfl ?_
        refine ei_if_le (tgt := 32) X dX0_wearsAsTold_23 (by decide) (fun cq23 => ?_) (fun cq23 => ?_)
        · have h9 := h32 (by omega)
          rw [e4 (ei0.mp cq23)] at h9
          exact h9
        · refine ei_aload_n X dX0_wearsAsTold_26 rfl rfl ?_
          refine ei_iconst (v := 1) X dX0_wearsAsTold_27 rfl ?_
          refine ei_cv1 [0, 1, 2, 3] (lz_gL _ _) (lz_pL _ _ _) X ml_RX0_15 dX0_wearsAsTold_28 (ct_X2_passHour _ _ _ _ _ _ _ _ _ _ _ _ (by first | omega | assumption)) rfl rfl (by decide) (by decide) rfl (Nat.le_of_ble_eq_true rfl) (by decide) ?_
          refine ei_pop X dX0_wearsAsTold_31 rfl ?_
          have h9 := h32 (by omega)
          rw [e3 (Nat.pos_of_ne_zero (fun z => cq23 (ei0.mpr z)))] at h9
          exact h9
  refine ei_aload_n X dX0_wearsAsTold_0 rfl rfl ?_
  refine ei_iload_n X dX0_wearsAsTold_1 rfl rfl ?_
  refine ei_cv0 [0, 1, 2, 3] (lz_gL _ _) (lz_pL _ _ _) X ml_RX0_44 dX0_wearsAsTold_2 (ct_X2_pass _ _ _ _ _ _ _ _ _ _ _ _ (by first | omega | assumption) (by first | omega | assumption)) rfl rfl (by decide) (by decide) rfl (Nat.le_of_ble_eq_true rfl) (by decide) ?_
  refine ei_aload_n X dX0_wearsAsTold_5 rfl rfl ?_
  refine ei_cv1 [4, 5] (lz_gZ _ _) (lz_pZ _ _ _) X ml_RX0_47 dX0_wearsAsTold_6 (ct_X4_toldSize _ (by first | omega | assumption)) rfl rfl (by decide) (by decide) rfl (Nat.le_of_ble_eq_true rfl) (by decide) ?_
  refine ei_istore X dX0_wearsAsTold_9 (Nat.le_of_ble_eq_true rfl) rfl ?_
  refine ei_iconst (v := nI 0) X dX0_wearsAsTold_11 rfl ?_
  refine ei_istore X dX0_wearsAsTold_12 (Nat.le_of_ble_eq_true rfl) rfl ?_
  exact L (toldN z + 1) 0 (by omega) (by omega) rfl
set_option maxRecDepth 100000 in
set_option maxHeartbeats 1000000 in
theorem ct_X0_firstMiscount (n : Nat) (w se sp hr lt hd sc : Int32) (so fi wo : Nat → Int32) (z : Sh) (h_z : zN z ≤ 100) (h_S : Good (n, w, se, sp, hr, lt, hd, sc, so, fi, wo)) : e_Ct yX0_firstMiscount cX0_firstMiscount 4 (some .int) 5 [.ref 0, .ref 4] (lz (n, w, se, sp, hr, lt, hd, sc, so, fi, wo) z) (rP (.int (if judgeN (n, w, se, sp, hr, lt, hd, sc, so, fi, wo) z = zN z then -4 else nI (judgeN (n, w, se, sp, hr, lt, hd, sc, so, fi, wo) z))) (fun T => lz T z)) := by
  refine e_open RX0 rfl (by decide +kernel) rfl (fun _ => Nat.le_of_ble_eq_true rfl) (fun x X F => ?_)
  obtain ⟨t1, t2⟩ := told_sp z
  have hn : n ≤ 10 := h_S.1
  have E22 : ∀ (i : Nat), i < toldN z → judgeN (n, w, se, sp, hr, lt, hd, sc, so, fi, wo) z = firstN (fun k => !(skipF z k || decide (zC z k = popF (sW (hoursS (n, w, se, sp, hr, lt, hd, sc, so, fi, wo) k))))) i (zN z - i) → (∀ i', i < i' → i' ≤ 100 → judgeN (n, w, se, sp, hr, lt, hd, sc, so, fi, wo) z = firstN (fun k => !(skipF z k || decide (zC z k = popF (sW (hoursS (n, w, se, sp, hr, lt, hd, sc, so, fi, wo) k))))) i' (zN z - i') → e_E x 7 [some (.ref 0), some (.ref 4), some (.int (nI (toldN z))), some (.int (nI i'))] [] (lz (hoursS (n, w, se, sp, hr, lt, hd, sc, so, fi, wo) (i' - 1)) z)) → e_E x 22 [some (.ref 0), some (.ref 4), some (.int (nI (toldN z))), some (.int (nI i))] [] (lz (hoursS (n, w, se, sp, hr, lt, hd, sc, so, fi, wo) i) z) := by
    intro i hi hv hx
    obtain ⟨w2, se2, hr2, lt2, wo2, e2⟩ := hours_ex (n, w, se, sp, hr, lt, hd, sc, so, fi, wo) i
    have hg := good_at h_S i
    simp only [sN, sW, sE, sP, sH, sL, sD, sC, sO, sG, sR] at e2
    have ew : sW (hoursS (n, w, se, sp, hr, lt, hd, sc, so, fi, wo) i) = w2 := by rw [e2]
    have h7 := hx (i + 1) (by omega) (by omega)
    rw [Nat.add_sub_cancel, e2] at h7
    rw [e2] at hg
    rw [e2]
    refine ei_aload_n X dX0_firstMiscount_22 rfl rfl ?_
    refine ei_iload_n X dX0_firstMiscount_23 rfl rfl ?_
    refine ei_cv1 [4, 5] (lz_gZ _ _) (lz_pZ _ _ _) X ml_RX0_53 dX0_firstMiscount_24 (ct_X4_isSkipped _ _ (by first | omega | assumption)) rfl rfl (by decide) (by decide) rfl (Nat.le_of_ble_eq_true rfl) (by decide) ?_
    refine ei_ifz_ne (tgt := 48) X dX0_firstMiscount_27 (by decide) (fun cq27 => ?_) (fun cq27 => ?_)
    · refine ei_iinc_n X dX0_firstMiscount_48 rfl rfl ?_
      refine ei_goto (tgt := 7) X dX0_firstMiscount_51 (by decide) ?_
      exact h7 (by rw [hv, firstN_f (by omega) (by rw [cq27]; rfl)])
    · refine ei_aload_n X dX0_firstMiscount_30 rfl rfl ?_
      refine ei_getf X fl_RX0_56 dX0_firstMiscount_31 rfl rfl ?_
      refine ei_iload_n X dX0_firstMiscount_34 rfl rfl ?_
      refine ei_iaload_n X dX0_firstMiscount_35 rfl (by first | omega | assumption) (by decide) ?_
      refine ei_aload_n X dX0_firstMiscount_36 rfl rfl ?_
      refine ei_getf X fl_RX0_18 dX0_firstMiscount_37 rfl rfl ?_
      refine ei_callT1 X ml_RX0_63 dX0_firstMiscount_40 (ct_J6_bitCount_0f7a4 _ _ hg.2.2.2.2.2.2.2.2.1) rfl rfl (by decide) (by decide) (Nat.le_of_ble_eq_true rfl) ?_
      refine ei_icmp_eq (tgt := 48) X dX0_firstMiscount_43 (by decide) (fun cq43 => ?_) (fun cq43 => ?_)
      · refine ei_iinc_n X dX0_firstMiscount_48 rfl rfl ?_
        refine ei_goto (tgt := 7) X dX0_firstMiscount_51 (by decide) ?_
        exact h7 (by rw [hv, firstN_f (by omega) (by rw [ew, decide_eq_true cq43, Bool.or_true]; rfl)])
      · refine ei_iload_n X dX0_firstMiscount_46 rfl rfl ?_
        refine ei_ireturn X F dX0_firstMiscount_47 ?_
        have ej : judgeN (n, w, se, sp, hr, lt, hd, sc, so, fi, wo) z = i := (by rw [hv, firstN_t (by omega) (by rw [ew, cq27, decide_eq_false cq43]; rfl)])
        exact ⟨by rw [ej, if_neg (by omega)], _, rfl⟩
  have L : ∀ (c i : Nat), toldN z - i < c → i ≤ 100 → judgeN (n, w, se, sp, hr, lt, hd, sc, so, fi, wo) z = firstN (fun k => !(skipF z k || decide (zC z k = popF (sW (hoursS (n, w, se, sp, hr, lt, hd, sc, so, fi, wo) k))))) i (zN z - i) → e_E x 7 [some (.ref 0), some (.ref 4), some (.int (nI (toldN z))), some (.int (nI i))] [] (lz (hoursS (n, w, se, sp, hr, lt, hd, sc, so, fi, wo) (i - 1)) z) := by
    intro c
    induction c with
    | zero => intro i hc; exact absurd hc (Nat.not_lt_zero _)
    | succ c ih =>
      intro i hc hi hv
      obtain ⟨w2, se2, hr2, lt2, wo2, e2⟩ := hours_ex (n, w, se, sp, hr, lt, hd, sc, so, fi, wo) (i - 1)
      simp only [sN, sW, sE, sP, sH, sL, sD, sC, sO, sG, sR] at e2
      have h22 : i < toldN z → e_E x 22 [some (.ref 0), some (.ref 4), some (.int (nI (toldN z))), some (.int (nI i))] [] (lz (hoursS (n, w, se, sp, hr, lt, hd, sc, so, fi, wo) i) z) := fun hlt => E22 i hlt hv (fun i' a1 a2 hv2 => ih i' (by omega) a2 hv2)
      have e3 : 0 < i → hoursS (n, w, se, sp, hr, lt, hd, sc, so, fi, wo) i = hourS (hoursS (n, w, se, sp, hr, lt, hd, sc, so, fi, wo) (i - 1)) 1 := fun h0 => by rw [← hours_s]; congr 1; omega
      have e4 : i = 0 → hoursS (n, w, se, sp, hr, lt, hd, sc, so, fi, wo) i = hoursS (n, w, se, sp, hr, lt, hd, sc, so, fi, wo) (i - 1) := fun h0 => by rw [h0]
      rw [e2] at e3 e4
      rw [e2]
      have ei0 : nI i ≤ 0 ↔ i = 0 := nI_le0 (by omega)
      refine ei_iload_n X dX0_firstMiscount_7 rfl rfl ?_
      refine ei_iload_n X dX0_firstMiscount_8 rfl rfl ?_
      refine ei_icmpn_ge (tgt := 54) X dX0_firstMiscount_9 (by decide) (by first | omega | assumption) (by first | omega | assumption) (fun cq9 => ?_) (fun cq9 => ?_)
      · refine ei_bipush (v := -4) X dX0_firstMiscount_54 rfl ?_
        refine ei_ireturn X F dX0_firstMiscount_56 ?_
        have ej : judgeN (n, w, se, sp, hr, lt, hd, sc, so, fi, wo) z = zN z := (by (rcases Nat.lt_or_ge (zN z) i with y | y; (· have hle := firstN_ge (fun k => !(skipF z k || decide (zC z k = popF (sW (hoursS (n, w, se, sp, hr, lt, hd, sc, so, fi, wo) k))))) (zN z - i) i; have hle2 : judgeN (n, w, se, sp, hr, lt, hd, sc, so, fi, wo) z ≤ zN z := (by have := (firstN_ge (fun k => !(skipF z k || decide (zC z k = popF (sW (hoursS (n, w, se, sp, hr, lt, hd, sc, so, fi, wo) k))))) (zN z) 0).2; show firstN _ 0 (zN z) ≤ _; omega); omega); (· rw [hv, firstN_none _ _ (fun k a1 a2 => by rw [t2 k (by omega) (by omega)]; rfl)]; omega)))
        exact ⟨by rw [ej, if_pos rfl], _, rfl⟩
      · refine ei_iload_n X dX0_firstMiscount_12 rfl rfl ?_
        refine ei_if_le (tgt := 22) X dX0_firstMiscount_13 (by decide) (fun cq13 => ?_) (fun cq13 => ?_)
        · have h9 := h22 (by omega)
          rw [e4 (ei0.mp cq13)] at h9
          exact h9
        · refine ei_aload_n X dX0_firstMiscount_16 rfl rfl ?_
          refine ei_iconst (v := 1) X dX0_firstMiscount_17 rfl ?_
          refine ei_cv1 [0, 1, 2, 3] (lz_gL _ _) (lz_pL _ _ _) X ml_RX0_15 dX0_firstMiscount_18 (ct_X2_passHour _ _ _ _ _ _ _ _ _ _ _ _ (by first | omega | assumption)) rfl rfl (by decide) (by decide) rfl (Nat.le_of_ble_eq_true rfl) (by decide) ?_
          refine ei_pop X dX0_firstMiscount_21 rfl ?_
          have h9 := h22 (by omega)
          rw [e3 (Nat.pos_of_ne_zero (fun z => cq13 (ei0.mpr z)))] at h9
          exact h9
  refine ei_aload_n X dX0_firstMiscount_0 rfl rfl ?_
  refine ei_cv1 [4, 5] (lz_gZ _ _) (lz_pZ _ _ _) X ml_RX0_47 dX0_firstMiscount_1 (ct_X4_toldSize _ (by first | omega | assumption)) rfl rfl (by decide) (by decide) rfl (Nat.le_of_ble_eq_true rfl) (by decide) ?_
  refine ei_istore_n X dX0_firstMiscount_4 rfl (Nat.le_of_ble_eq_true rfl) rfl ?_
  refine ei_iconst (v := nI 0) X dX0_firstMiscount_5 rfl ?_
  refine ei_istore_n X dX0_firstMiscount_6 rfl (Nat.le_of_ble_eq_true rfl) rfl ?_
  exact L (toldN z + 1) 0 (by omega) (by omega) rfl

