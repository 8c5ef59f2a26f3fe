/-! ===== what must be bought ===== -/
def spareS (S : St) (b : Nat) : St := (sN S, sW S ||| bitI b, sE S ||| bitI b, sP S, sH S, sL S, sD S, sC S, upd (sO S) b 6, upd (sG S) b 5, upd (sR S) b 0)
def chg1 (q : St × Int32) (b : Nat) : St × Int32 := if hasB (sW q.1) b = true ∨ q.2 ≤ 0 then q else (spareS q.1 b, q.2 + (-1))
def chgF (S : St) (r : Int32) : St × Int32 := itr chg1 (S, r) 0 (sN S)
def buyR : Nat → St → Int32 → Bool
  | 0, _, _ => true
  | m + 1, S, r => hourB (chgF S r).1 && buyR m (hourS (chgF S r).1 1) (chgF S r).2
def buyN (S : St) (m e : Nat) : Nat := firstN (fun k => buyR m S (nI k)) 0 e
def buyF (S : St) (m : Int32) : Int32 := if inI m 0 60 = true then (if buyN S (nc m) 10 = 10 then -4 else nI (buyN S (nc m) 10)) else -1
theorem good_spare {S : St} (h : Good S) {b : Nat} (hb : b < 10) : Good (spareS S b) := by
  obtain ⟨h1, h2, h3, h4, h5, h6, h7, h8, h9, ha⟩ := h
  exact ⟨h1, gdV_upd h2 ⟨by decide, by decide⟩, gdV_upd h3 ⟨by decide, by decide⟩, gdV_upd h4 ⟨by decide, by decide⟩, h5, h6, h7, h8, gd_or h9 hb, gd_or ha hb⟩
theorem good_chg1 {q : St × Int32} (h : Good q.1) {b : Nat} (hb : b < 10) : Good (chg1 q b).1 := by
  unfold chg1
  split
  · exact h
  · exact good_spare h hb
theorem good_chgI : ∀ (k i : Nat) (q : St × Int32), i + k ≤ 10 → Good q.1 → Good (itr chg1 q i k).1
  | 0, _, _, _, h => h
  | k + 1, i, q, hk, h => by rw [itr_s]; exact good_chgI k (i + 1) _ (by omega) (good_chg1 h (by omega))
theorem good_chg {S : St} (h : Good S) (r : Int32) : Good (chgF S r).1 := good_chgI _ _ _ (by have := h.1; omega) h
set_option maxRecDepth 100000 in
set_option maxHeartbeats 4000000 in
theorem ct_X10_changeOut (n : Nat) (w se sp hr lt hd sc : Int32) (so fi wo : Nat → Int32) (I : Nat → Int32) (A : Nat → Nat → Int32) (B : Nat → Nat → Int64) (K : Value) (r : Int32) (h_S : Good (n, w, se, sp, hr, lt, hd, sc, so, fi, wo)) : e_Ct yX10_changeOut cX10_changeOut 4 (some .int) 2 [.ref 0, .int r] (mH (n, w, se, sp, hr, lt, hd, sc, so, fi, wo) (I, A, B, K)) (fun v h => v = some (.int (chgF (n, w, se, sp, hr, lt, hd, sc, so, fi, wo) r).2) ∧ h = mH (chgF (n, w, se, sp, hr, lt, hd, sc, so, fi, wo) r).1 (I, A, B, K)) := by
  refine e_open RX10 rfl (by decide +kernel) rfl (fun _ => Nat.le_of_ble_eq_true rfl) (fun x X F => ?_)
  have hn : n ≤ 10 := h_S.1
  have L : ∀ (c j : Nat) (w2 se2 r2 : Int32) (so2 fi2 wo2 : Nat → Int32), n - j < c → j ≤ 10 → chgF (n, w, se, sp, hr, lt, hd, sc, so, fi, wo) r = itr chg1 ((n, w2, se2, sp, hr, lt, hd, sc, so2, fi2, wo2), r2) j (n - j) → e_E x 4 [some (.ref 0), some (.int r), some (.int r2), some (.int (nI j))] [] (mH (n, w2, se2, sp, hr, lt, hd, sc, so2, fi2, wo2) (I, A, B, K)) := by
    intro c
    induction c with
    | zero => intro j w2 se2 r2 so2 fi2 wo2 hk; exact absurd hk (Nat.not_lt_zero _)
    | succ c ih =>
      intro j w2 se2 r2 so2 fi2 wo2 hk hj hv
      refine ei_iload_n X dX10_changeOut_4 rfl rfl ?_
      refine ei_aload_n X dX10_changeOut_5 rfl rfl ?_
      refine ei_getf X fl_RX10_81 dX10_changeOut_6 rfl rfl ?_
      refine ei_icmpn_ge (tgt := 41) X dX10_changeOut_9 (by decide) (by first | omega | assumption) (by first | omega | assumption) (fun cq9 => ?_) (fun cq9 => ?_)
      · refine ei_iload_n X dX10_changeOut_41 rfl rfl ?_
        refine ei_ireturn X F dX10_changeOut_42 ?_
        exact ⟨by rw [hv, itr_ge _ _ cq9], by rw [hv, itr_ge _ _ cq9]⟩
      · refine ei_aload_n X dX10_changeOut_12 rfl rfl ?_
        refine ei_getf X fl_RX10_88 dX10_changeOut_13 rfl rfl ?_
        refine ei_iload_n X dX10_changeOut_16 rfl rfl ?_
        refine ei_callT1 X ml_RX10_91 dX10_changeOut_17 (ct_X10_hasBit _ _ _) rfl rfl (by decide) (by decide) (Nat.le_of_ble_eq_true rfl) ?_
        refine ei_ifz_ne (tgt := 35) X dX10_changeOut_20 (by decide) (fun cq20 => ?_) (fun cq20 => ?_)
        · refine ei_iinc_n X dX10_changeOut_35 rfl rfl ?_
          refine ei_goto (tgt := 4) X dX10_changeOut_38 (by decide) ?_
          exact ih (j + 1) _ _ _ _ _ _ (by omega) (by omega) (by rw [hv, itr_lt _ _ (by omega)]; congr 1; unfold chg1; rw [if_pos (Or.inl cq20)])
        · refine ei_iload_n X dX10_changeOut_23 rfl rfl ?_
          refine ei_if_le (tgt := 35) X dX10_changeOut_24 (by decide) (fun cq24 => ?_) (fun cq24 => ?_)
          · refine ei_iinc_n X dX10_changeOut_35 rfl rfl ?_
            refine ei_goto (tgt := 4) X dX10_changeOut_38 (by decide) ?_
            exact ih (j + 1) _ _ _ _ _ _ (by omega) (by omega) (by rw [hv, itr_lt _ _ (by omega)]; congr 1; unfold chg1; rw [if_pos (Or.inr cq24)])
          · refine ei_aload_n X dX10_changeOut_27 rfl rfl ?_
            refine ei_iload_n X dX10_changeOut_28 rfl rfl ?_
            refine ei_callI0 X ml_RX10_158 dX10_changeOut_29 (ct_X10_becomesSpare _ _ _ _ _ _ _ _ _ _ _ _ _ _ _ _ (by first | omega | assumption)) rfl rfl (by decide) (by decide) rfl (Nat.le_of_ble_eq_true rfl) ?_
            refine ei_iinc (v := _ + -1) X dX10_changeOut_32 rfl rfl rfl ?_
            refine ei_iinc_n X dX10_changeOut_35 rfl rfl ?_
            refine ei_goto (tgt := 4) X dX10_changeOut_38 (by decide) ?_
            exact ih (j + 1) _ _ _ _ _ _ (by omega) (by omega) (by rw [hv, itr_lt _ _ (by omega)]; congr 1; unfold chg1; rw [if_neg (fun z => z.elim (fun y => Bool.false_ne_true (cq20.symm.trans y)) cq24)]; rfl)
  refine ei_iload_n X dX10_changeOut_0 rfl rfl ?_
  refine ei_istore_n X dX10_changeOut_1 rfl (Nat.le_of_ble_eq_true rfl) rfl ?_
  refine ei_iconst (v := 0) X dX10_changeOut_2 rfl ?_
  refine ei_istore_n X dX10_changeOut_3 rfl (Nat.le_of_ble_eq_true rfl) rfl ?_
  exact L (n + 1) 0 w se r so fi wo (by omega) (by omega) rfl
set_option maxRecDepth 100000 in
set_option maxHeartbeats 4000000 in
theorem ct_X10_buy (n : Nat) (w se sp hr lt hd sc : Int32) (so fi wo : Nat → Int32) (I : Nat → Int32) (A : Nat → Nat → Int32) (B : Nat → Nat → Int64) (K : Value) (m : Int32) (h_S : Good (n, w, se, sp, hr, lt, hd, sc, so, fi, wo)) (h_M : mI (I, A, B, K)) : e_Ct yX10_buy cX10_buy 7 (some .int) 6 [.ref 0, .int m] (mH (n, w, se, sp, hr, lt, hd, sc, so, fi, wo) (I, A, B, K)) (mP (some (.int (buyF (n, w, se, sp, hr, lt, hd, sc, so, fi, wo) m))) (n, w, se, sp, hr, lt, hd, sc, so, fi, wo) (I, A, B, K)) := by
  refine e_open RX10 rfl (by decide +kernel) rfl (fun _ => Nat.le_of_ble_eq_true rfl) (fun x X F => ?_)
  obtain ⟨i11, i12⟩ := h_M
  simp only at i11 i12
  have L : ∀ (mk e : Nat), e = 10 → mk ≤ 60 → buyF (n, w, se, sp, hr, lt, hd, sc, so, fi, wo) m = (if buyN (n, w, se, sp, hr, lt, hd, sc, so, fi, wo) mk e = e then -4 else nI (buyN (n, w, se, sp, hr, lt, hd, sc, so, fi, wo) mk e)) → ∀ (c k : Nat) (J : Nat → Int32), e - k < c → k ≤ e → (∀ i, i = 11 ∨ i = 12 ∨ i = 30 → J i = I i) → buyN (n, w, se, sp, hr, lt, hd, sc, so, fi, wo) mk e = firstN (fun k => buyR mk (n, w, se, sp, hr, lt, hd, sc, so, fi, wo) (nI k)) k (e - k) → e_E x 28 [some (.ref 0), some (.int (nI mk)), some (.int (-4)), some (.int (nI k)), none, none, none] [] (mH (n, w, se, sp, hr, lt, hd, sc, so, fi, wo) (J, updA A 13 (encF (n, w, se, sp, hr, lt, hd, sc, so, fi, wo)), B, .ref 13)) := by
    intro mk e he hmk hF c
    induction c with
    | zero => intro k J hk; exact absurd hk (Nat.not_lt_zero _)
    | succ c ih =>
      intro k J hk hke hJ hv
      have T2 : k < e → ∀ (J2 : Nat → Int32), (∀ i, i = 11 ∨ i = 12 ∨ i = 30 → J2 i = I i) → buyF (n, w, se, sp, hr, lt, hd, sc, so, fi, wo) m = nI k → e_E x 28 [some (.ref 0), some (.int (nI mk)), some (.int (nI k)), some (.int (nI (k + 1))), none, none, none] [] (mH (n, w, se, sp, hr, lt, hd, sc, so, fi, wo) (J2, updA A 13 (encF (n, w, se, sp, hr, lt, hd, sc, so, fi, wo)), B, .ref 13)) := by
        intro hlt J2 hJ2 h9
        have hneg : ¬ nI k < 0 := by rw [Int32.not_lt]; have kk : ∀ k, k < 10 → 0 ≤ nI k := (by decide); exact kk k (by omega)
        refine ei_iload_n X dX10_buy_28 rfl rfl ?_
        refine ei_bipush (v := nI 9) X dX10_buy_29 rfl ?_
        refine ei_icmpn_gt (tgt := 100) X dX10_buy_31 (by decide) (by first | omega | assumption) (by first | omega | assumption) (fun cq31 => ?_) (fun cq31 => ?_)
        · refine ei_iload_n X dX10_buy_100 rfl rfl ?_
          refine ei_ireturn X F dX10_buy_101 ?_
          exact ⟨by rw [h9], _, kM_13 hJ2, rfl⟩
        · refine ei_iload_n X dX10_buy_34 rfl rfl ?_
          refine ei_if_ge (tgt := 100) X dX10_buy_35 (by decide) (fun cq35 => ?_) (fun cq35 => ?_)
          · refine ei_iload_n X dX10_buy_100 rfl rfl ?_
            refine ei_ireturn X F dX10_buy_101 ?_
            exact ⟨by rw [h9], _, kM_13 hJ2, rfl⟩
          · exact absurd (Int32.not_lt.mp hneg) cq35
      have T : k < e → ∀ (b : Bool) (r i : Int32) (S2 : St) (J2 : Nat → Int32), (∀ i, i = 11 ∨ i = 12 ∨ i = 30 → J2 i = I i) → buyR mk (n, w, se, sp, hr, lt, hd, sc, so, fi, wo) (nI k) = b → e_E x 78 [some (.ref 0), some (.int (nI mk)), some (.int (-4)), some (.int (nI k)), some (.int r), some (.int (bz b)), some (.int i)] [] (mH S2 (J2, updA A 13 (encF (n, w, se, sp, hr, lt, hd, sc, so, fi, wo)), B, .ref 13)) := by
        intro hlt b r i S2 J2 hJ2 hb
        obtain ⟨n3, w3, se3, sp3, hr3, lt3, hd3, sc3, so3, fi3, wo3⟩ := S2
        refine ei_aload_n X dX10_buy_78 rfl rfl ?_
        refine ei_callI X ml_RX10_231 dX10_buy_79 (ct_X10_again _ _ _ _ _ _ _ _ _ _ _ n w se sp hr lt hd sc so fi wo _ _ _ _ updA_on) rfl rfl (by decide) (by decide) rfl (Nat.le_of_ble_eq_true rfl) (fun r h2 hp => ?_)
        obtain ⟨rfl, J79, h79, rfl⟩ := hp
        refine ei_iload X dX10_buy_82 rfl ?_
        refine ei_ifz_eq (tgt := 91) X dX10_buy_84 (by decide) (fun cq84 => ?_) (fun cq84 => ?_)
        · refine ei_bipush (v := -4) X dX10_buy_91 rfl ?_
          refine ei_istore_n X dX10_buy_93 rfl (Nat.le_of_ble_eq_true rfl) rfl ?_
          refine ei_iinc_n X dX10_buy_94 rfl rfl ?_
          refine ei_goto (tgt := 28) X dX10_buy_97 (by decide) ?_
          have h8 := ih (k + 1) J79 (by omega) (by omega) (fun i hi => by rw [h79 i (by omega) (by omega)]; exact hJ2 i hi) (by rw [hv, firstN_f hlt (by rw [hb, cq84])])
          refine ei_drop 4 ?_
          refine ei_drop 5 ?_
          refine ei_drop 6 ?_
          exact h8
        · refine ei_iload_n X dX10_buy_87 rfl rfl ?_
          refine ei_goto (tgt := 93) X dX10_buy_88 (by decide) ?_
          refine ei_istore_n X dX10_buy_93 rfl (Nat.le_of_ble_eq_true rfl) rfl ?_
          refine ei_iinc_n X dX10_buy_94 rfl rfl ?_
          refine ei_goto (tgt := 28) X dX10_buy_97 (by decide) ?_
          have h9 : buyF (n, w, se, sp, hr, lt, hd, sc, so, fi, wo) m = nI k := (by rw [hF, hv, firstN_t hlt (by rw [hb, cq84]), if_neg (by omega)])
          refine ei_drop 4 ?_
          refine ei_drop 5 ?_
          refine ei_drop 6 ?_
          exact T2 hlt J79 (fun i hi => by rw [h79 i (by omega) (by omega)]; exact hJ2 i hi) h9
      have R0 : k < e → ∀ (i : Nat) (r : Int32) (S2 : St) (J2 : Nat → Int32), i ≤ mk → (∀ i, i = 11 ∨ i = 12 ∨ i = 30 → J2 i = I i) → buyR mk (n, w, se, sp, hr, lt, hd, sc, so, fi, wo) (nI k) = false → e_E x 47 [some (.ref 0), some (.int (nI mk)), some (.int (-4)), some (.int (nI k)), some (.int r), some (.int (bz false)), some (.int (nI i))] [] (mH S2 (J2, updA A 13 (encF (n, w, se, sp, hr, lt, hd, sc, so, fi, wo)), B, .ref 13)) := by
        intro hlt i r S2 J2 hi hJ2 hb
        refine ei_iload X dX10_buy_47 rfl ?_
        refine ei_iload_n X dX10_buy_49 rfl rfl ?_
        refine ei_icmpn_ge (tgt := 78) X dX10_buy_50 (by decide) (by first | omega | assumption) (by first | omega | assumption) (fun cq50 => ?_) (fun cq50 => ?_)
        · exact T hlt false r _ _ J2 hJ2 hb
        · refine ei_iload X dX10_buy_53 rfl ?_
          refine ei_ifz_eq (tgt := 78) X dX10_buy_55 (by decide) (fun cq55 => ?_) (fun cq55 => ?_)
          · exact T hlt false r _ _ J2 hJ2 hb
          · exact absurd cq55 (by decide)
      have R : k < e → ∀ (cq2 i : Nat) (r : Int32) (S2 : St) (J2 : Nat → Int32), mk - i < cq2 → i ≤ mk → (∀ i, i = 11 ∨ i = 12 ∨ i = 30 → J2 i = I i) → Good S2 → buyR mk (n, w, se, sp, hr, lt, hd, sc, so, fi, wo) (nI k) = buyR (mk - i) S2 r → e_E x 47 [some (.ref 0), some (.int (nI mk)), some (.int (-4)), some (.int (nI k)), some (.int r), some (.int (bz true)), some (.int (nI i))] [] (mH S2 (J2, updA A 13 (encF (n, w, se, sp, hr, lt, hd, sc, so, fi, wo)), B, .ref 13)) := by
        intro hlt cq2
        induction cq2 with
        | zero => intro i r S2 J2 hk; exact absurd hk (Nat.not_lt_zero _)
        | succ cq2 ih2 =>
          intro i r S2 J2 hk2 hi hJ2 hg hb
          obtain ⟨n2, w2, se2, sp2, hr2, lt2, hd2, sc2, so2, fi2, wo2⟩ := S2
          have j12 := (hJ2 12 (by omega)).trans i12
          have j11 := (hJ2 11 (by omega)).trans i11
          refine ei_iload X dX10_buy_47 rfl ?_
          refine ei_iload_n X dX10_buy_49 rfl rfl ?_
          refine ei_icmpn_ge (tgt := 78) X dX10_buy_50 (by decide) (by first | omega | assumption) (by first | omega | assumption) (fun cq50 => ?_) (fun cq50 => ?_)
          · exact T hlt true r _ _ J2 hJ2 (by rw [hb, show mk - i = 0 by omega]; rfl)
          · refine ei_iload X dX10_buy_53 rfl ?_
            refine ei_ifz_eq (tgt := 78) X dX10_buy_55 (by decide) (fun cq55 => ?_) (fun cq55 => ?_)
            · exact absurd cq55 (by decide)
            · refine ei_aload_n X dX10_buy_58 rfl rfl ?_
              refine ei_iload X dX10_buy_59 rfl ?_
              refine ei_callI X ml_RX10_329 dX10_buy_61 (ct_X10_changeOut _ _ _ _ _ _ _ _ _ _ _ _ _ _ _ _ (by first | omega | assumption)) rfl rfl (by decide) (by decide) rfl (Nat.le_of_ble_eq_true rfl) (fun r h2 hp => ?_)
              obtain ⟨rfl, rfl⟩ := hp
              have hg3 := good_chg hg r
              have hs : buyR mk (n, w, se, sp, hr, lt, hd, sc, so, fi, wo) (nI k) = (hourB (chgF (n2, w2, se2, sp2, hr2, lt2, hd2, sc2, so2, fi2, wo2) r).1 && buyR (mk - (i + 1)) (hourS (chgF (n2, w2, se2, sp2, hr2, lt2, hd2, sc2, so2, fi2, wo2) r).1 1) (chgF (n2, w2, se2, sp2, hr2, lt2, hd2, sc2, so2, fi2, wo2) r).2) := (by rw [hb, show mk - i = (mk - (i + 1)) + 1 by omega]; rfl)
              revert hg3 hs
              generalize chgF (n2, w2, se2, sp2, hr2, lt2, hd2, sc2, so2, fi2, wo2) r = q3
              intro hg3 hs
              obtain ⟨⟨n3, w3, se3, sp3, hr3, lt3, hd3, sc3, so3, fi3, wo3⟩, r3⟩ := q3
              simp only at hg3 hs ⊢
              refine ei_istore X dX10_buy_64 (Nat.le_of_ble_eq_true rfl) rfl ?_
              refine ei_aload_n X dX10_buy_66 rfl rfl ?_
              refine ei_callI X ml_RX10_134 dX10_buy_67 (ct_X10_hourOn _ _ _ _ _ _ _ _ _ _ _ _ _ _ _ hg3 (Or.inl j12) j11) rfl rfl (by decide) (by decide) rfl (Nat.le_of_ble_eq_true rfl) (fun r h2 hp => ?_)
              obtain ⟨rfl, rfl⟩ := hp
              rw [j12]
              generalize hbb : hourB (n3, w3, se3, sp3, hr3, lt3, hd3, sc3, so3, fi3, wo3) = bb at hs ⊢
              refine ei_istore X dX10_buy_70 (Nat.le_of_ble_eq_true rfl) rfl ?_
              refine ei_iinc_n X dX10_buy_72 rfl rfl ?_
              refine ei_goto (tgt := 47) X dX10_buy_75 (by decide) ?_
              have hJ3 : ∀ i, i = 11 ∨ i = 12 ∨ i = 30 → burnI J2 bb (wholeN w3 0 n3) i = I i := (fun i hi => by rw [burnI_off (by omega)]; exact hJ2 i hi)
              cases bb
              · exact R0 hlt (i + 1) _ _ _ (by omega) hJ3 (by rw [hs, Bool.false_and])
              · exact ih2 (i + 1) r3 _ _ (by omega) (by omega) hJ3 (good_hour hg3 (Or.inl rfl)) (by rw [hs, Bool.true_and]; rfl)
      refine ei_iload_n X dX10_buy_28 rfl rfl ?_
      refine ei_bipush (v := nI 9) X dX10_buy_29 rfl ?_
      refine ei_icmpn_gt (tgt := 100) X dX10_buy_31 (by decide) (by first | omega | assumption) (by first | omega | assumption) (fun cq31 => ?_) (fun cq31 => ?_)
      · refine ei_iload_n X dX10_buy_100 rfl rfl ?_
        refine ei_ireturn X F dX10_buy_101 ?_
        exact ⟨by rw [hF, hv, firstN_e (by omega), if_pos (by omega)], _, kM_13 hJ, rfl⟩
      · refine ei_iload_n X dX10_buy_34 rfl rfl ?_
        refine ei_if_ge (tgt := 100) X dX10_buy_35 (by decide) (fun cq35 => ?_) (fun cq35 => ?_)
        · exact absurd cq35 (by decide)
        · refine ei_iload_n X dX10_buy_38 rfl rfl ?_
          refine ei_istore X dX10_buy_39 (Nat.le_of_ble_eq_true rfl) rfl ?_
          refine ei_iconst (v := 1) X dX10_buy_41 rfl ?_
          refine ei_istore X dX10_buy_42 (Nat.le_of_ble_eq_true rfl) rfl ?_
          refine ei_iconst (v := 0) X dX10_buy_44 rfl ?_
          refine ei_istore X dX10_buy_45 (Nat.le_of_ble_eq_true rfl) rfl ?_
          exact R (by omega) (mk + 1) 0 (nI k) (n, w, se, sp, hr, lt, hd, sc, so, fi, wo) J (by omega) (Nat.zero_le _) hJ h_S rfl
  refine ei_aload_n X dX10_buy_0 rfl rfl ?_
  refine ei_iconst (v := 0) X dX10_buy_1 rfl ?_
  refine ei_puti X fp_RX10_78 dX10_buy_2 rfl (Nat.le_of_ble_eq_true rfl) (pm_20 _ _ _ _ _ _ _ _ _ _ _ _ _ _ _ _) ?_
  refine ei_iload_n X dX10_buy_5 rfl rfl ?_
  refine ei_i2l X dX10_buy_6 ?_
  refine ei_lconst (v := 0) X dX10_buy_7 rfl ?_
  refine ei_ldc2 X cw_RX10_202 dX10_buy_8 ?_
  refine ei_callT1 X ml_RX10_84 dX10_buy_11 (ct_X10_in _ _ _ _) rfl rfl (by decide) (by decide) (Nat.le_of_ble_eq_true rfl) ?_
  rw [in_0_60]
  refine ei_ifz_ne (tgt := 19) X dX10_buy_14 (by decide) (fun cq14 => ?_) (fun cq14 => ?_)
  · refine ei_bipush (v := -4) X dX10_buy_19 rfl ?_
    refine ei_istore_n X dX10_buy_21 rfl (Nat.le_of_ble_eq_true rfl) rfl ?_
    refine ei_aload_n X dX10_buy_22 rfl rfl ?_
    refine ei_callI X ml_RX10_225 dX10_buy_23 (ct_X10_think _ _ _ _ _ _ _ _ _ _ _ _ _ _ _) rfl rfl (by decide) (by decide) rfl (Nat.le_of_ble_eq_true rfl) (fun r h2 hp => ?_)
    obtain ⟨rfl, J23, h23, rfl⟩ := hp
    refine ei_iconst (v := 0) X dX10_buy_26 rfl ?_
    refine ei_istore_n X dX10_buy_27 rfl (Nat.le_of_ble_eq_true rfl) rfl ?_
    have hF : buyF (n, w, se, sp, hr, lt, hd, sc, so, fi, wo) m = (if buyN (n, w, se, sp, hr, lt, hd, sc, so, fi, wo) (nc m) 10 = 10 then -4 else nI (buyN (n, w, se, sp, hr, lt, hd, sc, so, fi, wo) (nc m) 10)) := (by unfold buyF; rw [if_pos cq14])
    obtain ⟨mk, -, hmk, e6⟩ := (inI_iff (lo := 0) (hi := 60) (by decide) (by decide)).mp cq14
    rw [show nc m = mk by rw [e6]; exact nc_nI (by omega)] at hF
    have h7 := L mk 10 rfl hmk hF 11 0 J23 (by omega) (by omega) (fun k hk => by rw [h23 k (by omega) (by omega), pk_un (by omega)]) rfl
    rw [← e6] at h7
    exact h7
  · refine ei_iconst (v := -1) X dX10_buy_17 rfl ?_
    refine ei_ireturn X F dX10_buy_18 ?_
    exact ⟨by unfold buyF; rw [if_neg (fun z => Bool.false_ne_true (cq14.symm.trans z))], _, kM_20 _ _ _ _ 0, rfl⟩

