/-! ===== hours ahead ===== -/
def rP (v : Value) (W : St → List eC) : Option Value → List eC → Prop := fun r h => r = some v ∧ ∃ S', h = W S'
theorem told_sp (z : Sh) : toldN z ≤ zN z ∧ ∀ k, toldN z ≤ k → k < zN z → skipF z k = true := by
  have key : ∀ (m i a : Nat), a ≤ i → (∀ k, a ≤ k → k < i → skipF z k = true) → itr (told1 z) a i m ≤ i + m ∧ ∀ k, itr (told1 z) a i m ≤ k → k < i + m → skipF z k = true := by
    intro m
    induction m with
    | zero => intro i a h1 h2; exact ⟨h1, h2⟩
    | succ m ih =>
      intro i a h1 h2
      rw [itr_s, show i + (m + 1) = i + 1 + m by omega]
      cases q : skipF z i
      · have e : told1 z a i = i + 1 := if_neg (by rw [q]; exact Bool.false_ne_true)
        rw [e]
        exact ih (i + 1) (i + 1) (Nat.le_refl _) (fun k a1 a2 => absurd a1 (by omega))
      · have e : told1 z a i = a := if_pos q
        rw [e]
        refine ih (i + 1) a (by omega) (fun k a1 a2 => ?_)
        by_cases y : k = i
        · rw [y]; exact q
        · exact h2 k a1 (by omega)
  have h := key (zN z) 0 0 (Nat.le_refl _) (fun k a1 a2 => absurd a2 (Nat.not_lt_zero _))
  rw [Nat.zero_add] at h
  exact h
theorem firstN_none {p : Nat → Bool} : ∀ (m i : Nat), (∀ k, i ≤ k → k < i + m → p k = false) → firstN p i m = i + m
  | 0, i, _ => rfl
  | m + 1, i, h => by
    have e : firstN p i (m + 1) = firstN p (i + 1) m := if_neg (by rw [h i (Nat.le_refl _) (by omega)]; exact Bool.false_ne_true)
    rw [e, firstN_none m (i + 1) (fun k a b => h k (by omega) (by omega))]
    omega
theorem allF_none {p : Nat → Bool} {i e : Nat} (h : ∀ k, i ≤ k → k < e → p k = true) : allF p i e = true := by
  have key : ∀ (m i : Nat), i + m = e → (∀ k, i ≤ k → k < e → p k = true) → allF p i e = true := by
    intro m
    induction m with
    | zero => intro i hi _; exact allF_ge (by omega)
    | succ m ih => intro i hi h; rw [allF_lt (by omega), h i (Nat.le_refl _) (by omega), Bool.true_and]; exact ih (i + 1) (by omega) (fun k a b => h k (by omega) b)
  rcases Nat.lt_or_ge i e with q | q
  · exact key (e - i) i (by omega) h
  · exact allF_ge q
theorem hours_N (S : St) (k : Nat) : sN (hoursS S k) = sN S := by
  obtain ⟨w, se, hr, lt, wo, h⟩ := hours_ex S k
  rw [h]
set_option maxRecDepth 100000 in
set_option maxHeartbeats 1000000 in
theorem ct_X0_hoursTillOut (n : Nat) (w se sp hr lt hd sc : Int32) (so fi wo : Nat → Int32) (b : Nat) (h_b : b < 10) (h_S : Good (n, w, se, sp, hr, lt, hd, sc, so, fi, wo)) : e_Ct yX0_hoursTillOut cX0_hoursTillOut 3 (some .int) 5 [.ref 0, .int (nI b)] (lH (n, w, se, sp, hr, lt, hd, sc, so, fi, wo)) (rP (.int (tillF (n, w, se, sp, hr, lt, hd, sc, so, fi, wo) b)) lH) := by
  refine e_open RX0 rfl (by decide +kernel) rfl (fun _ => Nat.le_of_ble_eq_true rfl) (fun x X F => ?_)
  have L : ∀ (c k : Nat), 61 - k < c → 1 ≤ k → k ≤ 61 → tillN (n, w, se, sp, hr, lt, hd, sc, so, fi, wo) b = firstN (fun i => !hasB (sW (hoursS (n, w, se, sp, hr, lt, hd, sc, so, fi, wo) i)) b) k (61 - k) → e_E x 12 [some (.ref 0), some (.int (nI b)), some (.int (nI k))] [] (lH (hoursS (n, w, se, sp, hr, lt, hd, sc, so, fi, wo) (k - 1))) := by
    intro c
    induction c with
    | zero => intro k hc; exact absurd hc (Nat.not_lt_zero _)
    | succ c ih =>
      intro k hc hk1 hk hv
      obtain ⟨w2, se2, hr2, lt2, wo2, e2⟩ := hours_ex (n, w, se, sp, hr, lt, hd, sc, so, fi, wo) (k - 1)
      have hg := good_at h_S (k - 1)
      have e3 : hoursS (n, w, se, sp, hr, lt, hd, sc, so, fi, wo) k = hourS (hoursS (n, w, se, sp, hr, lt, hd, sc, so, fi, wo) (k - 1)) 1 := by rw [← hours_s, Nat.sub_add_cancel hk1]
      simp only [sN, sW, sE, sP, sH, sL, sD, sC, sO, sG, sR] at e2
      rw [e2] at hg e3
      have e4 : sW (hoursS (n, w, se, sp, hr, lt, hd, sc, so, fi, wo) k) = (hourQ (n, w2, se2, sp, hr2, lt2, hd, sc, so, fi, wo2) 1).1 := by rw [e3]; rfl
      have hn : n ≤ 10 := h_S.1
      rw [e2]
      refine ei_iload_n X dX0_hoursTillOut_12 rfl rfl ?_
      refine ei_bipush (v := nI 60) X dX0_hoursTillOut_13 rfl ?_
      refine ei_icmpn_gt (tgt := 40) X dX0_hoursTillOut_15 (by decide) (by first | omega | assumption) (by first | omega | assumption) (fun cq15 => ?_) (fun cq15 => ?_)
      · refine ei_bipush (v := -4) X dX0_hoursTillOut_40 rfl ?_
        refine ei_ireturn X F dX0_hoursTillOut_42 ?_
        exact ⟨by have e : tillN (n, w, se, sp, hr, lt, hd, sc, so, fi, wo) b = 61 := (by rw [hv, firstN_e (by omega)]; omega); unfold tillF; rw [e, if_pos rfl], _, rfl⟩
      · refine ei_aload_n X dX0_hoursTillOut_18 rfl rfl ?_
        refine ei_iconst (v := 1) X dX0_hoursTillOut_19 rfl ?_
        refine ei_callI1 X ml_RX0_15 dX0_hoursTillOut_20 (ct_X2_passHour _ _ _ _ _ _ _ _ _ _ _ _ (by first | omega | assumption)) rfl rfl (by decide) (by decide) rfl (Nat.le_of_ble_eq_true rfl) ?_
        refine ei_pop X dX0_hoursTillOut_23 rfl ?_
        refine ei_aload_n X dX0_hoursTillOut_24 rfl rfl ?_
        refine ei_iload_n X dX0_hoursTillOut_25 rfl rfl ?_
        refine ei_callI1 X ml_RX0_9 dX0_hoursTillOut_26 (ct_X2_isWhole _ _ _ _ _ _ _ _ _ _ _ _) rfl rfl (by decide) (by decide) rfl (Nat.le_of_ble_eq_true rfl) ?_
        refine ei_ifz_ne (tgt := 34) X dX0_hoursTillOut_29 (by decide) (fun cq29 => ?_) (fun cq29 => ?_)
        · refine ei_iinc_n X dX0_hoursTillOut_34 rfl rfl ?_
          refine ei_goto (tgt := 12) X dX0_hoursTillOut_37 (by decide) ?_
          have h9 := ih (k + 1) (by omega) (by omega) (by omega) (by rw [hv, firstN_f (by omega) (by rw [e4, cq29]; rfl)])
          rw [Nat.add_sub_cancel, e3] at h9
          exact h9
        · refine ei_iload_n X dX0_hoursTillOut_32 rfl rfl ?_
          refine ei_ireturn X F dX0_hoursTillOut_33 ?_
          exact ⟨by have e : tillN (n, w, se, sp, hr, lt, hd, sc, so, fi, wo) b = k := (by rw [hv, firstN_t (by omega) (by rw [e4, cq29]; rfl)]); unfold tillF; rw [e, if_neg (by omega)], _, rfl⟩
  refine ei_aload_n X dX0_hoursTillOut_0 rfl rfl ?_
  refine ei_iload_n X dX0_hoursTillOut_1 rfl rfl ?_
  refine ei_callI1 X ml_RX0_9 dX0_hoursTillOut_2 (ct_X2_isWhole _ _ _ _ _ _ _ _ _ _ _ _) rfl rfl (by decide) (by decide) rfl (Nat.le_of_ble_eq_true rfl) ?_
  refine ei_ifz_ne (tgt := 10) X dX0_hoursTillOut_5 (by decide) (fun cq5 => ?_) (fun cq5 => ?_)
  · refine ei_iconst (v := nI 1) X dX0_hoursTillOut_10 rfl ?_
    refine ei_istore_n X dX0_hoursTillOut_11 rfl (Nat.le_of_ble_eq_true rfl) rfl ?_
    have h9 := L 61 1 (by omega) (by omega) (by omega) (firstN_f (p := fun k => !hasB (sW (hoursS (n, w, se, sp, hr, lt, hd, sc, so, fi, wo) k)) b) (i := 0) (e := 61) (by decide) (by show (!hasB w b) = false; rw [cq5]; rfl))
    exact h9
  · refine ei_iconst (v := 0) X dX0_hoursTillOut_8 rfl ?_
    refine ei_ireturn X F dX0_hoursTillOut_9 ?_
    exact ⟨by have e : tillN (n, w, se, sp, hr, lt, hd, sc, so, fi, wo) b = 0 := (firstN_t (p := fun k => !hasB (sW (hoursS (n, w, se, sp, hr, lt, hd, sc, so, fi, wo) k)) b) (i := 0) (e := 61) (by omega) (by show (!hasB w b) = true; rw [cq5]; rfl)); unfold tillF; rw [e]; rfl, _, rfl⟩
set_option maxRecDepth 100000 in
set_option maxHeartbeats 1000000 in
theorem ct_X0_leastOf (h : List eC) (v : Int32) : e_Ct yX0_leastOf cX0_leastOf 2 (some .int) 1 [.int v] h (e_eq (some (.int (if firstN (hasB v) 0 10 = 10 then -4 else nI (firstN (hasB v) 0 10)))) h) := by
  refine e_open RX0 rfl (by decide +kernel) rfl (fun _ => Nat.le_of_ble_eq_true rfl) (fun x X F => ?_)
  have L : ∀ (c k : Nat), 10 - k < c → k ≤ 10 → firstN (hasB v) 0 10 = firstN (hasB v) k (10 - k) → e_E x 2 [some (.int v), some (.int (nI k))] [] h := by
    intro c
    induction c with
    | zero => intro k hc; exact absurd hc (Nat.not_lt_zero _)
    | succ c ih =>
      intro k hc hk hv
      refine ei_iload_n X dX0_leastOf_2 rfl rfl ?_
      refine ei_bipush (v := nI 10) X dX0_leastOf_3 rfl ?_
      refine ei_icmpn_ge (tgt := 25) X dX0_leastOf_5 (by decide) (by first | omega | assumption) (by first | omega | assumption) (fun cq5 => ?_) (fun cq5 => ?_)
      · refine ei_bipush (v := -4) X dX0_leastOf_25 rfl ?_
        refine ei_ireturn X F dX0_leastOf_27 ?_
        exact ⟨by rw [hv, firstN_e (by omega), if_pos (by omega)], rfl⟩
      · refine ei_iload_n X dX0_leastOf_8 rfl rfl ?_
        refine ei_iload_n X dX0_leastOf_9 rfl rfl ?_
        refine ei_ishr X dX0_leastOf_10 ?_
        refine ei_iconst (v := 1) X dX0_leastOf_11 rfl ?_
        refine ei_iand X dX0_leastOf_12 ?_
        refine ei_iconst (v := 1) X dX0_leastOf_13 rfl ?_
        refine ei_icmp_ne (tgt := 19) X dX0_leastOf_14 (by decide) (fun cq14 => ?_) (fun cq14 => ?_)
        · refine ei_iinc_n X dX0_leastOf_19 rfl rfl ?_
          refine ei_goto (tgt := 2) X dX0_leastOf_22 (by decide) ?_
          exact ih (k + 1) (by omega) (by omega) (by rw [hv, firstN_f (by omega) (decide_eq_false cq14)])
        · refine ei_iload_n X dX0_leastOf_17 rfl rfl ?_
          refine ei_ireturn X F dX0_leastOf_18 ?_
          exact ⟨by rw [hv, firstN_t (by omega) (decide_eq_true cq14), if_neg (by omega)], rfl⟩
  refine ei_iconst (v := nI 0) X dX0_leastOf_0 rfl ?_
  refine ei_istore_n X dX0_leastOf_1 rfl (Nat.le_of_ble_eq_true rfl) rfl ?_
  exact L 11 0 (by omega) (by omega) rfl
set_option maxRecDepth 100000 in
set_option maxHeartbeats 1000000 in
theorem ct_X0_firstDark (n : Nat) (w se sp hr lt hd sc : Int32) (so fi wo : Nat → Int32) (h_S : Good (n, w, se, sp, hr, lt, hd, sc, so, fi, wo)) : e_Ct yX0_firstDark cX0_firstDark 2 (some .int) 5 [.ref 0] (lH (n, w, se, sp, hr, lt, hd, sc, so, fi, wo)) (rP (.int (darkF (n, w, se, sp, hr, lt, hd, sc, so, fi, wo))) lH) := by
  refine e_open RX0 rfl (by decide +kernel) rfl (fun _ => Nat.le_of_ble_eq_true rfl) (fun x X F => ?_)
  have L : ∀ (c k : Nat), 60 - k < c → k ≤ 60 → darkN (n, w, se, sp, hr, lt, hd, sc, so, fi, wo) = firstN (fun i => !hourB (hoursS (n, w, se, sp, hr, lt, hd, sc, so, fi, wo) i)) k (60 - k) → e_E x 2 [some (.ref 0), some (.int (nI (k + 1)))] [] (lH (hoursS (n, w, se, sp, hr, lt, hd, sc, so, fi, wo) k)) := by
    intro c
    induction c with
    | zero => intro k hc; exact absurd hc (Nat.not_lt_zero _)
    | succ c ih =>
      intro k hc hk hv
      obtain ⟨w2, se2, hr2, lt2, wo2, e2⟩ := hours_ex (n, w, se, sp, hr, lt, hd, sc, so, fi, wo) k
      have hn : n ≤ 10 := h_S.1
      have e3 := hours_s (n, w, se, sp, hr, lt, hd, sc, so, fi, wo) k
      simp only [sN, sW, sE, sP, sH, sL, sD, sC, sO, sG, sR] at e2
      rw [e2] at e3
      have e4 : hourB (hoursS (n, w, se, sp, hr, lt, hd, sc, so, fi, wo) k) = hourB (n, w2, se2, sp, hr2, lt2, hd, sc, so, fi, wo2) := by rw [e2]
      rw [e2]
      refine ei_iload_n X dX0_firstDark_2 rfl rfl ?_
      refine ei_bipush (v := nI 60) X dX0_firstDark_3 rfl ?_
      refine ei_icmpn_gt (tgt := 24) X dX0_firstDark_5 (by decide) (by first | omega | assumption) (by first | omega | assumption) (fun cq5 => ?_) (fun cq5 => ?_)
      · refine ei_bipush (v := -4) X dX0_firstDark_24 rfl ?_
        refine ei_ireturn X F dX0_firstDark_26 ?_
        exact ⟨by have e : darkN (n, w, se, sp, hr, lt, hd, sc, so, fi, wo) = 60 := (by rw [hv, firstN_e (by omega)]; omega); unfold darkF; rw [e, if_pos rfl], _, rfl⟩
      · refine ei_aload_n X dX0_firstDark_8 rfl rfl ?_
        refine ei_iconst (v := 1) X dX0_firstDark_9 rfl ?_
        refine ei_callI1 X ml_RX0_15 dX0_firstDark_10 (ct_X2_passHour _ _ _ _ _ _ _ _ _ _ _ _ (by first | omega | assumption)) rfl rfl (by decide) (by decide) rfl (Nat.le_of_ble_eq_true rfl) ?_
        refine ei_ifz_ne (tgt := 18) X dX0_firstDark_13 (by decide) (fun cq13 => ?_) (fun cq13 => ?_)
        · refine ei_iinc_n X dX0_firstDark_18 rfl rfl ?_
          refine ei_goto (tgt := 2) X dX0_firstDark_21 (by decide) ?_
          have h9 := ih (k + 1) (by omega) (by omega) (by rw [hv, firstN_f (by omega) (by rw [e4, cq13]; rfl)])
          rw [e3] at h9
          exact h9
        · refine ei_iload_n X dX0_firstDark_16 rfl rfl ?_
          refine ei_ireturn X F dX0_firstDark_17 ?_
          exact ⟨by have e : darkN (n, w, se, sp, hr, lt, hd, sc, so, fi, wo) = k := (by rw [hv, firstN_t (by omega) (by rw [e4, cq13]; rfl)]); unfold darkF; rw [e, if_neg (by omega)], _, rfl⟩
  refine ei_iconst (v := nI 1) X dX0_firstDark_0 rfl ?_
  refine ei_istore_n X dX0_firstDark_1 rfl (Nat.le_of_ble_eq_true rfl) rfl ?_
  exact L 61 0 (by omega) (by omega) rfl
set_option maxRecDepth 100000 in
set_option maxHeartbeats 1000000 in
theorem ct_X0_longest (n : Nat) (w se sp hr lt hd sc : Int32) (so fi wo : Nat → Int32) (h_S : Good (n, w, se, sp, hr, lt, hd, sc, so, fi, wo)) : e_Ct yX0_longest cX0_longest 4 (some .int) 5 [.ref 0] (lH (n, w, se, sp, hr, lt, hd, sc, so, fi, wo)) (rP (.int (longF (n, w, se, sp, hr, lt, hd, sc, so, fi, wo))) lH) := by
  refine e_open RX0 rfl (by decide +kernel) rfl (fun _ => Nat.le_of_ble_eq_true rfl) (fun x X F => ?_)
  have L : ∀ (c k : Nat) (q : Int32 × Int32), 60 - k < c → k ≤ 60 → longF (n, w, se, sp, hr, lt, hd, sc, so, fi, wo) = (itr (long1 (n, w, se, sp, hr, lt, hd, sc, so, fi, wo)) q k (60 - k)).2 → e_E x 6 [some (.ref 0), some (.int q.2), some (.int q.1), some (.int (nI k))] [] (lH (hoursS (n, w, se, sp, hr, lt, hd, sc, so, fi, wo) k)) := by
    intro c
    induction c with
    | zero => intro k q hc; exact absurd hc (Nat.not_lt_zero _)
    | succ c ih =>
      intro k q hc hk hv
      obtain ⟨w2, se2, hr2, lt2, wo2, e2⟩ := hours_ex (n, w, se, sp, hr, lt, hd, sc, so, fi, wo) k
      have hn : n ≤ 10 := h_S.1
      have e3 := hours_s (n, w, se, sp, hr, lt, hd, sc, so, fi, wo) k
      simp only [sN, sW, sE, sP, sH, sL, sD, sC, sO, sG, sR] at e2
      rw [e2] at e3
      have e4 : hourB (hoursS (n, w, se, sp, hr, lt, hd, sc, so, fi, wo) k) = hourB (n, w2, se2, sp, hr2, lt2, hd, sc, so, fi, wo2) := by rw [e2]
      rw [e2]
      refine ei_iload_n X dX0_longest_6 rfl rfl ?_
      refine ei_bipush (v := nI 60) X dX0_longest_7 rfl ?_
      refine ei_icmpn_ge (tgt := 40) X dX0_longest_9 (by decide) (by first | omega | assumption) (by first | omega | assumption) (fun cq9 => ?_) (fun cq9 => ?_)
      · refine ei_iload_n X dX0_longest_40 rfl rfl ?_
        refine ei_ireturn X F dX0_longest_41 ?_
        exact ⟨by rw [hv, itr_ge _ _ (by omega)], _, rfl⟩
      · refine ei_aload_n X dX0_longest_12 rfl rfl ?_
        refine ei_iconst (v := 1) X dX0_longest_13 rfl ?_
        refine ei_callI1 X ml_RX0_15 dX0_longest_14 (ct_X2_passHour _ _ _ _ _ _ _ _ _ _ _ _ (by first | omega | assumption)) rfl rfl (by decide) (by decide) rfl (Nat.le_of_ble_eq_true rfl) ?_
        refine ei_ifz_eq (tgt := 26) X dX0_longest_17 (by decide) (fun cq17 => ?_) (fun cq17 => ?_)
        · refine ei_iconst (v := 0) X dX0_longest_26 rfl ?_
          refine ei_istore_n X dX0_longest_27 rfl (Nat.le_of_ble_eq_true rfl) rfl ?_
          refine ei_iload_n X dX0_longest_28 rfl rfl ?_
          refine ei_iload_n X dX0_longest_29 rfl rfl ?_
          refine ei_mmax X ml_RX0_28 dX0_longest_30 (Nat.le_of_ble_eq_true rfl) ?_
          refine ei_istore_n X dX0_longest_33 rfl (Nat.le_of_ble_eq_true rfl) rfl ?_
          refine ei_iinc_n X dX0_longest_34 rfl rfl ?_
          refine ei_goto (tgt := 6) X dX0_longest_37 (by decide) ?_
          have h9 := ih (k + 1) (long1 (n, w, se, sp, hr, lt, hd, sc, so, fi, wo) q k) (by omega) (by omega) (by rw [hv, itr_lt _ _ (by omega)])
          rw [e3] at h9
          unfold long1 at h9
          rw [e4, cq17] at h9
          exact h9
        · refine ei_iload_n X dX0_longest_20 rfl rfl ?_
          refine ei_iconst (v := 1) X dX0_longest_21 rfl ?_
          refine ei_iadd X dX0_longest_22 ?_
          refine ei_goto (tgt := 27) X dX0_longest_23 (by decide) ?_
          refine ei_istore_n X dX0_longest_27 rfl (Nat.le_of_ble_eq_true rfl) rfl ?_
          refine ei_iload_n X dX0_longest_28 rfl rfl ?_
          refine ei_iload_n X dX0_longest_29 rfl rfl ?_
          refine ei_mmax X ml_RX0_28 dX0_longest_30 (Nat.le_of_ble_eq_true rfl) ?_
          refine ei_istore_n X dX0_longest_33 rfl (Nat.le_of_ble_eq_true rfl) rfl ?_
          refine ei_iinc_n X dX0_longest_34 rfl rfl ?_
          refine ei_goto (tgt := 6) X dX0_longest_37 (by decide) ?_
          have h9 := ih (k + 1) (long1 (n, w, se, sp, hr, lt, hd, sc, so, fi, wo) q k) (by omega) (by omega) (by rw [hv, itr_lt _ _ (by omega)])
          rw [e3] at h9
          unfold long1 at h9
          rw [e4, cq17] at h9
          exact h9
  refine ei_iconst (v := 0) X dX0_longest_0 rfl ?_
  refine ei_istore_n X dX0_longest_1 rfl (Nat.le_of_ble_eq_true rfl) rfl ?_
  refine ei_iconst (v := 0) X dX0_longest_2 rfl ?_
  refine ei_istore_n X dX0_longest_3 rfl (Nat.le_of_ble_eq_true rfl) rfl ?_
  refine ei_iconst (v := nI 0) X dX0_longest_4 rfl ?_
  refine ei_istore_n X dX0_longest_5 rfl (Nat.le_of_ble_eq_true rfl) rfl ?_
  exact L 61 0 (0, 0) (by omega) (by omega) rfl
set_option maxRecDepth 100000 in
set_option maxHeartbeats 1000000 in
theorem ct_X0_hoursBurnt (n : Nat) (w se sp hr lt hd sc : Int32) (so fi wo : Nat → Int32) (m : Nat) (h_S : Good (n, w, se, sp, hr, lt, hd, sc, so, fi, wo)) (h_m : m < 1000) : e_Ct yX0_hoursBurnt cX0_hoursBurnt 4 (some .int) 5 [.ref 0, .int (nI m)] (lH (n, w, se, sp, hr, lt, hd, sc, so, fi, wo)) (rP (.int (burntF (n, w, se, sp, hr, lt, hd, sc, so, fi, wo) m)) lH) := by
  refine e_open RX0 rfl (by decide +kernel) rfl (fun _ => Nat.le_of_ble_eq_true rfl) (fun x X F => ?_)
  have L : ∀ (c k : Nat) (a : Int32), m - k < c → k ≤ m → burntF (n, w, se, sp, hr, lt, hd, sc, so, fi, wo) m = cntF (fun k => hourB (hoursS (n, w, se, sp, hr, lt, hd, sc, so, fi, wo) k)) a k m → e_E x 4 [some (.ref 0), some (.int (nI m)), some (.int a), some (.int (nI k))] [] (lH (hoursS (n, w, se, sp, hr, lt, hd, sc, so, fi, wo) k)) := by
    intro c
    induction c with
    | zero => intro k a hc; exact absurd hc (Nat.not_lt_zero _)
    | succ c ih =>
      intro k a hc hk hv
      obtain ⟨w2, se2, hr2, lt2, wo2, e2⟩ := hours_ex (n, w, se, sp, hr, lt, hd, sc, so, fi, wo) k
      have hn : n ≤ 10 := h_S.1
      have e3 := hours_s (n, w, se, sp, hr, lt, hd, sc, so, fi, wo) k
      simp only [sN, sW, sE, sP, sH, sL, sD, sC, sO, sG, sR] at e2
      rw [e2] at e3
      have e4 : hourB (hoursS (n, w, se, sp, hr, lt, hd, sc, so, fi, wo) k) = hourB (n, w2, se2, sp, hr2, lt2, hd, sc, so, fi, wo2) := by rw [e2]
      rw [e2]
      refine ei_iload_n X dX0_hoursBurnt_4 rfl rfl ?_
      refine ei_iload_n X dX0_hoursBurnt_5 rfl rfl ?_
      refine ei_icmpn_ge (tgt := 26) X dX0_hoursBurnt_6 (by decide) (by first | omega | assumption) (by first | omega | assumption) (fun cq6 => ?_) (fun cq6 => ?_)
      · refine ei_iload_n X dX0_hoursBurnt_26 rfl rfl ?_
        refine ei_ireturn X F dX0_hoursBurnt_27 ?_
        exact ⟨by rw [hv, cntF_ge (by omega)], _, rfl⟩
      · refine ei_aload_n X dX0_hoursBurnt_9 rfl rfl ?_
        refine ei_iconst (v := 1) X dX0_hoursBurnt_10 rfl ?_
        refine ei_callI1 X ml_RX0_15 dX0_hoursBurnt_11 (ct_X2_passHour _ _ _ _ _ _ _ _ _ _ _ _ (by first | omega | assumption)) rfl rfl (by decide) (by decide) rfl (Nat.le_of_ble_eq_true rfl) ?_
        refine ei_ifz_eq (tgt := 20) X dX0_hoursBurnt_14 (by decide) (fun cq14 => ?_) (fun cq14 => ?_)
        · refine ei_iinc_n X dX0_hoursBurnt_20 rfl rfl ?_
          refine ei_goto (tgt := 4) X dX0_hoursBurnt_23 (by decide) ?_
          have h9 := ih (k + 1) a (by omega) (by omega) (by rw [hv, cntF_lt (by omega), e4, cq14]; rfl)
          rw [e3] at h9
          exact h9
        · refine ei_iinc (v := _ + 1) X dX0_hoursBurnt_17 rfl rfl rfl ?_
          refine ei_iinc_n X dX0_hoursBurnt_20 rfl rfl ?_
          refine ei_goto (tgt := 4) X dX0_hoursBurnt_23 (by decide) ?_
          have h9 := ih (k + 1) (a + 1) (by omega) (by omega) (by rw [hv, cntF_lt (by omega), e4, cq14]; rfl)
          rw [e3] at h9
          exact h9
  refine ei_iconst (v := 0) X dX0_hoursBurnt_0 rfl ?_
  refine ei_istore_n X dX0_hoursBurnt_1 rfl (Nat.le_of_ble_eq_true rfl) rfl ?_
  refine ei_iconst (v := nI 0) X dX0_hoursBurnt_2 rfl ?_
  refine ei_istore_n X dX0_hoursBurnt_3 rfl (Nat.le_of_ble_eq_true rfl) rfl ?_
  exact L (m + 1) 0 0 (by omega) (by omega) rfl

