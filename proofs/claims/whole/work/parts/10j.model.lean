/-! ===== the string cut in two ===== -/
theorem burnI_13 (I : Nat → Int32) (b : Bool) (g : Int32) : burnI I b g 13 = I 13 + (if b then g else 0) := by
  unfold burnI
  cases b
  · simp
  · simp [pk_us]
theorem partQ_gd {S : St} (h : Good S) {i e : Nat} {hr : Int32} (he : e ≤ 10) : Gd1 (partQ S i e hr).1 1023 ∧ GdV (partQ S i e hr).2 999 := by
  unfold partQ
  split
  · exact wearV_gd h he (Or.inl rfl)
  · exact ⟨h.2.2.2.2.2.2.2.2.1, h.2.2.2.1⟩
theorem good_cut1 {S : St} (h : Good S) {k : Nat} (hk : k ≤ 10) : Good (cut1 S k) :=
  ⟨h.1, h.2.1, h.2.2.1, (partQ_gd h hk).2, h.2.2.2.2.1, h.2.2.2.2.2.1, h.2.2.2.2.2.2.1, h.2.2.2.2.2.2.2.1, (partQ_gd h hk).1, h.2.2.2.2.2.2.2.2.2⟩
theorem good_cut {S : St} (h : Good S) {k : Nat} (hk : k ≤ 10) : Good (cutS S k) :=
  ⟨h.1, h.2.1, h.2.2.1, (partQ_gd (good_cut1 h hk) h.1).2, h.2.2.2.2.1, h.2.2.2.2.2.1, h.2.2.2.2.2.2.1, h.2.2.2.2.2.2.2.1, (partQ_gd (good_cut1 h hk) h.1).1, hourE_gd h⟩
theorem cut_ex (S : St) (k : Nat) : ∃ w se hr wo, cutS S k = (sN S, w, se, sP S, hr, sL S, sD S, sC S, sO S, sG S, wo) := ⟨_, _, _, _, rfl⟩
set_option maxRecDepth 100000 in
set_option maxHeartbeats 4000000 in
theorem ct_X10_hourOn_cut (n : Nat) (w se sp hr lt hd sc : Int32) (so fi wo : Nat → Int32) (I : Nat → Int32) (A : Nat → Nat → Int32) (B : Nat → Nat → Int64) (K : Value) (k : Nat) (h_k1 : 1 ≤ k) (h_k : k < n) (h_S : Good (n, w, se, sp, hr, lt, hd, sc, so, fi, wo)) (h_t : I 12 = 1) (h_c : I 11 = nI k) : e_Ct yX10_hourOn cX10_hourOn 3 (some .boolean) 5 [.ref 0] (mH (n, w, se, sp, hr, lt, hd, sc, so, fi, wo) (I, A, B, K)) (fun r h => ∃ b J, r = some (.int (bz b)) ∧ kI I J ∧ J 13 = I 13 + cutN (n, w, se, sp, hr, lt, hd, sc, so, fi, wo) k ∧ h = mH (cutS (n, w, se, sp, hr, lt, hd, sc, so, fi, wo) k) (J, A, B, K)) := by
  refine e_open RX10 rfl (by decide +kernel) rfl (fun _ => Nat.le_of_ble_eq_true rfl) (fun x X F => ?_)
  have hn : n ≤ 10 := h_S.1
  have hB1 : burnM (n, w, se, sp, hr + 1, lt, hd, sc, so, fi, wo) 0 k = leadAll (n, w, se, sp, hr, lt, hd, sc, so, fi, wo) 0 k (hr + 1) := by
    unfold burnM
    rw [decide_eq_true (by omega : ¬ 0 = k), Bool.true_and]
    rfl
  have hQ1 : burnQ (n, w, se, sp, hr + 1, lt, hd, sc, so, fi, wo) 0 k (I 12) = partQ (n, w, se, sp, hr, lt, hd, sc, so, fi, wo) 0 k (hr + 1) := by
    unfold burnQ partQ
    rw [hB1, h_t]
    rfl
  have hB2 : burnM (n, (partQ (n, w, se, sp, hr, lt, hd, sc, so, fi, wo) 0 k (hr + 1)).1, se, sp, hr + 1, lt, hd, sc, so, fi, (partQ (n, w, se, sp, hr, lt, hd, sc, so, fi, wo) 0 k (hr + 1)).2) k n = leadAll (cut1 (n, w, se, sp, hr, lt, hd, sc, so, fi, wo) k) k n (hr + 1) := by
    unfold burnM
    rw [decide_eq_true (by omega : ¬ k = n), Bool.true_and]
    rfl
  have hQ2 : burnQ (n, (partQ (n, w, se, sp, hr, lt, hd, sc, so, fi, wo) 0 k (hr + 1)).1, se, sp, hr + 1, lt, hd, sc, so, fi, (partQ (n, w, se, sp, hr, lt, hd, sc, so, fi, wo) 0 k (hr + 1)).2) k n 1 = partQ (cut1 (n, w, se, sp, hr, lt, hd, sc, so, fi, wo) k) k n (hr + 1) := by
    unfold burnQ
    rw [hB2]
    rfl
  have L : ∀ (b : Bool) (q : WR) (J : Nat → Int32) (k0 j : Nat) (se2 : Int32), n - j < k0 → j ≤ 10 → hourE (n, w, se, sp, hr, lt, hd, sc, so, fi, wo) = itr (unseat1 so fi (hr + 1)) se2 j (n - j) → q = partQ (cut1 (n, w, se, sp, hr, lt, hd, sc, so, fi, wo) k) k n (hr + 1) → kI I J → J 13 = I 13 + cutN (n, w, se, sp, hr, lt, hd, sc, so, fi, wo) k → e_E x 91 [some (.ref 0), some (.int (bz b)), some (.int (nI j))] [] (mH (n, q.1, se2, sp, hr + 1, lt, hd, sc, so, fi, q.2) (J, A, B, K)) := by
    intro b q J k0
    induction k0 with
    | zero => intro j se2 hk; exact absurd hk (Nat.not_lt_zero _)
    | succ k0 ih =>
      intro j se2 hk hj hv hq hJ hg
      obtain ⟨a1, a2, a3, a4⟩ := fig_pos (h_S.2.2.1 (min j 9) (by omega))
      refine ei_iload_n X dX10_hourOn_91 rfl rfl ?_
      refine ei_aload_n X dX10_hourOn_92 rfl rfl ?_
      refine ei_getf X fl_RX10_81 dX10_hourOn_93 rfl rfl ?_
      refine ei_icmpn_ge (tgt := 149) X dX10_hourOn_96 (by decide) (by first | omega | assumption) (by first | omega | assumption) (fun cq96 => ?_) (fun cq96 => ?_)
      · refine ei_iload_n X dX10_hourOn_149 rfl rfl ?_
        refine ei_zreturn X F dX10_hourOn_150 (bz_nar _) ?_
        exact ⟨b, J, rfl, hJ, hg, by rw [show cutS (n, w, se, sp, hr, lt, hd, sc, so, fi, wo) k = (n, (partQ (cut1 (n, w, se, sp, hr, lt, hd, sc, so, fi, wo) k) k n (hr + 1)).1, hourE (n, w, se, sp, hr, lt, hd, sc, so, fi, wo), sp, hr + 1, lt, hd, sc, so, fi, (partQ (cut1 (n, w, se, sp, hr, lt, hd, sc, so, fi, wo) k) k n (hr + 1)).2) from rfl, hv, itr_ge _ _ cq96, ← hq]⟩
      · refine ei_aload_n X dX10_hourOn_99 rfl rfl ?_
        refine ei_dup X dX10_hourOn_100 rfl ?_
        refine ei_getf X fl_RX10_95 dX10_hourOn_101 rfl rfl ?_
        refine ei_aload_n X dX10_hourOn_104 rfl rfl ?_
        refine ei_getf X fl_RX10_7 dX10_hourOn_105 rfl rfl ?_
        refine ei_iload_n X dX10_hourOn_108 rfl rfl ?_
        refine ei_iaload_n X dX10_hourOn_109 rfl (by first | omega | assumption) (by decide) ?_
        refine ei_iconst (v := 1) X dX10_hourOn_110 rfl ?_
        refine ei_icmp_ne (tgt := 138) X dX10_hourOn_111 (by decide) (fun cq111 => ?_) (fun cq111 => ?_)
        · refine ei_iconst (v := -1) X dX10_hourOn_138 rfl ?_
          refine ei_iand X dX10_hourOn_139 ?_
          refine ei_puti X fp_RX10_95 dX10_hourOn_140 rfl (Nat.le_of_ble_eq_true rfl) (pm_5 _ _ _ _ _ _ _ _ _ _ _ _ _ _ _ _) ?_
          refine ei_iinc_n X dX10_hourOn_143 rfl rfl ?_
          refine ei_goto (tgt := 91) X dX10_hourOn_146 (by decide) ?_
          rw [and_m1]
          exact ih (j + 1) _ (by omega) (by omega) (by rw [hv, itr_lt _ _ (by omega)]; congr 1; simp [unseat1, cq111]) hq hJ hg
        · refine ei_aload_n X dX10_hourOn_114 rfl rfl ?_
          refine ei_getf X fl_RX10_105 dX10_hourOn_115 rfl rfl ?_
          refine ei_aload_n X dX10_hourOn_118 rfl rfl ?_
          refine ei_getf X fl_RX10_13 dX10_hourOn_119 rfl rfl ?_
          refine ei_iload_n X dX10_hourOn_122 rfl rfl ?_
          refine ei_iaload_n X dX10_hourOn_123 rfl (by first | omega | assumption) (by decide) ?_
          refine ei_iconst (v := 3) X dX10_hourOn_124 rfl ?_
          refine ei_iadd X dX10_hourOn_125 ?_
          refine ei_irem X dX10_hourOn_126 (by rw [show min j 9 = j by omega] at a4; exact a4) ?_
          refine ei_if_ne (tgt := 138) X dX10_hourOn_127 (by decide) (fun cq127 => ?_) (fun cq127 => ?_)
          · refine ei_iconst (v := -1) X dX10_hourOn_138 rfl ?_
            refine ei_iand X dX10_hourOn_139 ?_
            refine ei_puti X fp_RX10_95 dX10_hourOn_140 rfl (Nat.le_of_ble_eq_true rfl) (pm_5 _ _ _ _ _ _ _ _ _ _ _ _ _ _ _ _) ?_
            refine ei_iinc_n X dX10_hourOn_143 rfl rfl ?_
            refine ei_goto (tgt := 91) X dX10_hourOn_146 (by decide) ?_
            rw [and_m1]
            exact ih (j + 1) _ (by omega) (by omega) (by rw [hv, itr_lt _ _ (by omega)]; congr 1; simp [unseat1, divs, cq111, cq127]) hq hJ hg
          · refine ei_iconst (v := 1) X dX10_hourOn_130 rfl ?_
            refine ei_iload_n X dX10_hourOn_131 rfl rfl ?_
            refine ei_ishl X dX10_hourOn_132 ?_
            refine ei_iconst (v := -1) X dX10_hourOn_133 rfl ?_
            refine ei_ixor X dX10_hourOn_134 ?_
            refine ei_goto (tgt := 139) X dX10_hourOn_135 (by decide) ?_
            refine ei_iand X dX10_hourOn_139 ?_
            refine ei_puti X fp_RX10_95 dX10_hourOn_140 rfl (Nat.le_of_ble_eq_true rfl) (pm_5 _ _ _ _ _ _ _ _ _ _ _ _ _ _ _ _) ?_
            refine ei_iinc_n X dX10_hourOn_143 rfl rfl ?_
            refine ei_goto (tgt := 91) X dX10_hourOn_146 (by decide) ?_
            exact ih (j + 1) _ (by omega) (by omega) (by rw [hv, itr_lt _ _ (by omega)]; congr 1; rw [show min j 9 = j by omega] at a3; simp only [sN, sW, sE, sP, sH, sL, sD, sC, sO, sG, sR] at a3; simp [unseat1, divs, cq111, cq127, a3]) hq hJ hg
  have nz : ¬ I 11 = 0 := by rw [h_c]; exact nI_ne0 (by omega) (by omega)
  refine ei_aload_n X dX10_hourOn_0 rfl rfl ?_
  refine ei_dup X dX10_hourOn_1 rfl ?_
  refine ei_getf X fl_RX10_105 dX10_hourOn_2 rfl rfl ?_
  refine ei_iconst (v := 1) X dX10_hourOn_5 rfl ?_
  refine ei_iadd X dX10_hourOn_6 ?_
  refine ei_puti X fp_RX10_105 dX10_hourOn_7 rfl (Nat.le_of_ble_eq_true rfl) (pm_7 _ _ _ _ _ _ _ _ _ _ _ _ _ _ _ _) ?_
  refine ei_aload_n X dX10_hourOn_10 rfl rfl ?_
  refine ei_getf X fl_RX10_125 dX10_hourOn_11 rfl rfl ?_
  refine ei_if_ne (tgt := 54) X dX10_hourOn_14 (by decide) (fun cq14 => ?_) (fun cq14 => ?_)
  · refine ei_aload_n X dX10_hourOn_54 rfl rfl ?_
    refine ei_iconst (v := 0) X dX10_hourOn_55 rfl ?_
    refine ei_aload_n X dX10_hourOn_56 rfl rfl ?_
    refine ei_getf X fl_RX10_125 dX10_hourOn_57 rfl rfl ?_
    rw [h_c]
    refine ei_callI1 X ml_RX10_128 dX10_hourOn_60 (ct_X10_burns _ _ _ _ _ _ _ _ _ _ _ _ _ _ _ 0 k (by omega) (by omega) (show Good (n, w, se, sp, hr + 1, lt, hd, sc, so, fi, wo) from h_S) (Or.inl h_t)) rfl rfl (by decide) (by decide) rfl (Nat.le_of_ble_eq_true rfl) ?_
    rw [hB1, hQ1]
    refine ei_istore_n X dX10_hourOn_63 rfl (Nat.le_of_ble_eq_true rfl) rfl ?_
    refine ei_aload_n X dX10_hourOn_64 rfl rfl ?_
    refine ei_aload_n X dX10_hourOn_65 rfl rfl ?_
    refine ei_getf X fl_RX10_125 dX10_hourOn_66 rfl rfl ?_
    rw [burnI_off (by decide), h_c]
    refine ei_aload_n X dX10_hourOn_69 rfl rfl ?_
    refine ei_getf X fl_RX10_81 dX10_hourOn_70 rfl rfl ?_
    refine ei_callI1 X ml_RX10_128 dX10_hourOn_73 (ct_X10_burns _ _ _ _ _ _ _ _ _ _ _ _ _ _ _ k n (by omega) hn (show Good (n, (partQ (n, w, se, sp, hr, lt, hd, sc, so, fi, wo) 0 k (hr + 1)).1, se, sp, hr + 1, lt, hd, sc, so, fi, (partQ (n, w, se, sp, hr, lt, hd, sc, so, fi, wo) 0 k (hr + 1)).2) from good_cut1 h_S (by omega)) (Or.inl ((burnI_off (by decide)).trans h_t))) rfl rfl (by decide) (by decide) rfl (Nat.le_of_ble_eq_true rfl) ?_
    rw [hB2, show (burnI I (leadAll (n, w, se, sp, hr, lt, hd, sc, so, fi, wo) 0 k (hr + 1)) (wholeN w 0 k)) 12 = 1 from (burnI_off (by decide)).trans h_t, hQ2]
    refine ei_ifz_eq (tgt := 87) X dX10_hourOn_76 (by decide) (fun cq76 => ?_) (fun cq76 => ?_)
    · refine ei_iconst (v := 0) X dX10_hourOn_87 rfl ?_
      refine ei_istore_n X dX10_hourOn_88 rfl (Nat.le_of_ble_eq_true rfl) rfl ?_
      refine ei_iconst (v := 0) X dX10_hourOn_89 rfl ?_
      refine ei_istore_n X dX10_hourOn_90 rfl (Nat.le_of_ble_eq_true rfl) rfl ?_
      first | exact L false _ _ (n + 1) 0 se (by omega) (by omega) rfl rfl (kI_tr (kI_burn _ _ _) (kI_burn _ _ _)) (by rw [burnI_13, burnI_13, Int32.add_assoc]; rfl) | exact L true _ _ (n + 1) 0 se (by omega) (by omega) rfl rfl (kI_tr (kI_burn _ _ _) (kI_burn _ _ _)) (by rw [burnI_13, burnI_13, Int32.add_assoc]; rfl)
    · refine ei_iload_n X dX10_hourOn_79 rfl rfl ?_
      refine ei_ifz_eq (tgt := 87) X dX10_hourOn_80 (by decide) (fun cq80 => ?_) (fun cq80 => ?_)
      · refine ei_iconst (v := 0) X dX10_hourOn_87 rfl ?_
        refine ei_istore_n X dX10_hourOn_88 rfl (Nat.le_of_ble_eq_true rfl) rfl ?_
        refine ei_iconst (v := 0) X dX10_hourOn_89 rfl ?_
        refine ei_istore_n X dX10_hourOn_90 rfl (Nat.le_of_ble_eq_true rfl) rfl ?_
        first | exact L false _ _ (n + 1) 0 se (by omega) (by omega) rfl rfl (kI_tr (kI_burn _ _ _) (kI_burn _ _ _)) (by rw [burnI_13, burnI_13, Int32.add_assoc]; rfl) | exact L true _ _ (n + 1) 0 se (by omega) (by omega) rfl rfl (kI_tr (kI_burn _ _ _) (kI_burn _ _ _)) (by rw [burnI_13, burnI_13, Int32.add_assoc]; rfl)
      · refine ei_iconst (v := 1) X dX10_hourOn_83 rfl ?_
        refine ei_goto (tgt := 88) X dX10_hourOn_84 (by decide) ?_
        refine ei_istore_n X dX10_hourOn_88 rfl (Nat.le_of_ble_eq_true rfl) rfl ?_
        refine ei_iconst (v := 0) X dX10_hourOn_89 rfl ?_
        refine ei_istore_n X dX10_hourOn_90 rfl (Nat.le_of_ble_eq_true rfl) rfl ?_
        first | exact L false _ _ (n + 1) 0 se (by omega) (by omega) rfl rfl (kI_tr (kI_burn _ _ _) (kI_burn _ _ _)) (by rw [burnI_13, burnI_13, Int32.add_assoc]; rfl) | exact L true _ _ (n + 1) 0 se (by omega) (by omega) rfl rfl (kI_tr (kI_burn _ _ _) (kI_burn _ _ _)) (by rw [burnI_13, burnI_13, Int32.add_assoc]; rfl)
  · exact absurd cq14 nz
def lpCut (k : Nat) (q : St × Int32) (_ : Nat) : St × Int32 := (cutS q.1 k, q.2 + cutN q.1 k)
def lpGo (q : St × Int32) (_ : Nat) : St × Int32 := (hourS q.1 1, q.2 + if hourB q.1 then wholeN (sW q.1) 0 (sN q.1) else 0)
def lightP (S : St) (k m : Nat) : St × Int32 := if k = 0 then itr lpGo (S, 0) 0 m else itr (lpCut k) (S, 0) 0 m
abbrev lightF (S : St) (k m : Nat) : Int32 := (lightP S k m).2
set_option maxRecDepth 100000 in
set_option maxHeartbeats 4000000 in
theorem ct_X10_goHours_cut (n : Nat) (w se sp hr lt hd sc : Int32) (so fi wo : Nat → Int32) (I : Nat → Int32) (A : Nat → Nat → Int32) (B : Nat → Nat → Int64) (K : Value) (k m : Nat) (h_k1 : 1 ≤ k) (h_k : k < n) (h_S : Good (n, w, se, sp, hr, lt, hd, sc, so, fi, wo)) (h_t : I 12 = 1) (h_c : I 11 = nI k) (h_g : I 13 = 0) (h_m : m < 1000) : e_Ct yX10_goHours cX10_goHours 3 none 6 [.ref 0, .int (nI m)] (mH (n, w, se, sp, hr, lt, hd, sc, so, fi, wo) (I, A, B, K)) (fun r h => r = none ∧ ∃ J, kI I J ∧ J 13 = (itr (lpCut k) ((n, w, se, sp, hr, lt, hd, sc, so, fi, wo), 0) 0 m).2 ∧ h = mH (itr (lpCut k) ((n, w, se, sp, hr, lt, hd, sc, so, fi, wo), 0) 0 m).1 (J, A, B, K)) := by
  refine e_open RX10 rfl (by decide +kernel) rfl (fun _ => Nat.le_of_ble_eq_true rfl) (fun x X F => ?_)
  have L : ∀ (c j : Nat) (w2 se2 hr2 g : Int32) (r J : Nat → Int32), m - j < c → j < 1000 → itr (lpCut k) ((n, w, se, sp, hr, lt, hd, sc, so, fi, wo), 0) 0 m = itr (lpCut k) ((n, w2, se2, sp, hr2, lt, hd, sc, so, fi, r), g) j (m - j) → Good (n, w2, se2, sp, hr2, lt, hd, sc, so, fi, r) → kI I J → J 13 = g → e_E x 2 [some (.ref 0), some (.int (nI m)), some (.int (nI j))] [] (mH (n, w2, se2, sp, hr2, lt, hd, sc, so, fi, r) (J, A, B, K)) := by
    intro c
    induction c with
    | zero => intro j w2 se2 hr2 g r J hk; exact absurd hk (Nat.not_lt_zero _)
    | succ c ih =>
      intro j w2 se2 hr2 g r J hk hj hv hg hJ h13
      refine ei_iload_n X dX10_goHours_2 rfl rfl ?_
      refine ei_iload_n X dX10_goHours_3 rfl rfl ?_
      refine ei_icmpn_ge (tgt := 18) X dX10_goHours_4 (by decide) (by first | omega | assumption) (by first | omega | assumption) (fun cq4 => ?_) (fun cq4 => ?_)
      · refine ei_vreturn X F dX10_goHours_18 ?_
        exact ⟨rfl, J, hJ, by rw [hv, itr_ge _ _ cq4, h13], by rw [hv, itr_ge _ _ cq4]⟩
      · refine ei_aload_n X dX10_goHours_7 rfl rfl ?_
        refine ei_callI X ml_RX10_134 dX10_goHours_8 (ct_X10_hourOn_cut _ _ _ _ _ _ _ _ _ _ _ _ _ _ _ k h_k1 h_k hg ((hJ 12 (by decide)).trans h_t) ((hJ 11 (by decide)).trans h_c)) rfl rfl (by decide) (by decide) rfl (Nat.le_of_ble_eq_true rfl) (fun r h hp => ?_)
        obtain ⟨b, J2, rfl, hJ2, hJg, rfl⟩ := hp
        refine ei_pop X dX10_goHours_11 rfl ?_
        refine ei_iinc_n X dX10_goHours_12 rfl rfl ?_
        refine ei_goto (tgt := 2) X dX10_goHours_15 (by decide) ?_
        exact ih (j + 1) _ _ _ _ _ _ (by omega) (by omega) (by rw [hv, itr_lt _ _ (by omega)]; rfl) (good_cut hg (by have := h_S.1; simp only [sN, sW, sE, sP, sH, sL, sD, sC, sO, sG, sR] at this; omega)) (kI_tr hJ hJ2) (by rw [hJg, h13])
  refine ei_iconst (v := 0) X dX10_goHours_0 rfl ?_
  refine ei_istore_n X dX10_goHours_1 rfl (Nat.le_of_ble_eq_true rfl) rfl ?_
  exact L (m + 1) 0 w se hr 0 wo I (by omega) (by omega) rfl h_S (kI_rf I) h_g
set_option maxRecDepth 100000 in
set_option maxHeartbeats 4000000 in
theorem ct_X10_goHours_g0 (n : Nat) (w se sp hr lt hd sc : Int32) (so fi wo : Nat → Int32) (I : Nat → Int32) (A : Nat → Nat → Int32) (B : Nat → Nat → Int64) (K : Value) (m : Nat) (h_S : Good (n, w, se, sp, hr, lt, hd, sc, so, fi, wo)) (h_t : I 12 = 1) (h_c : I 11 = 0) (h_g : I 13 = 0) (h_m : m < 1000) : e_Ct yX10_goHours cX10_goHours 3 none 6 [.ref 0, .int (nI m)] (mH (n, w, se, sp, hr, lt, hd, sc, so, fi, wo) (I, A, B, K)) (fun r h => r = none ∧ ∃ J, kI I J ∧ J 13 = (itr lpGo ((n, w, se, sp, hr, lt, hd, sc, so, fi, wo), 0) 0 m).2 ∧ h = mH (itr lpGo ((n, w, se, sp, hr, lt, hd, sc, so, fi, wo), 0) 0 m).1 (J, A, B, K)) := by
  refine e_open RX10 rfl (by decide +kernel) rfl (fun _ => Nat.le_of_ble_eq_true rfl) (fun x X F => ?_)
  have L : ∀ (c j : Nat) (w2 se2 hr2 lt2 g : Int32) (r J : Nat → Int32), m - j < c → j < 1000 → itr lpGo ((n, w, se, sp, hr, lt, hd, sc, so, fi, wo), 0) 0 m = itr lpGo ((n, w2, se2, sp, hr2, lt2, hd, sc, so, fi, r), g) j (m - j) → Good (n, w2, se2, sp, hr2, lt2, hd, sc, so, fi, r) → kI I J → J 13 = g → e_E x 2 [some (.ref 0), some (.int (nI m)), some (.int (nI j))] [] (mH (n, w2, se2, sp, hr2, lt2, hd, sc, so, fi, r) (J, A, B, K)) := by
    intro c
    induction c with
    | zero => intro j w2 se2 hr2 lt2 g r J hk; exact absurd hk (Nat.not_lt_zero _)
    | succ c ih =>
      intro j w2 se2 hr2 lt2 g r J hk hj hv hg hJ h13
      have j12 : J 12 = 1 := (hJ 12 (by decide)).trans h_t
      have j11 : J 11 = 0 := (hJ 11 (by decide)).trans h_c
      refine ei_iload_n X dX10_goHours_2 rfl rfl ?_
      refine ei_iload_n X dX10_goHours_3 rfl rfl ?_
      refine ei_icmpn_ge (tgt := 18) X dX10_goHours_4 (by decide) (by first | omega | assumption) (by first | omega | assumption) (fun cq4 => ?_) (fun cq4 => ?_)
      · refine ei_vreturn X F dX10_goHours_18 ?_
        exact ⟨rfl, J, hJ, by rw [hv, itr_ge _ _ cq4, h13], by rw [hv, itr_ge _ _ cq4]⟩
      · refine ei_aload_n X dX10_goHours_7 rfl rfl ?_
        refine ei_callI1 X ml_RX10_134 dX10_goHours_8 (ct_X10_hourOn _ _ _ _ _ _ _ _ _ _ _ _ _ _ _ hg (Or.inl j12) j11) rfl rfl (by decide) (by decide) rfl (Nat.le_of_ble_eq_true rfl) ?_
        rw [j12]
        refine ei_pop X dX10_goHours_11 rfl ?_
        refine ei_iinc_n X dX10_goHours_12 rfl rfl ?_
        refine ei_goto (tgt := 2) X dX10_goHours_15 (by decide) ?_
        exact ih (j + 1) _ _ _ _ _ _ _ (by omega) (by omega) (by rw [hv, itr_lt _ _ (by omega)]; rfl) (good_hour hg (Or.inl rfl)) (kI_tr hJ (kI_burn _ _ _)) (by rw [burnI_13, h13])
  refine ei_iconst (v := 0) X dX10_goHours_0 rfl ?_
  refine ei_istore_n X dX10_goHours_1 rfl (Nat.le_of_ble_eq_true rfl) rfl ?_
  exact L (m + 1) 0 w se hr lt 0 wo I (by omega) (by omega) rfl h_S (kI_rf I) h_g
set_option maxRecDepth 100000 in
set_option maxHeartbeats 4000000 in
theorem ct_X10_lightOf (n : Nat) (w se sp hr lt hd sc : Int32) (so fi wo : Nat → Int32) (I : Nat → Int32) (A : Nat → Nat → Int32) (B : Nat → Nat → Int64) (K : Value) (k m : Nat) (h_k : k = 0 ∨ k < n) (h_m : m < 1000) (h_S : Good (n, w, se, sp, hr, lt, hd, sc, so, fi, wo)) (h_M : mI (I, A, B, K)) : e_Ct yX10_lightOf cX10_lightOf 3 (some .int) 7 [.ref 0, .int (nI k), .int (nI m)] (mH (n, w, se, sp, hr, lt, hd, sc, so, fi, wo) (I, A, B, K)) (mP (some (.int (lightF (n, w, se, sp, hr, lt, hd, sc, so, fi, wo) k m))) (n, w, se, sp, hr, lt, hd, sc, so, fi, wo) (I, A, B, K)) := by
  refine e_open RX10 rfl (by decide +kernel) rfl (fun _ => Nat.le_of_ble_eq_true rfl) (fun x X F => ?_)
  obtain ⟨i11, i12⟩ := h_M
  simp only at i11 i12
  have D : ∀ (S2 : St) (J : Nat → Int32), J 13 = lightF (n, w, se, sp, hr, lt, hd, sc, so, fi, wo) k m → (∀ i, i = 12 ∨ i = 30 → J i = I i) → e_E x 19 [some (.ref 0), some (.int (nI k)), some (.int (nI m))] [] (mH S2 (J, updA A 13 (encF (n, w, se, sp, hr, lt, hd, sc, so, fi, wo)), B, .ref 13)) := by
    intro S2 J h13 hJ
    obtain ⟨n3, w3, se3, sp3, hr3, lt3, hd3, sc3, so3, fi3, wo3⟩ := S2
    refine ei_aload_n X dX10_lightOf_19 rfl rfl ?_
    refine ei_callI X ml_RX10_231 dX10_lightOf_20 (ct_X10_again _ _ _ _ _ _ _ _ _ _ _ n w se sp hr lt hd sc so fi wo _ _ _ _ updA_on) rfl rfl (by decide) (by decide) rfl (Nat.le_of_ble_eq_true rfl) (fun r h2 hp => ?_)
    obtain ⟨rfl, J20, h20, rfl⟩ := hp
    refine ei_aload_n X dX10_lightOf_23 rfl rfl ?_
    refine ei_iconst (v := 0) X dX10_lightOf_24 rfl ?_
    refine ei_puti X fp_RX10_125 dX10_lightOf_25 rfl (Nat.le_of_ble_eq_true rfl) (pm_11 _ _ _ _ _ _ _ _ _ _ _ _ _ _ _ _) ?_
    refine ei_aload_n X dX10_lightOf_28 rfl rfl ?_
    refine ei_getf X fl_RX10_116 dX10_lightOf_29 rfl rfl ?_
    refine ei_ireturn X F dX10_lightOf_32 ?_
    exact ⟨by rw [pk_un (by decide), h20 13 (by decide) (by decide), h13], (upd J20 11 0, updA A 13 (encF (n, w, se, sp, hr, lt, hd, sc, so, fi, wo)), B, .ref 13), kM_13 (fun i hi => by rcases hi with h | h | h; (· subst h; rw [pk_us, i11]); (· subst h; rw [pk_un (by decide), h20 12 (by decide) (by decide)]; exact hJ 12 (Or.inl rfl)); (· subst h; rw [pk_un (by decide), h20 30 (by decide) (by decide)]; exact hJ 30 (Or.inr rfl))), rfl⟩
  refine ei_aload_n X dX10_lightOf_0 rfl rfl ?_
  refine ei_iload_n X dX10_lightOf_1 rfl rfl ?_
  refine ei_puti X fp_RX10_125 dX10_lightOf_2 rfl (Nat.le_of_ble_eq_true rfl) (pm_11 _ _ _ _ _ _ _ _ _ _ _ _ _ _ _ _) ?_
  refine ei_aload_n X dX10_lightOf_5 rfl rfl ?_
  refine ei_iconst (v := 0) X dX10_lightOf_6 rfl ?_
  refine ei_puti X fp_RX10_116 dX10_lightOf_7 rfl (Nat.le_of_ble_eq_true rfl) (pm_13 _ _ _ _ _ _ _ _ _ _ _ _ _ _ _ _) ?_
  refine ei_aload_n X dX10_lightOf_10 rfl rfl ?_
  refine ei_callI X ml_RX10_225 dX10_lightOf_11 (ct_X10_think _ _ _ _ _ _ _ _ _ _ _ _ _ _ _) rfl rfl (by decide) (by decide) rfl (Nat.le_of_ble_eq_true rfl) (fun r h2 hp => ?_)
  obtain ⟨rfl, J11, h11, rfl⟩ := hp
  refine ei_aload_n X dX10_lightOf_14 rfl rfl ?_
  refine ei_iload_n X dX10_lightOf_15 rfl rfl ?_
  have e11 : J11 11 = nI k := (by rw [h11 11 (by decide) (by decide), pk_un (by decide), pk_us])
  have e12 : J11 12 = 1 := (by rw [h11 12 (by decide) (by decide), pk_un (by decide), pk_un (by decide)]; exact i12)
  have e13 : J11 13 = 0 := (by rw [h11 13 (by decide) (by decide), pk_us])
  have eo : ∀ i, i = 12 ∨ i = 30 → J11 i = I i := (fun i hi => by rw [h11 i (by omega) (by omega), pk_un (by omega), pk_un (by omega)])
  by_cases k0 : k = 0
  · (have e110 : J11 11 = 0 := (by rw [e11, k0]; rfl)); refine ei_callI X ml_RX10_204 dX10_lightOf_16 (ct_X10_goHours_g0 _ _ _ _ _ _ _ _ _ _ _ _ _ _ _ m h_S e12 e110 e13 h_m) rfl rfl (by decide) (by decide) rfl (Nat.le_of_ble_eq_true rfl) (fun r h hp => ?_); obtain ⟨rfl, J2, hJ2, hg2, rfl⟩ := hp; exact D _ J2 (by rw [hg2]; unfold lightF lightP; rw [if_pos k0]) (fun i hi => (hJ2 i (by omega)).trans (eo i hi))
  · refine ei_callI X ml_RX10_204 dX10_lightOf_16 (ct_X10_goHours_cut _ _ _ _ _ _ _ _ _ _ _ _ _ _ _ k m (by omega) (by omega) h_S e12 e11 e13 h_m) rfl rfl (by decide) (by decide) rfl (Nat.le_of_ble_eq_true rfl) (fun r h hp => ?_); obtain ⟨rfl, J2, hJ2, hg2, rfl⟩ := hp; exact D _ J2 (by rw [hg2]; unfold lightF lightP; rw [if_neg k0]) (fun i hi => (hJ2 i (by omega)).trans (eo i hi))

