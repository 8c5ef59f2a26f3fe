def whatS (S : St) (z : Sh) (b : Nat) : Int32 := itr (fun a k => if wornRowF (sN S, sW S, sE S, sP S, sH S, sL S, sD S, sC S, upd (sO S) b (nI k), sG S, sR S) z b 0 then a ||| bitI k else a) 0 0 8
def whatG (S : St) (z : Sh) (b : Nat) : Int32 := itr (fun a k => if wornRowF (sN S, sW S, sE S, sP S, sH S, sL S, sD S, sC S, sO S, upd (sG S) b (nI k), sR S) z b 0 then a ||| bitI k else a) 0 0 10
def whatF (S : St) (Z : Nat → Sh) (d b what : Int32) : Int32 :=
  if hasF (sN S) b = true ∧ inI what 0 1 = true then (if wrongRowF Z d = 0 then (if what = 0 then whatS S (Z (nc d)) (nc b) else whatG S (Z (nc d)) (nc b)) else wrongRowF Z d) else -1
theorem good_O (n : Nat) (w se sp hr lt hd sc : Int32) (so fi wo : Nat → Int32) (h : Good (n, w, se, sp, hr, lt, hd, sc, so, fi, wo)) {b : Nat} {v : Int32} (hv : Gd1 v 7) : Good (n, w, se, sp, hr, lt, hd, sc, upd so b v, fi, wo) := ⟨h.1, gdV_upd h.2.1 hv, h.2.2⟩
theorem good_G (n : Nat) (w se sp hr lt hd sc : Int32) (so fi wo : Nat → Int32) (h : Good (n, w, se, sp, hr, lt, hd, sc, so, fi, wo)) {b : Nat} {v : Int32} (hv : Gd1 v 9) : Good (n, w, se, sp, hr, lt, hd, sc, so, upd fi b v, wo) := ⟨h.1, h.2.1, gdV_upd h.2.2.1 hv, h.2.2.2⟩
theorem good_R (n : Nat) (w se sp hr lt hd sc : Int32) (so fi wo : Nat → Int32) (h : Good (n, w, se, sp, hr, lt, hd, sc, so, fi, wo)) {b : Nat} {v : Int32} (hv : Gd1 v 999) : Good (n, w, se, sp, hr, lt, hd, sc, so, fi, upd wo b v) := ⟨h.1, h.2.1, h.2.2.1, gdV_upd h.2.2.2.1 hv, h.2.2.2.2⟩
theorem gd_nI {k m : Nat} (h : k ≤ m) (hm : m < 1000) : Gd1 (nI k) m := ⟨by rw [nI_toInt (by omega)]; omega, by rw [nI_toInt (by omega)]; omega⟩
set_option maxRecDepth 100000 in
set_option maxHeartbeats 4000000 in
theorem ct_X10_whatIs (n : Nat) (w se sp hr lt hd sc : Int32) (so fi wo : Nat → Int32) (I : Nat → Int32) (A : Nat → Nat → Int32) (B : Nat → Nat → Int64) (K : Value) (Z : Nat → Sh) (d b what : Int32) (h_S : Good (n, w, se, sp, hr, lt, hd, sc, so, fi, wo)) (h_M : mI (I, A, B, K)) (h_R : RS Z (I, A, B, K)) : e_Ct yX10_whatIs cX10_whatIs 7 (some .int) 8 [.ref 0, .int d, .int b, .int what] (mH (n, w, se, sp, hr, lt, hd, sc, so, fi, wo) (I, A, B, K)) (mP (some (.int (whatF (n, w, se, sp, hr, lt, hd, sc, so, fi, wo) Z d b what))) (n, w, se, sp, hr, lt, hd, sc, so, fi, wo) (I, A, B, K)) := by
  refine e_open RX10 rfl (by decide +kernel) rfl (fun _ => Nat.le_of_ble_eq_true rfl) (fun x X F => ?_)
  obtain ⟨i11, i12⟩ := h_M
  simp only at i11 i12
  have hn : n ≤ 10 := h_S.1
  have hR := RS_20 _ _ _ _ h_R 0
  have L0 : ∀ (dk bk : Nat), dk < 8 → bk < 10 → d = nI dk → b = nI bk → what = 0 → zH (Z dk) = 2 → whatF (n, w, se, sp, hr, lt, hd, sc, so, fi, wo) Z d b what = whatS (n, w, se, sp, hr, lt, hd, sc, so, fi, wo) (Z dk) bk → ∀ (m k : Nat) (a : Int32) (J : Nat → Int32), 8 - k < m → k ≤ 8 → (∀ k, k = 11 ∨ k = 12 ∨ k = 30 → J k = I k) → whatS (n, w, se, sp, hr, lt, hd, sc, so, fi, wo) (Z dk) bk = itr (fun a k => if wornRowF (n, w, se, sp, hr, lt, hd, sc, upd so bk (nI k), fi, wo) (Z dk) bk 0 then a ||| bitI k else a) a k (8 - k) → e_E x 52 [some (.ref 0), some (.int (nI dk)), some (.int (nI bk)), some (.int 0), none, some (.int a), some (.int (nI k))] [] (mH (n, w, se, sp, hr, lt, hd, sc, so, fi, wo) (J, updA A 13 (encF (n, w, se, sp, hr, lt, hd, sc, so, fi, wo)), B, .ref 13)) := by
    intro dk bk hdk hbk hdd hb hwh hz hF m
    induction m with
    | zero => intro k a J hk; exact absurd hk (Nat.not_lt_zero _)
    | succ m ih =>
      intro k a J hk hk2 hJ hv
      have hRJ : RS Z (J, updA A 13 (encF (n, w, se, sp, hr, lt, hd, sc, so, fi, wo)), B, .ref 13) := RS_k h_R (kM_13 hJ)
      refine ei_iload X dX10_whatIs_52 rfl ?_
      refine ei_iload_n X dX10_whatIs_54 rfl rfl ?_
      refine ei_if_ne (tgt := 63) X dX10_whatIs_55 (by decide) (fun cq55 => ?_) (fun cq55 => ?_)
      · first | exact absurd cq55 (by decide) | exact absurd (by decide) cq55
      · refine ei_bipush (v := nI 8) X dX10_whatIs_58 rfl ?_
        refine ei_goto (tgt := 65) X dX10_whatIs_60 (by decide) ?_
        refine ei_icmpn_ge (tgt := 140) X dX10_whatIs_65 (by decide) (by first | omega | assumption) (by first | omega | assumption) (fun cq65 => ?_) (fun cq65 => ?_)
        · refine ei_iload X dX10_whatIs_140 rfl ?_
          refine ei_ireturn X F dX10_whatIs_142 ?_
          exact ⟨by rw [hF, hv, itr_ge _ _ (by omega)], _, kM_13 hJ, rfl⟩
        · refine ei_aload_n X dX10_whatIs_68 rfl rfl ?_
          refine ei_getf X fl_RX10_7 dX10_whatIs_69 rfl rfl ?_
          refine ei_iload_n X dX10_whatIs_72 rfl rfl ?_
          refine ei_iload_n X dX10_whatIs_73 rfl rfl ?_
          refine ei_if_ne (tgt := 82) X dX10_whatIs_74 (by decide) (fun cq74 => ?_) (fun cq74 => ?_)
          · first | exact absurd cq74 (by decide) | exact absurd (by decide) cq74
          · refine ei_iload X dX10_whatIs_77 rfl ?_
            refine ei_goto (tgt := 88) X dX10_whatIs_79 (by decide) ?_
            refine ei_iastore_n X dX10_whatIs_88 rfl (by first | omega | assumption) (by decide) (pm_r1 _ _ _ _ _ _ _ _ _ _ _ _ _ _ _ _) ?_
            refine ei_aload_n X dX10_whatIs_89 rfl rfl ?_
            refine ei_getf X fl_RX10_13 dX10_whatIs_90 rfl rfl ?_
            refine ei_iload_n X dX10_whatIs_93 rfl rfl ?_
            refine ei_iload_n X dX10_whatIs_94 rfl rfl ?_
            refine ei_iconst (v := 1) X dX10_whatIs_95 rfl ?_
            refine ei_icmp_ne (tgt := 104) X dX10_whatIs_96 (by decide) (fun cq96 => ?_) (fun cq96 => ?_)
            · refine ei_aload_n X dX10_whatIs_104 rfl rfl ?_
              refine ei_getf X fl_RX10_13 dX10_whatIs_105 rfl rfl ?_
              refine ei_iload_n X dX10_whatIs_108 rfl rfl ?_
              refine ei_iaload_n X dX10_whatIs_109 rfl (by first | omega | assumption) (by decide) ?_
              refine ei_iastore_n X dX10_whatIs_110 rfl (by first | omega | assumption) (by decide) (pm_r2 _ _ _ _ _ _ _ _ _ _ _ _ _ _ _ _) ?_
              rw [upd_id]
              refine ei_iload X dX10_whatIs_111 rfl ?_
              refine ei_aload_n X dX10_whatIs_113 rfl rfl ?_
              refine ei_iload_n X dX10_whatIs_114 rfl rfl ?_
              refine ei_iload_n X dX10_whatIs_115 rfl rfl ?_
              refine ei_iconst (v := 0) X dX10_whatIs_116 rfl ?_
              refine ei_callI X ml_RX10_350 dX10_whatIs_117 (ct_X10_isWornRow _ _ _ _ _ _ _ _ _ _ _ n w se sp hr lt hd sc so fi wo _ _ _ _ Z dk bk 0 hdk hbk (by omega) hz hRJ (good_O _ _ _ _ _ _ _ _ _ _ _ h_S (gd_nI (m := 7) (by omega) (by omega))) ((hJ 12 (by omega)).trans i12) ((hJ 11 (by omega)).trans i11) updA_on) rfl rfl (by decide) (by decide) rfl (Nat.le_of_ble_eq_true rfl) (fun r h hp => ?_)
              obtain ⟨rfl, J2, hJ2, rfl⟩ := hp
              refine ei_ifz_eq (tgt := 130) X dX10_whatIs_120 (by decide) (fun cq120 => ?_) (fun cq120 => ?_)
              · refine ei_iconst (v := 0) X dX10_whatIs_130 rfl ?_
                refine ei_ior X dX10_whatIs_131 ?_
                refine ei_istore X dX10_whatIs_132 (Nat.le_of_ble_eq_true rfl) rfl ?_
                refine ei_iinc_n X dX10_whatIs_134 rfl rfl ?_
                refine ei_goto (tgt := 52) X dX10_whatIs_137 (by decide) ?_
                rw [or_0]
                exact ih (k + 1) a J2 (by omega) (by omega) (fun i hi => (hJ2 i (by omega) (by omega) (by omega)).trans (hJ i hi)) (by rw [hv, itr_lt _ _ (by omega), if_neg (by rw [cq120]; exact Bool.false_ne_true)])
              · refine ei_iconst (v := 1) X dX10_whatIs_123 rfl ?_
                refine ei_iload X dX10_whatIs_124 rfl ?_
                refine ei_ishl X dX10_whatIs_126 ?_
                refine ei_goto (tgt := 131) X dX10_whatIs_127 (by decide) ?_
                refine ei_ior X dX10_whatIs_131 ?_
                refine ei_istore X dX10_whatIs_132 (Nat.le_of_ble_eq_true rfl) rfl ?_
                refine ei_iinc_n X dX10_whatIs_134 rfl rfl ?_
                refine ei_goto (tgt := 52) X dX10_whatIs_137 (by decide) ?_
                exact ih (k + 1) _ J2 (by omega) (by omega) (fun i hi => (hJ2 i (by omega) (by omega) (by omega)).trans (hJ i hi)) (by rw [hv, itr_lt _ _ (by omega), if_pos cq120])
            · exact absurd cq96 (by decide)
  have L1 : ∀ (dk bk : Nat), dk < 8 → bk < 10 → d = nI dk → b = nI bk → what = 1 → zH (Z dk) = 2 → whatF (n, w, se, sp, hr, lt, hd, sc, so, fi, wo) Z d b what = whatG (n, w, se, sp, hr, lt, hd, sc, so, fi, wo) (Z dk) bk → ∀ (m k : Nat) (a : Int32) (J : Nat → Int32), 10 - k < m → k ≤ 10 → (∀ k, k = 11 ∨ k = 12 ∨ k = 30 → J k = I k) → whatG (n, w, se, sp, hr, lt, hd, sc, so, fi, wo) (Z dk) bk = itr (fun a k => if wornRowF (n, w, se, sp, hr, lt, hd, sc, so, upd fi bk (nI k), wo) (Z dk) bk 0 then a ||| bitI k else a) a k (10 - k) → e_E x 52 [some (.ref 0), some (.int (nI dk)), some (.int (nI bk)), some (.int 1), none, some (.int a), some (.int (nI k))] [] (mH (n, w, se, sp, hr, lt, hd, sc, so, fi, wo) (J, updA A 13 (encF (n, w, se, sp, hr, lt, hd, sc, so, fi, wo)), B, .ref 13)) := by
    intro dk bk hdk hbk hdd hb hwh hz hF m
    induction m with
    | zero => intro k a J hk; exact absurd hk (Nat.not_lt_zero _)
    | succ m ih =>
      intro k a J hk hk2 hJ hv
      have hRJ : RS Z (J, updA A 13 (encF (n, w, se, sp, hr, lt, hd, sc, so, fi, wo)), B, .ref 13) := RS_k h_R (kM_13 hJ)
      refine ei_iload X dX10_whatIs_52 rfl ?_
      refine ei_iload_n X dX10_whatIs_54 rfl rfl ?_
      refine ei_if_ne (tgt := 63) X dX10_whatIs_55 (by decide) (fun cq55 => ?_) (fun cq55 => ?_)
      · refine ei_bipush (v := nI 10) X dX10_whatIs_63 rfl ?_
        refine ei_icmpn_ge (tgt := 140) X dX10_whatIs_65 (by decide) (by first | omega | assumption) (by first | omega | assumption) (fun cq65 => ?_) (fun cq65 => ?_)
        · refine ei_iload X dX10_whatIs_140 rfl ?_
          refine ei_ireturn X F dX10_whatIs_142 ?_
          exact ⟨by rw [hF, hv, itr_ge _ _ (by omega)], _, kM_13 hJ, rfl⟩
        · refine ei_aload_n X dX10_whatIs_68 rfl rfl ?_
          refine ei_getf X fl_RX10_7 dX10_whatIs_69 rfl rfl ?_
          refine ei_iload_n X dX10_whatIs_72 rfl rfl ?_
          refine ei_iload_n X dX10_whatIs_73 rfl rfl ?_
          refine ei_if_ne (tgt := 82) X dX10_whatIs_74 (by decide) (fun cq74 => ?_) (fun cq74 => ?_)
          · refine ei_aload_n X dX10_whatIs_82 rfl rfl ?_
            refine ei_getf X fl_RX10_7 dX10_whatIs_83 rfl rfl ?_
            refine ei_iload_n X dX10_whatIs_86 rfl rfl ?_
            refine ei_iaload_n X dX10_whatIs_87 rfl (by first | omega | assumption) (by decide) ?_
            refine ei_iastore_n X dX10_whatIs_88 rfl (by first | omega | assumption) (by decide) (pm_r1 _ _ _ _ _ _ _ _ _ _ _ _ _ _ _ _) ?_
            rw [upd_id]
            refine ei_aload_n X dX10_whatIs_89 rfl rfl ?_
            refine ei_getf X fl_RX10_13 dX10_whatIs_90 rfl rfl ?_
            refine ei_iload_n X dX10_whatIs_93 rfl rfl ?_
            refine ei_iload_n X dX10_whatIs_94 rfl rfl ?_
            refine ei_iconst (v := 1) X dX10_whatIs_95 rfl ?_
            refine ei_icmp_ne (tgt := 104) X dX10_whatIs_96 (by decide) (fun cq96 => ?_) (fun cq96 => ?_)
            · exact absurd rfl cq96
            · refine ei_iload X dX10_whatIs_99 rfl ?_
              refine ei_goto (tgt := 110) X dX10_whatIs_101 (by decide) ?_
              refine ei_iastore_n X dX10_whatIs_110 rfl (by first | omega | assumption) (by decide) (pm_r2 _ _ _ _ _ _ _ _ _ _ _ _ _ _ _ _) ?_
              refine ei_iload X dX10_whatIs_111 rfl ?_
              refine ei_aload_n X dX10_whatIs_113 rfl rfl ?_
              refine ei_iload_n X dX10_whatIs_114 rfl rfl ?_
              refine ei_iload_n X dX10_whatIs_115 rfl rfl ?_
              refine ei_iconst (v := 0) X dX10_whatIs_116 rfl ?_
              refine ei_callI X ml_RX10_350 dX10_whatIs_117 (ct_X10_isWornRow _ _ _ _ _ _ _ _ _ _ _ n w se sp hr lt hd sc so fi wo _ _ _ _ Z dk bk 0 hdk hbk (by omega) hz hRJ (good_G _ _ _ _ _ _ _ _ _ _ _ h_S (gd_nI (m := 9) (by omega) (by omega))) ((hJ 12 (by omega)).trans i12) ((hJ 11 (by omega)).trans i11) updA_on) rfl rfl (by decide) (by decide) rfl (Nat.le_of_ble_eq_true rfl) (fun r h hp => ?_)
              obtain ⟨rfl, J2, hJ2, rfl⟩ := hp
              refine ei_ifz_eq (tgt := 130) X dX10_whatIs_120 (by decide) (fun cq120 => ?_) (fun cq120 => ?_)
              · refine ei_iconst (v := 0) X dX10_whatIs_130 rfl ?_
                refine ei_ior X dX10_whatIs_131 ?_
                refine ei_istore X dX10_whatIs_132 (Nat.le_of_ble_eq_true rfl) rfl ?_
                refine ei_iinc_n X dX10_whatIs_134 rfl rfl ?_
                refine ei_goto (tgt := 52) X dX10_whatIs_137 (by decide) ?_
                rw [or_0]
                exact ih (k + 1) a J2 (by omega) (by omega) (fun i hi => (hJ2 i (by omega) (by omega) (by omega)).trans (hJ i hi)) (by rw [hv, itr_lt _ _ (by omega), if_neg (by rw [cq120]; exact Bool.false_ne_true)])
              · refine ei_iconst (v := 1) X dX10_whatIs_123 rfl ?_
                refine ei_iload X dX10_whatIs_124 rfl ?_
                refine ei_ishl X dX10_whatIs_126 ?_
                refine ei_goto (tgt := 131) X dX10_whatIs_127 (by decide) ?_
                refine ei_ior X dX10_whatIs_131 ?_
                refine ei_istore X dX10_whatIs_132 (Nat.le_of_ble_eq_true rfl) rfl ?_
                refine ei_iinc_n X dX10_whatIs_134 rfl rfl ?_
                refine ei_goto (tgt := 52) X dX10_whatIs_137 (by decide) ?_
                exact ih (k + 1) _ J2 (by omega) (by omega) (fun i hi => (hJ2 i (by omega) (by omega) (by omega)).trans (hJ i hi)) (by rw [hv, itr_lt _ _ (by omega), if_pos cq120])
          · first | exact absurd cq74 (by decide) | exact absurd (by decide) cq74
      · first | exact absurd cq55 (by decide) | exact absurd (by decide) cq55
  have E1 : ∀ (v : Int32), v < 0 → whatF (n, w, se, sp, hr, lt, hd, sc, so, fi, wo) Z d b what = v → e_E x 34 [some (.ref 0), some (.int d), some (.int b), some (.int what), some (.int v), none, none] [] (mH (n, w, se, sp, hr, lt, hd, sc, so, fi, wo) (upd I 20 0, A, B, K)) := by
    intro v hv hF
    refine ei_iload X dX10_whatIs_34 rfl ?_
    refine ei_if_ge (tgt := 42) X dX10_whatIs_36 (by decide) (fun cq36 => ?_) (fun cq36 => ?_)
    · exact absurd (Int32.lt_of_lt_of_le hv cq36) (fun z => Int32.lt_irrefl z)
    · refine ei_iload X dX10_whatIs_39 rfl ?_
      refine ei_ireturn X F dX10_whatIs_41 ?_
      exact ⟨by rw [hF], _, kM_20 _ _ _ _ 0, rfl⟩
  have E0 : ∀ (dk bk : Nat), dk < 8 → bk < n → d = nI dk → b = nI bk → (what = 0 ∨ what = 1) → zH (Z dk) = 2 → (whatF (n, w, se, sp, hr, lt, hd, sc, so, fi, wo) Z d b what = if what = 0 then whatS (n, w, se, sp, hr, lt, hd, sc, so, fi, wo) (Z dk) bk else whatG (n, w, se, sp, hr, lt, hd, sc, so, fi, wo) (Z dk) bk) → e_E x 34 [some (.ref 0), some (.int (nI dk)), some (.int (nI bk)), some (.int what), some (.int 0), none, none] [] (mH (n, w, se, sp, hr, lt, hd, sc, so, fi, wo) (upd I 20 0, A, B, K)) := by
    intro dk bk hdk hbk hdd hb hwh hz hF
    refine ei_iload X dX10_whatIs_34 rfl ?_
    refine ei_if_ge (tgt := 42) X dX10_whatIs_36 (by decide) (fun cq36 => ?_) (fun cq36 => ?_)
    · refine ei_iconst (v := 0) X dX10_whatIs_42 rfl ?_
      refine ei_istore X dX10_whatIs_43 (Nat.le_of_ble_eq_true rfl) rfl ?_
      refine ei_aload_n X dX10_whatIs_45 rfl rfl ?_
      refine ei_callI X ml_RX10_225 dX10_whatIs_46 (ct_X10_think _ _ _ _ _ _ _ _ _ _ _ _ _ _ _) rfl rfl (by decide) (by decide) rfl (Nat.le_of_ble_eq_true rfl) (fun r h2 hp => ?_)
      obtain ⟨rfl, J46, h46, rfl⟩ := hp
      refine ei_iconst (v := 0) X dX10_whatIs_49 rfl ?_
      refine ei_istore X dX10_whatIs_50 (Nat.le_of_ble_eq_true rfl) rfl ?_
      have hJ : ∀ k, k = 11 ∨ k = 12 ∨ k = 30 → J46 k = I k := (fun k hk => by rw [h46 k (by omega) (by omega), pk_un (by omega)])
      rcases hwh with rfl | rfl
      · refine ei_drop 4 ?_; exact L0 dk bk hdk (by omega) hdd hb rfl hz (by rw [hF, if_pos rfl]) 9 0 0 J46 (by omega) (by omega) hJ rfl
      · refine ei_drop 4 ?_; exact L1 dk bk hdk (by omega) hdd hb rfl hz (by rw [hF, if_neg (by decide)]) 11 0 0 J46 (by omega) (by omega) hJ rfl
    · first | exact absurd cq36 (by decide) | exact absurd (by decide) cq36
  refine ei_aload_n X dX10_whatIs_0 rfl rfl ?_
  refine ei_iconst (v := 0) X dX10_whatIs_1 rfl ?_
  refine ei_puti X fp_RX10_78 dX10_whatIs_2 rfl (Nat.le_of_ble_eq_true rfl) (pm_20 _ _ _ _ _ _ _ _ _ _ _ _ _ _ _ _) ?_
  refine ei_aload_n X dX10_whatIs_5 rfl rfl ?_
  refine ei_iload_n X dX10_whatIs_6 rfl rfl ?_
  refine ei_callI1 X ml_RX10_193 dX10_whatIs_7 (ct_X10_isBulb _ _ _ _ _ _ _ _ _ _ _ _ _ _ _ _ (by first | omega | assumption)) rfl rfl (by decide) (by decide) rfl (Nat.le_of_ble_eq_true rfl) ?_
  refine ei_ifz_eq (tgt := 31) X dX10_whatIs_10 (by decide) (fun cq10 => ?_) (fun cq10 => ?_)
  · refine ei_iconst (v := -1) X dX10_whatIs_31 rfl ?_
    refine ei_istore X dX10_whatIs_32 (Nat.le_of_ble_eq_true rfl) rfl ?_
    exact E1 (-1) (by decide) (by unfold whatF; rw [if_neg (fun z => by simp only [sN, sW, sE, sP, sH, sL, sD, sC, sO, sG, sR] at z; rw [cq10] at z; exact Bool.false_ne_true z.1)])
  · refine ei_iload_n X dX10_whatIs_13 rfl rfl ?_
    refine ei_i2l X dX10_whatIs_14 ?_
    refine ei_lconst (v := 0) X dX10_whatIs_15 rfl ?_
    refine ei_lconst (v := 1) X dX10_whatIs_16 rfl ?_
    refine ei_callT1 X ml_RX10_84 dX10_whatIs_17 (ct_X10_in _ _ _ _) rfl rfl (by decide) (by decide) (Nat.le_of_ble_eq_true rfl) ?_
    rw [in_0_1]
    refine ei_ifz_eq (tgt := 31) X dX10_whatIs_20 (by decide) (fun cq20 => ?_) (fun cq20 => ?_)
    · refine ei_iconst (v := -1) X dX10_whatIs_31 rfl ?_
      refine ei_istore X dX10_whatIs_32 (Nat.le_of_ble_eq_true rfl) rfl ?_
      exact E1 (-1) (by decide) (by unfold whatF; rw [if_neg (fun z => by rw [cq20] at z; exact Bool.false_ne_true z.2)])
    · refine ei_aload_n X dX10_whatIs_23 rfl rfl ?_
      refine ei_iload_n X dX10_whatIs_24 rfl rfl ?_
      refine ei_callI1 X ml_RX10_219 dX10_whatIs_25 (ct_X10_wrongRow _ _ _ _ _ _ _ _ _ _ _ _ _ _ _ Z _ hR) rfl rfl (by decide) (by decide) rfl (Nat.le_of_ble_eq_true rfl) ?_
      refine ei_goto (tgt := 32) X dX10_whatIs_28 (by decide) ?_
      refine ei_istore X dX10_whatIs_32 (Nat.le_of_ble_eq_true rfl) rfl ?_
      have hwF : whatF (n, w, se, sp, hr, lt, hd, sc, so, fi, wo) Z d b what = if wrongRowF Z d = 0 then (if what = 0 then whatS (n, w, se, sp, hr, lt, hd, sc, so, fi, wo) (Z (nc d)) (nc b) else whatG (n, w, se, sp, hr, lt, hd, sc, so, fi, wo) (Z (nc d)) (nc b)) else wrongRowF Z d := (by unfold whatF; rw [if_pos ⟨cq10, cq20⟩])
      by_cases w0 : wrongRowF Z d = 0
      · (obtain ⟨dk, hdk, hdd, hz⟩ := wrongRow_0 w0); (obtain ⟨bk, hbk, hb⟩ := (hasF_iff (by omega)).mp cq10); (rw [w0] at hwF ⊢); (rw [if_pos rfl, hdd, hb, nc_nI (by omega), nc_nI (by omega), ← hdd, ← hb] at hwF); (obtain ⟨a, -, ha, hwa⟩ := (inI_iff (lo := 0) (hi := 1) (by decide) (by decide)).mp cq20); (have hwh : what = 0 ∨ what = 1 := (by rcases (by omega : a = 0 ∨ a = 1) with h | h; (· left; rw [hwa, h]; rfl); (· right; rw [hwa, h]; rfl))); (have h9 := E0 dk bk hdk hbk hdd hb hwh hz hwF); (rw [← hdd, ← hb] at h9); exact h9
      · exact E1 _ (wrongRow_n.mpr w0) (by rw [hwF, if_neg w0])

