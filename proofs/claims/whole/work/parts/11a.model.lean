/-- what the reading of a statement leaves of the rows -/
def stA (A A2 : Nat → Nat → Int32) (k p : Nat) (c : Int32) : Prop := (∀ c, c ≠ 10 → c ≠ 11 → c ≠ 12 → A2 c = A c) ∧ A2 10 = upd (A 10) k (nI p) ∧ A2 11 = upd (A 11) k c ∧ ∀ j, j < 3 * k → A2 12 j = A 12 j
theorem qd_cases {z : Sh} {p : Nat} (h : 0 < ndF z p) : p + 1 ≤ qdF z p ∧ qdF z p ≤ p + 1 + ndF z p := firstN_ge _ _ _
theorem nd_le (c : Int32) : ndC c ≤ 4 := by unfold ndC; split; · omega
                                            split; · omega
                                            split; · omega
                                            split; · omega
                                            omega
set_option maxRecDepth 100000 in
set_option maxHeartbeats 1000000 in
theorem ct_X10_readStatement (n : Nat) (w se sp hr lt hd sc : Int32) (so fi wo : Nat → Int32) (I : Nat → Int32) (A : Nat → Nat → Int32) (B : Nat → Nat → Int64) (K : Value) (Z : Nat → Sh) (d p k : Nat) (h_d : d < 8) (h_z : zH (Z d) = 2) (h_R : RS Z (I, A, B, K)) (h_21 : I 21 = nI d) (h_22 : I 22 = nI p) (h_23 : I 23 = 0) (h_24 : I 24 = nI k) (h_p : p < 800) (h_k : k < 50) : e_Ct yX10_readStatement cX10_readStatement 3 none 4 [.ref 0] (mH (n, w, se, sp, hr, lt, hd, sc, so, fi, wo) (I, A, B, K)) (fun r h => r = none ∧ ∃ J A2, J 22 = nI (if okS (Z d) p = true then nxF (Z d) p else bdF (Z d) p) ∧ J 23 = bz (!okS (Z d) p) ∧ J 24 = nI (k + 1) ∧ (∀ j, j ≠ 22 → j ≠ 23 → j ≠ 24 → J j = I j) ∧ stA A A2 k p (hereF (Z d) p) ∧ (okS (Z d) p = true → ToldOk (hereF (Z d) p) (numA (Z d) p) (numB (Z d) p) (numE (Z d) p) (A2 12) (3 * k)) ∧ h = mH (n, w, se, sp, hr, lt, hd, sc, so, fi, wo) (J, A2, B, K)) := by
  refine e_open RX10 rfl (by decide +kernel) rfl (fun _ => Nat.le_of_ble_eq_true rfl) (fun x X F => ?_)
  have hnl := nd_le (hereF (Z d) p)
  have E111 : ∀ (bd : Bool) (q : Nat) (J : Nat → Int32) (A2 : Nat → Nat → Int32), q < 1000 → J 22 = nI q → J 23 = bz bd → J 24 = nI k → (∀ j, j ≠ 22 → j ≠ 23 → j ≠ 24 → J j = I j) → stA A A2 k p (hereF (Z d) p) → (okS (Z d) p = true → ToldOk (hereF (Z d) p) (numA (Z d) p) (numB (Z d) p) (numE (Z d) p) (A2 12) (3 * k)) → okS (Z d) p = !bd → (if bd = true then q else q + 1) = (if okS (Z d) p = true then nxF (Z d) p else bdF (Z d) p) → e_E x 111 [some (.ref 0), some (.int (nI k)), some (.int (hereF (Z d) p))] [] (mH (n, w, se, sp, hr, lt, hd, sc, so, fi, wo) (J, A2, B, K)) := by
    intro bd q J A2 hq j22 j23 j24 jo hA hT hok hpl
    refine ei_aload_n X dX10_readStatement_111 rfl rfl ?_
    refine ei_dup X dX10_readStatement_112 rfl ?_
    refine ei_getf X fl_RX10_162 dX10_readStatement_113 rfl rfl ?_
    rw [j22]
    refine ei_aload_n X dX10_readStatement_116 rfl rfl ?_
    refine ei_getf X fl_RX10_168 dX10_readStatement_117 rfl rfl ?_
    rw [j23]
    refine ei_ifz_eq (tgt := 127) X dX10_readStatement_120 (by decide) (fun cq120 => ?_) (fun cq120 => ?_)
    · refine ei_iconst (v := nI 1) X dX10_readStatement_127 rfl ?_
      refine ei_iadd X dX10_readStatement_128 ?_
      rw [nI_add]
      refine ei_puti X fp_RX10_162 dX10_readStatement_129 rfl (Nat.le_of_ble_eq_true rfl) (pm_22 _ _ _ _ _ _ _ _ _ _ _ _ _ _ _ _) ?_
      refine ei_aload_n X dX10_readStatement_132 rfl rfl ?_
      refine ei_dup X dX10_readStatement_133 rfl ?_
      refine ei_getf X fl_RX10_183 dX10_readStatement_134 rfl rfl ?_
      rw [pk_un (show (24 : Nat) ≠ 22 by decide), j24]
      refine ei_iconst (v := nI 1) X dX10_readStatement_137 rfl ?_
      refine ei_iadd X dX10_readStatement_138 ?_
      rw [nI_add]
      refine ei_puti X fp_RX10_183 dX10_readStatement_139 rfl (Nat.le_of_ble_eq_true rfl) (pm_24 _ _ _ _ _ _ _ _ _ _ _ _ _ _ _ _) ?_
      refine ei_vreturn X F dX10_readStatement_142 ?_
      exact ⟨rfl, _, A2, by rw [pk_un (show (22 : Nat) ≠ 24 by decide), pk_us, ← hpl, cq120]; rfl, by rw [pk_un (show (23 : Nat) ≠ 24 by decide), pk_un (show (23 : Nat) ≠ 22 by decide), j23, hok, Bool.not_not], pk_us, fun j h1 h2 h3 => by rw [pk_un h3, pk_un h1]; exact jo j h1 h2 h3, hA, hT, rfl⟩
    · refine ei_iconst (v := nI 0) X dX10_readStatement_123 rfl ?_
      refine ei_goto (tgt := 128) X dX10_readStatement_124 (by decide) ?_
      refine ei_iadd X dX10_readStatement_128 ?_
      rw [nI_add]
      refine ei_puti X fp_RX10_162 dX10_readStatement_129 rfl (Nat.le_of_ble_eq_true rfl) (pm_22 _ _ _ _ _ _ _ _ _ _ _ _ _ _ _ _) ?_
      refine ei_aload_n X dX10_readStatement_132 rfl rfl ?_
      refine ei_dup X dX10_readStatement_133 rfl ?_
      refine ei_getf X fl_RX10_183 dX10_readStatement_134 rfl rfl ?_
      rw [pk_un (show (24 : Nat) ≠ 22 by decide), j24]
      refine ei_iconst (v := nI 1) X dX10_readStatement_137 rfl ?_
      refine ei_iadd X dX10_readStatement_138 ?_
      rw [nI_add]
      refine ei_puti X fp_RX10_183 dX10_readStatement_139 rfl (Nat.le_of_ble_eq_true rfl) (pm_24 _ _ _ _ _ _ _ _ _ _ _ _ _ _ _ _) ?_
      refine ei_vreturn X F dX10_readStatement_142 ?_
      exact ⟨rfl, _, A2, by rw [pk_un (show (22 : Nat) ≠ 24 by decide), pk_us, ← hpl, cq120]; rfl, by rw [pk_un (show (23 : Nat) ≠ 24 by decide), pk_un (show (23 : Nat) ≠ 22 by decide), j23, hok, Bool.not_not], pk_us, fun j h1 h2 h3 => by rw [pk_un h3, pk_un h1]; exact jo j h1 h2 h3, hA, hT, rfl⟩
  have E86 : ∀ (bd : Bool) (q : Nat) (J : Nat → Int32) (A2 : Nat → Nat → Int32), q < 990 → J 22 = nI q → J 23 = bz bd → J 24 = nI k → (∀ j, j ≠ 22 → j ≠ 23 → j ≠ 24 → J j = I j) → stA A A2 k p (hereF (Z d) p) → (bd = false → ToldOk (hereF (Z d) p) (numA (Z d) p) (numB (Z d) p) (numE (Z d) p) (A2 12) (3 * k)) → (bd = true → okS (Z d) p = false ∧ bdF (Z d) p = q) → (bd = false → 0 < ndF (Z d) p ∧ qdF (Z d) p = q ∧ q = p + 1 + ndF (Z d) p) → e_E x 86 [some (.ref 0), some (.int (nI k)), some (.int (hereF (Z d) p))] [] (mH (n, w, se, sp, hr, lt, hd, sc, so, fi, wo) (J, A2, B, K)) := by
    intro bd q J A2 hq j22 j23 j24 jo hA hT hbt hbf
    refine ei_aload_n X dX10_readStatement_86 rfl rfl ?_
    refine ei_aload_n X dX10_readStatement_87 rfl rfl ?_
    refine ei_getf X fl_RX10_168 dX10_readStatement_88 rfl rfl ?_
    rw [j23]
    refine ei_ifz_ne (tgt := 103) X dX10_readStatement_91 (by decide) (fun cq91 => ?_) (fun cq91 => ?_)
    · refine ei_iconst (v := 1) X dX10_readStatement_103 rfl ?_
      refine ei_goto (tgt := 108) X dX10_readStatement_104 (by decide) ?_
      refine ei_putz X fp_RX10_168 dX10_readStatement_108 rfl (Nat.le_of_ble_eq_true rfl) (by decide) (pm_23 _ _ _ _ _ _ _ _ _ _ _ _ _ _ _ _) ?_
      obtain ⟨y1, y2⟩ := hbt cq91
      exact E111 true q _ A2 (by omega) ((pk_un (by decide)).trans j22) pk_us ((pk_un (by decide)).trans j24) (fun j h1 h2 h3 => by rw [pk_un h2]; exact jo j h1 h2 h3) hA (fun z => absurd (y1.symm.trans z) Bool.false_ne_true) y1 (by rw [y1, if_pos rfl, if_neg Bool.false_ne_true, y2])
    · refine ei_aload_n X dX10_readStatement_94 rfl rfl ?_
      refine ei_callI1 X ml_RX10_172 dX10_readStatement_95 (ct_X10_here _ _ _ _ _ _ _ _ _ _ _ _ _ _ _ Z d q h_d h_z (RS_A h_R (fun c h1 h2 => hA.1 c (by omega) (by omega) (by omega))) ((jo 21 (by decide) (by decide) (by decide)).trans h_21) j22 (by omega)) rfl rfl (by decide) (by decide) rfl (Nat.le_of_ble_eq_true rfl) ?_
      refine ei_bipush (v := 59) X dX10_readStatement_98 rfl ?_
      refine ei_icmp_eq (tgt := 107) X dX10_readStatement_100 (by decide) (fun cq100 => ?_) (fun cq100 => ?_)
      · refine ei_iconst (v := 0) X dX10_readStatement_107 rfl ?_
        refine ei_putz X fp_RX10_168 dX10_readStatement_108 rfl (Nat.le_of_ble_eq_true rfl) (by decide) (pm_23 _ _ _ _ _ _ _ _ _ _ _ _ _ _ _ _) ?_
        obtain ⟨y1, y2, y3⟩ := hbf cq91
        have y4 : okS (Z d) p = true := (by unfold okS; rw [decide_eq_true y1, y2, decide_eq_true y3, decide_eq_true cq100]; rfl)
        exact E111 false q _ A2 (by omega) ((pk_un (by decide)).trans j22) pk_us ((pk_un (by decide)).trans j24) (fun j h1 h2 h3 => by rw [pk_un h2]; exact jo j h1 h2 h3) hA (fun _ => hT cq91) y4 (by rw [y4, if_neg Bool.false_ne_true, if_pos rfl]; unfold nxF; omega)
      · refine ei_iconst (v := 1) X dX10_readStatement_103 rfl ?_
        refine ei_goto (tgt := 108) X dX10_readStatement_104 (by decide) ?_
        refine ei_putz X fp_RX10_168 dX10_readStatement_108 rfl (Nat.le_of_ble_eq_true rfl) (by decide) (pm_23 _ _ _ _ _ _ _ _ _ _ _ _ _ _ _ _) ?_
        obtain ⟨y1, y2, y3⟩ := hbf cq91
        have y4 : okS (Z d) p = false := (by unfold okS; rw [y2, decide_eq_false cq100, Bool.and_false, Bool.and_false])
        exact E111 true q _ A2 (by omega) ((pk_un (by decide)).trans j22) pk_us ((pk_un (by decide)).trans j24) (fun j h1 h2 h3 => by rw [pk_un h2]; exact jo j h1 h2 h3) hA (fun z => absurd (y4.symm.trans z) Bool.false_ne_true) y4 (by rw [y4, if_pos rfl, if_neg Bool.false_ne_true]; unfold bdF; rw [if_neg (by omega), y2])
  have hA1 : stA A (updA (updA A 10 (upd (A 10) k (nI p))) 11 (upd ((updA A 10 (upd (A 10) k (nI p))) 11) k (hereF (Z d) p))) k p (hereF (Z d) p) := by
    refine ⟨fun c h1 h2 h3 => by rw [updA_off h2, updA_off h1], ?_, ?_, fun j hj => ?_⟩
    · rw [updA_off (by decide), updA_on]
    · rw [updA_on, updA_off (by decide)]
    · rw [updA_off (by decide), updA_off (by decide)]
  have EN : ndC (hereF (Z d) p) = 0 → ∀ J : Nat → Int32, J 22 = nI p → J 23 = 1 → J 24 = nI k → (∀ j, j ≠ 22 → j ≠ 23 → j ≠ 24 → J j = I j) → e_E x 50 [some (.ref 0), some (.int (nI k)), some (.int (hereF (Z d) p))] [] (mH (n, w, se, sp, hr, lt, hd, sc, so, fi, wo) (J, updA (updA A 10 (upd (A 10) k (nI p))) 11 (upd ((updA A 10 (upd (A 10) k (nI p))) 11) k (hereF (Z d) p)), B, K)) := by
    intro h0 J j22 j23 j24 jo
    refine ei_aload_n X dX10_readStatement_50 rfl rfl ?_
    refine ei_dup X dX10_readStatement_51 rfl ?_
    refine ei_getf X fl_RX10_162 dX10_readStatement_52 rfl rfl ?_
    rw [j22]
    refine ei_aload_n X dX10_readStatement_55 rfl rfl ?_
    refine ei_getf X fl_RX10_168 dX10_readStatement_56 rfl rfl ?_
    rw [j23]
    refine ei_if_eq (tgt := 66) X dX10_readStatement_59 (by decide) (fun cq59 => ?_) (fun cq59 => ?_)
    · first | exact absurd cq59 (by decide) | exact absurd (by decide) cq59
    · refine ei_iconst (v := nI 0) X dX10_readStatement_62 rfl ?_
      refine ei_goto (tgt := 67) X dX10_readStatement_63 (by decide) ?_
      refine ei_iadd X dX10_readStatement_67 ?_
      rw [nI_add]
      refine ei_puti X fp_RX10_162 dX10_readStatement_68 rfl (Nat.le_of_ble_eq_true rfl) (pm_22 _ _ _ _ _ _ _ _ _ _ _ _ _ _ _ _) ?_
      refine ei_aload_n X dX10_readStatement_71 rfl rfl ?_
      refine ei_getf X fl_RX10_168 dX10_readStatement_72 rfl rfl ?_
      rw [pk_un (show (23 : Nat) ≠ 22 by decide), j23]
      refine ei_if_ne (tgt := 86) X dX10_readStatement_75 (by decide) (fun cq75 => ?_) (fun cq75 => ?_)
      · exact E86 true p _ _ (by omega) pk_us ((pk_un (by decide)).trans j23) ((pk_un (by decide)).trans j24) (fun j h1 h2 h3 => by rw [pk_un h1]; exact jo j h1 h2 h3) hA1 (fun z => absurd z (by decide)) (fun _ => ⟨by unfold okS ndF; rw [h0]; rfl, by unfold bdF ndF; rw [h0, if_pos rfl]⟩) (fun z => absurd z (by decide))
      · first | exact absurd cq75 (by decide) | exact absurd (by decide) cq75
  have EL : 0 < ndC (hereF (Z d) p) → ∀ J : Nat → Int32, J 22 = nI p → J 23 = 0 → J 24 = nI k → (∀ j, j ≠ 22 → j ≠ 23 → j ≠ 24 → J j = I j) → e_E x 50 [some (.ref 0), some (.int (nI k)), some (.int (hereF (Z d) p))] [] (mH (n, w, se, sp, hr, lt, hd, sc, so, fi, wo) (J, updA (updA A 10 (upd (A 10) k (nI p))) 11 (upd ((updA A 10 (upd (A 10) k (nI p))) 11) k (hereF (Z d) p)), B, K)) := by
    intro h0 J j22 j23 j24 jo
    have hfq := nq_sp (Z d) h0 (p + 1)
    have hq1 : (nq4 (Z d) (hereF (Z d) p) (p + 1)).1 = qdF (Z d) p := hfq.1
    have hq2 : (nq4 (Z d) (hereF (Z d) p) (p + 1)).2.1 = decide (qdF (Z d) p < p + 1 + ndF (Z d) p) := hfq.2
    have hqg := qd_cases (z := Z d) (p := p) h0
    have hnf : ndF (Z d) p = ndC (hereF (Z d) p) := rfl
    refine ei_aload_n X dX10_readStatement_50 rfl rfl ?_
    refine ei_dup X dX10_readStatement_51 rfl ?_
    refine ei_getf X fl_RX10_162 dX10_readStatement_52 rfl rfl ?_
    rw [j22]
    refine ei_aload_n X dX10_readStatement_55 rfl rfl ?_
    refine ei_getf X fl_RX10_168 dX10_readStatement_56 rfl rfl ?_
    rw [j23]
    refine ei_if_eq (tgt := 66) X dX10_readStatement_59 (by decide) (fun cq59 => ?_) (fun cq59 => ?_)
    · refine ei_iconst (v := nI 1) X dX10_readStatement_66 rfl ?_
      refine ei_iadd X dX10_readStatement_67 ?_
      rw [nI_add]
      refine ei_puti X fp_RX10_162 dX10_readStatement_68 rfl (Nat.le_of_ble_eq_true rfl) (pm_22 _ _ _ _ _ _ _ _ _ _ _ _ _ _ _ _) ?_
      refine ei_aload_n X dX10_readStatement_71 rfl rfl ?_
      refine ei_getf X fl_RX10_168 dX10_readStatement_72 rfl rfl ?_
      rw [pk_un (show (23 : Nat) ≠ 22 by decide), j23]
      refine ei_if_ne (tgt := 86) X dX10_readStatement_75 (by decide) (fun cq75 => ?_) (fun cq75 => ?_)
      · first | exact absurd cq75 (by decide) | exact absurd (by decide) cq75
      · refine ei_aload_n X dX10_readStatement_78 rfl rfl ?_
        refine ei_iload_n X dX10_readStatement_79 rfl rfl ?_
        refine ei_iconst (v := nI 3) X dX10_readStatement_80 rfl ?_
        refine ei_iload_n X dX10_readStatement_81 rfl rfl ?_
        refine ei_imul X dX10_readStatement_82 ?_
        rw [nI_mul]
        refine ei_callI X ml_RX10_189 dX10_readStatement_83 (ct_X10_readNumbers _ _ _ _ _ _ _ _ _ _ _ _ _ _ _ Z d (p + 1) (3 * k) (hereF (Z d) p) h_d h_z (RS_A h_R (fun c h1 h2 => hA1.1 c (by omega) (by omega) (by omega))) ((pk_un (by decide)).trans ((jo 21 (by decide) (by decide) (by decide)).trans h_21)) pk_us ((pk_un (by decide)).trans j23) (by omega) (by omega)) rfl rfl (by decide) (by decide) rfl (Nat.le_of_ble_eq_true rfl) (fun r h2 hp => ?_)
        obtain ⟨rfl, J83, a83, b83, o83, rfl⟩ := hp
        refine E86 (nq4 (Z d) (hereF (Z d) p) (p + 1)).2.1 (nq4 (Z d) (hereF (Z d) p) (p + 1)).1 J83 _ (by rw [hq1]; omega) a83 b83 ((o83 24 (by decide) (by decide)).trans ((pk_un (by decide)).trans j24)) (fun j h1 h2 h3 => (o83 j h1 h2).trans ((pk_un h1).trans (jo j h1 h2 h3))) ⟨fun c h1 h2 h3 => (updA_off h3).trans (hA1.1 c h1 h2 h3), (updA_off (by decide)).trans hA1.2.1, (updA_off (by decide)).trans hA1.2.2.1, fun j hj => ?_⟩ (fun z => ?_) (fun z => ?_) (fun z => ?_)
        · rw [updA_on, ng_off _ _ _ _ _ hj]; exact hA1.2.2.2 j hj
        · rw [hq2] at z; have z2 := of_decide_eq_false z; rw [updA_on]; exact ng_sp (Z d) h0 p (3 * k) _ rfl (fun j a1 a2 => by have h7 := firstN_all (p := fun j => !isD (Z d) j) (ndF (Z d) p) (p + 1) (show qdF (Z d) p = p + 1 + ndF (Z d) p by omega) j a1 a2; simpa using h7)
        · rw [hq2] at z; have z2 := of_decide_eq_true z; exact ⟨by unfold okS; rw [decide_eq_false (show ¬ qdF (Z d) p = p + 1 + ndF (Z d) p by omega), Bool.false_and, Bool.and_false], by unfold bdF; rw [if_neg (by omega), hq1]⟩
        · rw [hq2] at z; have z2 := of_decide_eq_false z; exact ⟨h0, hq1.symm, by rw [hq1]; omega⟩
    · first | exact absurd cq59 (by decide) | exact absurd (by decide) cq59
  refine ei_aload_n X dX10_readStatement_0 rfl rfl ?_
  refine ei_getf X fl_RX10_183 dX10_readStatement_1 rfl rfl ?_
  rw [h_24]
  refine ei_istore_n X dX10_readStatement_4 rfl (Nat.le_of_ble_eq_true rfl) rfl ?_
  refine ei_aload_n X dX10_readStatement_5 rfl rfl ?_
  refine ei_callI1 X ml_RX10_172 dX10_readStatement_6 (ct_X10_here _ _ _ _ _ _ _ _ _ _ _ _ _ _ _ Z d p h_d h_z h_R h_21 h_22 (by omega)) rfl rfl (by decide) (by decide) rfl (Nat.le_of_ble_eq_true rfl) ?_
  refine ei_istore_n X dX10_readStatement_9 rfl (Nat.le_of_ble_eq_true rfl) rfl ?_
  refine ei_aload_n X dX10_readStatement_10 rfl rfl ?_
  refine ei_getf X fl_RX10_45 dX10_readStatement_11 rfl rfl ?_
  refine ei_iload_n X dX10_readStatement_14 rfl rfl ?_
  refine ei_aload_n X dX10_readStatement_15 rfl rfl ?_
  refine ei_getf X fl_RX10_162 dX10_readStatement_16 rfl rfl ?_
  rw [h_22]
  refine ei_iastore_n X dX10_readStatement_19 rfl (by first | omega | assumption) (by decide) (pm_r10 _ _ _ _ _ _ _ _ _ _ _ _ _ _ _ _) ?_
  refine ei_aload_n X dX10_readStatement_20 rfl rfl ?_
  refine ei_getf X fl_RX10_48 dX10_readStatement_21 rfl rfl ?_
  refine ei_iload_n X dX10_readStatement_24 rfl rfl ?_
  refine ei_iload_n X dX10_readStatement_25 rfl rfl ?_
  refine ei_iastore_n X dX10_readStatement_26 rfl (by first | omega | assumption) (by decide) (pm_r11 _ _ _ _ _ _ _ _ _ _ _ _ _ _ _ _) ?_
  refine ei_aload_n X dX10_readStatement_27 rfl rfl ?_
  refine ei_aload_n X dX10_readStatement_28 rfl rfl ?_
  refine ei_getf X fl_RX10_168 dX10_readStatement_29 rfl rfl ?_
  rw [h_23]
  refine ei_if_ne (tgt := 42) X dX10_readStatement_32 (by decide) (fun cq32 => ?_) (fun cq32 => ?_)
  · first | exact absurd cq32 (by decide) | exact absurd (by decide) cq32
  · refine ei_iload_n X dX10_readStatement_35 rfl rfl ?_
    refine ei_callT1 X ml_RX10_186 dX10_readStatement_36 (ct_X10_isLetter _ _) rfl rfl (by decide) (by decide) (Nat.le_of_ble_eq_true rfl) ?_
    refine ei_ifz_ne (tgt := 46) X dX10_readStatement_39 (by decide) (fun cq39 => ?_) (fun cq39 => ?_)
    · refine ei_iconst (v := 0) X dX10_readStatement_46 rfl ?_
      refine ei_putz X fp_RX10_168 dX10_readStatement_47 rfl (Nat.le_of_ble_eq_true rfl) (by decide) (pm_23 _ _ _ _ _ _ _ _ _ _ _ _ _ _ _ _) ?_
      exact EL (of_decide_eq_true cq39) _ ((pk_un (by decide)).trans h_22) pk_us ((pk_un (by decide)).trans h_24) (fun j h1 h2 h3 => by rw [pk_un h2])
    · refine ei_iconst (v := 1) X dX10_readStatement_42 rfl ?_
      refine ei_goto (tgt := 47) X dX10_readStatement_43 (by decide) ?_
      refine ei_putz X fp_RX10_168 dX10_readStatement_47 rfl (Nat.le_of_ble_eq_true rfl) (by decide) (pm_23 _ _ _ _ _ _ _ _ _ _ _ _ _ _ _ _) ?_
      exact EN (by have := of_decide_eq_false cq39; omega) _ ((pk_un (by decide)).trans h_22) pk_us ((pk_un (by decide)).trans h_24) (fun j h1 h2 h3 => by rw [pk_un h2])

