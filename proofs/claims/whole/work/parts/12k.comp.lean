set_option maxRecDepth 100000 in
set_option maxHeartbeats 1000000 in
theorem ct_X6_isHung (n : Nat) (w se sp hr lt hd sc : Int32) (so fi wo : Nat → Int32) (ks fg : Int32) (h_n : n ≤ 10) : e_Ct yX6_isHung cX6_isHung 3 (some .boolean) 3 [.ref 0, .int ks, .int fg] (lH (n, w, se, sp, hr, lt, hd, sc, so, fi, wo)) (e_eq (some (.int (bz (decide (ks ≤ 7) && decide (n < 10))))) (lH (if (decide (ks ≤ 7) && decide (n < 10)) = true then hungS (n, w, se, sp, hr, lt, hd, sc, so, fi, wo) ks fg else (n, w, se, sp, hr, lt, hd, sc, so, fi, wo)))) := by
  refine e_open RX6 rfl (by decide +kernel) rfl (fun _ => Nat.le_of_ble_eq_true rfl) (fun x X F => ?_)
  refine ei_iload_n X dX6_isHung_0 rfl rfl ?_
  refine ei_bipush (v := 7) X dX6_isHung_1 rfl ?_
  refine ei_icmp_gt (tgt := 13) X dX6_isHung_3 (by decide) (fun cq3 => ?_) (fun cq3 => ?_)
  · refine ei_iconst (v := 0) X dX6_isHung_13 rfl ?_
    refine ei_zreturn X F dX6_isHung_14 (by decide) ?_
    exact ⟨by rw [decide_eq_false (Int32.not_le.mpr cq3)]; rfl, by rw [decide_eq_false (Int32.not_le.mpr cq3), Bool.false_and, if_neg Bool.false_ne_true]⟩
  · refine ei_aload_n X dX6_isHung_6 rfl rfl ?_
    refine ei_callI1 X ml_RX6_71 dX6_isHung_7 (ct_X2_isFull _ _ _ _ _ _ _ _ _ _ _ (by first | omega | assumption)) rfl rfl (by decide) (by decide) rfl (Nat.le_of_ble_eq_true rfl) ?_
    refine ei_ifz_eq (tgt := 15) X dX6_isHung_10 (by decide) (fun cq10 => ?_) (fun cq10 => ?_)
    · refine ei_aload_n X dX6_isHung_15 rfl rfl ?_
      refine ei_iload_n X dX6_isHung_16 rfl rfl ?_
      refine ei_iload_n X dX6_isHung_17 rfl rfl ?_
      refine ei_callI0 X ml_RX6_75 dX6_isHung_18 (ct_X2_hang _ _ _ _ _ _ _ _ _ _ _ _ _ (by first | omega | assumption)) rfl rfl (by decide) (by decide) rfl (Nat.le_of_ble_eq_true rfl) ?_
      rw [if_neg (show ¬ 10 ≤ n from of_decide_eq_false cq10)]
      refine ei_iconst (v := 1) X dX6_isHung_21 rfl ?_
      refine ei_zreturn X F dX6_isHung_22 (by decide) ?_
      have h9 : n < 10 := (by have := of_decide_eq_false cq10; omega)
      exact ⟨by rw [decide_eq_true h9, decide_eq_true (Int32.not_lt.mp cq3)]; rfl, by rw [decide_eq_true h9, decide_eq_true (Int32.not_lt.mp cq3), Bool.and_self, if_pos rfl]; rfl⟩
    · refine ei_iconst (v := 0) X dX6_isHung_13 rfl ?_
      refine ei_zreturn X F dX6_isHung_14 (by decide) ?_
      have h9 : ¬ n < 10 := (by have := of_decide_eq_true cq10; omega)
      exact ⟨by rw [decide_eq_false h9, Bool.and_false]; rfl, by rw [decide_eq_false h9, Bool.and_false, if_neg Bool.false_ne_true]⟩
set_option maxRecDepth 100000 in
set_option maxHeartbeats 1000000 in
theorem ct_X6_isDoneTo (n : Nat) (w se sp hr lt hd sc : Int32) (so fi wo : Nat → Int32) (c v : Int32) (k : Nat) (h_c : c = 119 ∨ c = 111 ∨ c = 116) (h_k : k < n) (h_n : n ≤ 10) : e_Ct yX6_isDoneTo cX6_isDoneTo 4 (some .boolean) 4 [.ref 0, .int c, .int (nI k), .int v] (lH (n, w, se, sp, hr, lt, hd, sc, so, fi, wo)) (e_eq (some (.int (bz (decide (¬ c = 116) || decide (0 < sp))))) (lH (if (decide (¬ c = 116) || decide (0 < sp)) = true then ofS (n, w, se, sp, hr, lt, hd, sc, so, fi, wo) c (nI k) v else (n, w, se, sp, hr, lt, hd, sc, so, fi, wo)))) := by
  refine e_open RX6 rfl (by decide +kernel) rfl (fun _ => Nat.le_of_ble_eq_true rfl) (fun x X F => ?_)
  have hnc : nc (nI k) = k := nc_nI (by omega)
  have hsp : sp ≤ 0 ↔ ¬ 0 < sp := Int32.not_lt.symm
  refine ei_iload_n X dX6_isDoneTo_0 rfl rfl ?_
  refine ei_bipush (v := 119) X dX6_isDoneTo_1 rfl ?_
  refine ei_icmp_ne (tgt := 15) X dX6_isDoneTo_3 (by decide) (fun cq3 => ?_) (fun cq3 => ?_)
  · refine ei_iload_n X dX6_isDoneTo_15 rfl rfl ?_
    refine ei_bipush (v := 111) X dX6_isDoneTo_16 rfl ?_
    refine ei_icmp_ne (tgt := 28) X dX6_isDoneTo_18 (by decide) (fun cq18 => ?_) (fun cq18 => ?_)
    · have hc : c = 116 := (by rcases h_c with z | z | z; exact absurd z cq3; exact absurd z cq18; exact z)
      refine ei_aload_n X dX6_isDoneTo_28 rfl rfl ?_
      refine ei_getf X fl_RX6_49 dX6_isDoneTo_29 rfl rfl ?_
      refine ei_if_gt (tgt := 37) X dX6_isDoneTo_32 (by decide) (fun cq32 => ?_) (fun cq32 => ?_)
      · refine ei_aload_n X dX6_isDoneTo_37 rfl rfl ?_
        refine ei_iload_n X dX6_isDoneTo_38 rfl rfl ?_
        refine ei_callI1 X ml_RX6_86 dX6_isDoneTo_39 (ct_X2_twistIn _ _ _ _ _ _ _ _ _ _ _ _ (by first | omega | assumption)) rfl rfl (by decide) (by decide) rfl (Nat.le_of_ble_eq_true rfl) ?_
        refine ei_pop X dX6_isDoneTo_42 rfl ?_
        refine ei_iconst (v := 1) X dX6_isDoneTo_43 rfl ?_
        refine ei_zreturn X F dX6_isDoneTo_44 (by decide) ?_
        have e1 : (decide (¬ c = 116) || decide (0 < sp)) = true := (by rw [decide_eq_true cq32, Bool.or_true])
        exact ⟨by rw [e1]; rfl, by rw [e1, if_pos rfl]; unfold ofS; rw [if_neg cq3, if_neg cq18, hnc]; rfl⟩
      · refine ei_iconst (v := 0) X dX6_isDoneTo_35 rfl ?_
        refine ei_zreturn X F dX6_isDoneTo_36 (by decide) ?_
        have e1 : (decide (¬ c = 116) || decide (0 < sp)) = false := (by rw [decide_eq_false cq32, decide_eq_false (fun z => z hc)]; rfl)
        exact ⟨by rw [e1]; rfl, by rw [e1, if_neg Bool.false_ne_true]⟩
    · skip
      refine ei_aload_n X dX6_isDoneTo_21 rfl rfl ?_
      refine ei_iload_n X dX6_isDoneTo_22 rfl rfl ?_
      refine ei_callI0 X ml_RX6_82 dX6_isDoneTo_23 (ct_X2_breakOrMend _ _ _ _ _ _ _ _ _ _ _ _) rfl rfl (by decide) (by decide) rfl (Nat.le_of_ble_eq_true rfl) ?_
      refine ei_iconst (v := 1) X dX6_isDoneTo_26 rfl ?_
      refine ei_zreturn X F dX6_isDoneTo_27 (by decide) ?_
      have e1 : (decide (¬ c = 116) || decide (0 < sp)) = true := (by rw [cq18]; rfl)
      exact ⟨by rw [e1]; rfl, by rw [e1, if_pos rfl]; unfold ofS; rw [if_neg cq3, if_pos cq18, hnc]⟩
  · refine ei_aload_n X dX6_isDoneTo_6 rfl rfl ?_
    refine ei_getf X fl_RX6_79 dX6_isDoneTo_7 rfl rfl ?_
    refine ei_iload_n X dX6_isDoneTo_10 rfl rfl ?_
    refine ei_iload_n X dX6_isDoneTo_11 rfl rfl ?_
    refine ei_iastore_n X dX6_isDoneTo_12 rfl (by first | omega | assumption) (by decide) (pl_r3 _ _ _ _ _ _ _ _ _ _ _ _) ?_
    refine ei_iconst (v := 1) X dX6_isDoneTo_13 rfl ?_
    refine ei_zreturn X F dX6_isDoneTo_14 (by decide) ?_
    have e1 : (decide (¬ c = 116) || decide (0 < sp)) = true := (by rw [cq3]; rfl)
    exact ⟨by rw [e1]; rfl, by rw [e1, if_pos rfl]; unfold ofS; rw [if_pos cq3, hnc]⟩
theorem canU_to {n : Nat} {t i j : Int32} (ht : 0 ≤ t) (hi : 0 ≤ i) (hn : n ≤ 10) : (decide (0 ≤ t) && (decide (t ≤ 4) && strF n i j)) = toB n t i j := by
  unfold toB strF hasF
  rw [decide_eq_true ht, decide_eq_true hi, Bool.true_and, Bool.true_and]
  have e1 : decide (t ≤ 4) = decide (t < 5) := decide_eq_decide.mpr (by rw [Int32.le_iff_toInt_le, Int32.lt_iff_toInt_lt, show (4 : Int32).toInt = 4 from rfl, show (5 : Int32).toInt = 5 from rfl]; omega)
  rw [e1]
  congr 1
  by_cases q : i ≤ j
  · rw [decide_eq_true q, Bool.and_true, Bool.true_and]
    by_cases q2 : j < nI n
    · rw [decide_eq_true q2, decide_eq_true (Int32.lt_of_le_of_lt q q2), Bool.true_and]
    · rw [decide_eq_false q2, Bool.and_false, Bool.and_false]
  · rw [decide_eq_false q, Bool.and_false, Bool.and_false, Bool.false_and]
theorem plz_6 (S : St) (z : Sh) (v : Int32) : (lz S z).set 0 (.inr (1, ([.ref 1, .ref 2, .ref 3, .int (nI (sN S)), .int (sW S), .int (sE S), .int (sP S), .int (sH S), .int (sL S), .int (sD S), .int (sC S)] : List Value).set 6 (.int v))) = lz (sN S, sW S, sE S, v, sH S, sL S, sD S, sC S, sO S, sG S, sR S) z := rfl
theorem hoursC_nI (S : St) {m : Nat} (hm : m < 2 ^ 31) : hoursC S (nI m) = decide (1 ≤ m ∧ m ≤ 60 ∧ sH S + nI m ≤ 999) := by
  unfold hoursC inI
  have h1 : ((1 : Int32) ≤ nI m) ↔ 1 ≤ m := nn_le (a := 1) (b := m) (by decide) hm
  have h2 : (nI m ≤ (60 : Int32)) ↔ m ≤ 60 := nn_le (a := m) (b := 60) hm (by decide)
  rw [decide_eq_decide.mpr h1, decide_eq_decide.mpr h2, ← Bool.decide_and, ← Bool.decide_and]
  exact decide_eq_decide.mpr and_assoc
theorem gd0 {v : Int32} {m : Int} (h : Gd1 v m) : 0 ≤ v := by rw [Int32.le_iff_toInt_le]; exact h.1
set_option maxRecDepth 100000 in
set_option maxHeartbeats 1000000 in
theorem ct_X6_isDone (n : Nat) (w se sp hr lt hd sc : Int32) (so fi wo : Nat → Int32) (z : Sh) (p : Nat) (h_z : zN z ≤ 100) (h_p : p < zN z) (h_S : Good (n, w, se, sp, hr, lt, hd, sc, so, fi, wo)) (h_k : okS z p = true) : e_Ct yX6_isDone cX6_isDone 6 (some .boolean) 6 [.ref 4, .int (nI p), .ref 0] (lz (n, w, se, sp, hr, lt, hd, sc, so, fi, wo) z) (e_eq (some (.int (bz (stpB (n, w, se, sp, hr, lt, hd, sc, so, fi, wo) (hereF z p) (numA z p) (numB z p) (numE z p))))) (lz (if stpB (n, w, se, sp, hr, lt, hd, sc, so, fi, wo) (hereF z p) (numA z p) (numB z p) (numE z p) = true then stpS (n, w, se, sp, hr, lt, hd, sc, so, fi, wo) (hereF z p) (numA z p) (numB z p) (numE z p) else (n, w, se, sp, hr, lt, hd, sc, so, fi, wo)) z)) := by
  refine e_open RX6 rfl (by decide +kernel) rfl (fun _ => Nat.le_of_ble_eq_true rfl) (fun x X F => ?_)
  have hn : n ≤ 10 := h_S.1
  obtain ⟨hd0, hdg⟩ := okS_dig h_k
  obtain ⟨o1, o2, o3, o4, o5⟩ := num_ok h_k
  have hd0' : 0 < ndC (hereF z p) := hd0
  have hnf : ndF z p = ndC (hereF z p) := rfl
  have d1 := hdg (p + 1) (by omega) (by omega)
  have n1 := nu_1 d1
  have hh := here_t h_p
  have ea : ¬ hereF z p = 104 → numA z p = nI (dgN z (p + 1)) := fun q => if_neg q
  have eb : hereF z p = 98 ∨ hereF z p = 117 → numB z p = nI (nuN z (p + 2) 1) := by
    intro q
    have hn2 : 2 ≤ ndF z p := by
      rcases q with q | q
      · rw [hnf, q, nd_98]; omega
      · rw [hnf, q, nd_117]; omega
    rw [nu_1 (hdg (p + 2) (by omega) (by omega))]
    exact if_neg (by rcases q with q | q <;> rw [q] <;> decide)
  refine ei_aload_n X dX6_isDone_0 rfl rfl ?_
  refine ei_iload_n X dX6_isDone_1 rfl rfl ?_
  refine ei_iconst (v := nI 1) X dX6_isDone_2 rfl ?_
  refine ei_iadd X dX6_isDone_3 ?_
  rw [nI_add]
  refine ei_iconst (v := nI 1) X dX6_isDone_4 rfl ?_
  refine ei_cs1 [4, 5] (lz_gZ _ _) (lz_pZ _ _ _) X ml_RX6_41 dX6_isDone_5 (ct_X6_number _ _ _ (by first | omega | assumption) (by first | omega | assumption) (by first | omega | assumption)) rfl rfl (by decide) (by decide) (Nat.le_of_ble_eq_true rfl) (by decide) ?_
  rw [n1]
  refine ei_istore_n X dX6_isDone_8 rfl (Nat.le_of_ble_eq_true rfl) rfl ?_
  refine ei_aload_n X dX6_isDone_9 rfl rfl ?_
  refine ei_iload_n X dX6_isDone_10 rfl rfl ?_
  refine ei_iconst (v := nI 2) X dX6_isDone_11 rfl ?_
  refine ei_iadd X dX6_isDone_12 ?_
  rw [nI_add]
  refine ei_iconst (v := nI 1) X dX6_isDone_13 rfl ?_
  refine ei_cs1 [4, 5] (lz_gZ _ _) (lz_pZ _ _ _) X ml_RX6_41 dX6_isDone_14 (ct_X6_number _ _ _ (by first | omega | assumption) (by first | omega | assumption) (by first | omega | assumption)) rfl rfl (by decide) (by decide) (Nat.le_of_ble_eq_true rfl) (by decide) ?_
  refine ei_istore X dX6_isDone_17 (Nat.le_of_ble_eq_true rfl) rfl ?_
  refine ei_aload_n X dX6_isDone_19 rfl rfl ?_
  refine ei_getf X fl_RX6_25 dX6_isDone_20 rfl rfl ?_
  refine ei_iload_n X dX6_isDone_23 rfl rfl ?_
  refine ei_iaload_n X dX6_isDone_24 rfl (by first | omega | assumption) (by decide) ?_
  rw [← hh]
  refine ei_lookup [(98, 68), (104, 119), (115, 76), (117, 83)] 132 X dX6_isDone_25 (by decide) (by decide) (by decide) ⟨fun cq25 => ?_, fun cq25 => ?_, fun cq25 => ?_, fun cq25 => ?_, trivial⟩ (fun cq25 => ?_)
  · have ea0 := ea (by rw [cq25]; decide)
    have eb0 := eb (Or.inl cq25)
    rw [← ea0, ← eb0]
    refine ei_aload_n X dX6_isDone_68 rfl rfl ?_
    refine ei_iload_n X dX6_isDone_69 rfl rfl ?_
    refine ei_iload X dX6_isDone_70 rfl ?_
    refine ei_cs1 [0, 1, 2, 3] (lz_gL _ _) (lz_pL _ _ _) X ml_RX6_45 dX6_isDone_72 (ct_X6_isHung _ _ _ _ _ _ _ _ _ _ _ _ _ (by first | omega | assumption)) rfl rfl (by decide) (by decide) (Nat.le_of_ble_eq_true rfl) (by decide) ?_
    refine ei_zreturn X F dX6_isDone_75 (bz_nar _) ?_
    exact ⟨by rw [cq25, stpB_98], by rw [cq25, stpB_98, stpS_98]⟩
  · have e104 := cq25
    rw [e104, nd_104] at hnf
    have d2 := hdg (p + 2) (by omega) (by omega)
    have eh : numA z p = nI (nuN z (p + 1) 2) := (by rw [nu_2 d1 d2]; exact if_pos e104)
    refine ei_aload_n X dX6_isDone_119 rfl rfl ?_
    refine ei_aload_n X dX6_isDone_120 rfl rfl ?_
    refine ei_iload_n X dX6_isDone_121 rfl rfl ?_
    refine ei_iconst (v := nI 1) X dX6_isDone_122 rfl ?_
    refine ei_iadd X dX6_isDone_123 ?_
    rw [nI_add]
    refine ei_iconst (v := nI 2) X dX6_isDone_124 rfl ?_
    refine ei_cs1 [4, 5] (lz_gZ _ _) (lz_pZ _ _ _) X ml_RX6_41 dX6_isDone_125 (ct_X6_number _ _ _ (by first | omega | assumption) (by first | omega | assumption) (by first | omega | assumption)) rfl rfl (by decide) (by decide) (Nat.le_of_ble_eq_true rfl) (by decide) ?_
    refine ei_cv1 [0, 1, 2, 3] (lz_gL _ _) (lz_pL _ _ _) X ml_RX6_61 dX6_isDone_128 (ct_X2_passes _ _ _ _ _ _ _ _ _ _ _ (nuN z (p + 1) 2) hn (by have h99 := o1 e104; rw [eh] at h99; have h2 := isD_of d1; have h3 := isD_of (show isD z (p + 1 + 1) = true from d2); rw [nu_2 d1 d2]; omega)) rfl rfl (by decide) (by decide) rfl (Nat.le_of_ble_eq_true rfl) (by decide) ?_
    refine ei_zreturn X F dX6_isDone_131 (bz_nar _) ?_
    have hm : nuN z (p + 1) 2 < 1000 := (by have h2 := isD_of d1; have h3 := isD_of (show isD z (p + 1 + 1) = true from d2); rw [nu_2 d1 d2]; omega)
    exact ⟨by rw [e104, stpB_104, eh, hoursC_nI _ (by omega)], by rw [e104, stpB_104, stpS_104, eh, hoursC_nI _ (by omega), nc_nI (by omega)]; simp only [decide_eq_true_eq]⟩
  · have ea0 := ea (by rw [cq25]; decide)
    rw [← ea0]
    refine ei_aload_n X dX6_isDone_76 rfl rfl ?_
    refine ei_iload_n X dX6_isDone_77 rfl rfl ?_
    refine ei_puti X fp_RX6_49 dX6_isDone_78 rfl (Nat.le_of_ble_eq_true rfl) (plz_6 _ _ _) ?_
    refine ei_iconst (v := 1) X dX6_isDone_81 rfl ?_
    refine ei_zreturn X F dX6_isDone_82 (by decide) ?_
    exact ⟨by rw [cq25, stpB_115]; rfl, by rw [cq25, stpB_115, if_pos rfl, stpS_115]⟩
  · have e117 := cq25
    rw [e117, nd_117] at hnf
    have d3 := hdg (p + 3) (by omega) (by omega)
    have ea0 := ea (by rw [e117]; decide)
    have eb0 := eb (Or.inr e117)
    have ee : numE z p = nI (nuN z (p + 3) 1) := (by rw [nu_1 d3]; rfl)
    rw [← ea0, ← eb0]
    refine ei_aload_n X dX6_isDone_83 rfl rfl ?_
    refine ei_iload_n X dX6_isDone_84 rfl rfl ?_
    refine ei_iconst (v := nI 3) X dX6_isDone_85 rfl ?_
    refine ei_iadd X dX6_isDone_86 ?_
    rw [nI_add]
    refine ei_iconst (v := nI 1) X dX6_isDone_87 rfl ?_
    refine ei_cs1 [4, 5] (lz_gZ _ _) (lz_pZ _ _ _) X ml_RX6_41 dX6_isDone_88 (ct_X6_number _ _ _ (by first | omega | assumption) (by first | omega | assumption) (by first | omega | assumption)) rfl rfl (by decide) (by decide) (Nat.le_of_ble_eq_true rfl) (by decide) ?_
    rw [← ee]
    refine ei_istore X dX6_isDone_91 (Nat.le_of_ble_eq_true rfl) rfl ?_
    refine ei_aload_n X dX6_isDone_93 rfl rfl ?_
    refine ei_iload_n X dX6_isDone_94 rfl rfl ?_
    refine ei_iload X dX6_isDone_95 rfl ?_
    refine ei_iload X dX6_isDone_97 rfl ?_
    refine ei_cv1 [0, 1, 2, 3] (lz_gL _ _) (lz_pL _ _ _) X ml_RX6_54 dX6_isDone_99 (ct_X2_canUse _ _ _ _ _ _ _ _ _ _ _ _ _ _) rfl rfl (by decide) (by decide) rfl (Nat.le_of_ble_eq_true rfl) (by decide) ?_
    rw [canU_to (gd0 (o2 (by rw [e117]; decide))) (gd0 (o4 (Or.inr e117))) hn]
    refine ei_ifz_ne (tgt := 107) X dX6_isDone_102 (by decide) (fun cq102 => ?_) (fun cq102 => ?_)
    · obtain ⟨a, b, hab, hb, ui, uj⟩ := use_ex hn (o4 (Or.inr e117)) ((Bool.and_eq_true _ _).mp (show (decide (numA z p < 5) && (decide (numB z p ≤ numE z p) && hasF n (numE z p))) = true from cq102)).2
      have na : nc (numB z p) = a := (by rw [ui]; exact nc_nI (by omega))
      have nb : nc (numE z p) = b := (by rw [uj]; exact nc_nI (by omega))
      rw [ui, uj]
      refine ei_aload_n X dX6_isDone_107 rfl rfl ?_
      refine ei_iload_n X dX6_isDone_108 rfl rfl ?_
      refine ei_iload X dX6_isDone_109 rfl ?_
      refine ei_iload X dX6_isDone_111 rfl ?_
      refine ei_cv1 [0, 1, 2, 3] (lz_gL _ _) (lz_pL _ _ _) X ml_RX6_58 dX6_isDone_113 (ct_X2_useTool _ _ _ _ _ _ _ _ _ _ _ (numA z p) a b hn hab hb) rfl rfl (by decide) (by decide) rfl (Nat.le_of_ble_eq_true rfl) (by decide) ?_
      refine ei_pop X dX6_isDone_116 rfl ?_
      refine ei_iconst (v := 1) X dX6_isDone_117 rfl ?_
      refine ei_zreturn X F dX6_isDone_118 (by decide) ?_
      exact ⟨by rw [e117, stpB_117]; show _ = some (Value.int (bz (toB n (numA z p) (numB z p) (numE z p)))); rw [cq102]; rfl, by rw [e117, stpB_117]; show _ = lz (if toB n (numA z p) (numB z p) (numE z p) = true then _ else _) z; rw [cq102, if_pos rfl, stpS_117, na, nb]⟩
    · refine ei_iconst (v := 0) X dX6_isDone_105 rfl ?_
      refine ei_zreturn X F dX6_isDone_106 (by decide) ?_
      exact ⟨by rw [e117, stpB_117]; show _ = some (Value.int (bz (toB n (numA z p) (numB z p) (numE z p)))); rw [cq102]; rfl, by rw [e117, stpB_117]; show _ = lz (if toB n (numA z p) (numB z p) (numE z p) = true then _ else _) z; rw [cq102, if_neg Bool.false_ne_true]⟩
  · obtain ⟨n98, n104, n115, n117, -⟩ := cq25
    have ea0 := ea n104
    rw [← ea0]
    have hco : hereF z p = 119 ∨ hereF z p = 111 ∨ hereF z p = 116 := (by rcases nd_cs hd0' with (y | y | y) | y | y | y | y; exact Or.inr (Or.inl y); exact absurd y n115; exact Or.inr (Or.inr y); exact absurd y n98; exact absurd y n104; exact absurd y n117; exact Or.inl y)
    have e119 : hereF z p = 119 → nI (nuN z (p + 2) 3) = numB z p := (fun q => by rw [q, nd_119] at hnf; rw [nu_3 (hdg (p + 2) (by omega) (by omega)) (hdg (p + 3) (by omega) (by omega)) (hdg (p + 4) (by omega) (by omega))]; exact (if_pos q).symm)
    refine ei_aload_n X dX6_isDone_132 rfl rfl ?_
    refine ei_iload_n X dX6_isDone_133 rfl rfl ?_
    refine ei_cv1 [0, 1, 2, 3] (lz_gL _ _) (lz_pL _ _ _) X ml_RX6_64 dX6_isDone_134 (ct_X2_has _ _ _ _ _ _ _ _ _ _ _ _) rfl rfl (by decide) (by decide) rfl (Nat.le_of_ble_eq_true rfl) (by decide) ?_
    refine ei_ifz_eq (tgt := 166) X dX6_isDone_137 (by decide) (fun cq137 => ?_) (fun cq137 => ?_)
    · refine ei_iconst (v := 0) X dX6_isDone_166 rfl ?_
      refine ei_zreturn X F dX6_isDone_167 (by decide) ?_
      have e1 : stpB (n, w, se, sp, hr, lt, hd, sc, so, fi, wo) (hereF z p) (numA z p) (numB z p) (numE z p) = false := (by rw [stpB_o n98 n115 n117 n104]; unfold ofB; rw [show hasF (sN (n, w, se, sp, hr, lt, hd, sc, so, fi, wo)) (numA z p) = false from cq137, Bool.false_and])
      exact ⟨by rw [e1]; rfl, by rw [e1, if_neg Bool.false_ne_true]⟩
    · obtain ⟨k, hk, ek⟩ := (hasF_iff (by omega)).mp cq137
      rw [ek]
      refine ei_aload_n X dX6_isDone_140 rfl rfl ?_
      refine ei_aload_n X dX6_isDone_141 rfl rfl ?_
      refine ei_getf X fl_RX6_25 dX6_isDone_142 rfl rfl ?_
      refine ei_iload_n X dX6_isDone_145 rfl rfl ?_
      refine ei_iaload_n X dX6_isDone_146 rfl (by first | omega | assumption) (by decide) ?_
      rw [← hh]
      refine ei_iload_n X dX6_isDone_147 rfl rfl ?_
      refine ei_aload_n X dX6_isDone_148 rfl rfl ?_
      refine ei_iload_n X dX6_isDone_149 rfl rfl ?_
      refine ei_iconst (v := nI 2) X dX6_isDone_150 rfl ?_
      refine ei_iadd X dX6_isDone_151 ?_
      rw [nI_add]
      refine ei_iconst (v := nI 3) X dX6_isDone_152 rfl ?_
      refine ei_cs1 [4, 5] (lz_gZ _ _) (lz_pZ _ _ _) X ml_RX6_41 dX6_isDone_153 (ct_X6_number _ _ _ (by first | omega | assumption) (by first | omega | assumption) (by first | omega | assumption)) rfl rfl (by decide) (by decide) (Nat.le_of_ble_eq_true rfl) (by decide) ?_
      refine ei_cs1 [0, 1, 2, 3] (lz_gL _ _) (lz_pL _ _ _) X ml_RX6_67 dX6_isDone_156 (ct_X6_isDoneTo _ _ _ _ _ _ _ _ _ _ _ (hereF z p) (nI (nuN z (p + 2) 3)) k hco hk hn) rfl rfl (by decide) (by decide) (Nat.le_of_ble_eq_true rfl) (by decide) ?_
      refine ei_ifz_eq (tgt := 166) X dX6_isDone_159 (by decide) (fun cq159 => ?_) (fun cq159 => ?_)
      · refine ei_iconst (v := 0) X dX6_isDone_166 rfl ?_
        refine ei_zreturn X F dX6_isDone_167 (by decide) ?_
        have e1 : stpB (n, w, se, sp, hr, lt, hd, sc, so, fi, wo) (hereF z p) (numA z p) (numB z p) (numE z p) = false := (by rw [stpB_o n98 n115 n117 n104]; unfold ofB; rw [show hasF (sN (n, w, se, sp, hr, lt, hd, sc, so, fi, wo)) (numA z p) = true from cq137, Bool.true_and]; exact cq159)
        exact ⟨by rw [e1]; rfl, by rw [e1, if_neg Bool.false_ne_true, cq159, if_neg Bool.false_ne_true]⟩
      · refine ei_iconst (v := 1) X dX6_isDone_162 rfl ?_
        refine ei_goto (tgt := 167) X dX6_isDone_163 (by decide) ?_
        refine ei_zreturn X F dX6_isDone_167 (by decide) ?_
        have e1 : stpB (n, w, se, sp, hr, lt, hd, sc, so, fi, wo) (hereF z p) (numA z p) (numB z p) (numE z p) = true := (by rw [stpB_o n98 n115 n117 n104]; unfold ofB; rw [show hasF (sN (n, w, se, sp, hr, lt, hd, sc, so, fi, wo)) (numA z p) = true from cq137, Bool.true_and]; exact cq159)
        exact ⟨by rw [e1]; rfl, by rw [e1, if_pos rfl, cq159, if_pos rfl, stpS_o n98 n115 n117 n104 e119, ek]⟩

