set_option maxRecDepth 100000 in
set_option maxHeartbeats 1000000 in
theorem ct_X6_comes (n : Nat) (w se sp hr lt hd sc : Int32) (so fi wo : Nat → Int32) (z : Sh) (h_z : zN z ≤ 100) (h_S : Good (n, w, se, sp, hr, lt, hd, sc, so, fi, wo)) : e_Ct yX6_comes cX6_comes 5 (some .int) 7 [.ref 4, .ref 0] (lz (n, w, se, sp, hr, lt, hd, sc, so, fi, wo) z) (fun r h => r = some (.int (textF (n, w, se, sp, hr, lt, hd, sc, so, fi, wo) z)) ∧ ∃ S', (0 ≤ textF (n, w, se, sp, hr, lt, hd, sc, so, fi, wo) z → S' = (rnN z 200 (n, w, se, sp, hr, lt, hd, sc, so, fi, wo) 0 0).2) ∧ h = lz S' z) := by
  refine e_open RX6 rfl (by decide +kernel) rfl (fun _ => Nat.le_of_ble_eq_true rfl) (fun x X F => ?_)
  have L : rdN z 200 0 = none → ∀ (c e p k : Nat) (S2 : St), 200 - p < c → p ≤ 110 → 200 ≤ e + p → Good S2 → (p < zN z → rdN z e p = none) → rnN z 200 (n, w, se, sp, hr, lt, hd, sc, so, fi, wo) 0 0 = rnN z e S2 p k → k ≤ p → e_E x 20 [some (.ref 4), some (.ref 0), some (.int (-1)), some (.int (nI k)), some (.int (nI p))] [] (lz S2 z) := by
    intro hr0 c
    have tF : textF (n, w, se, sp, hr, lt, hd, sc, so, fi, wo) z = (rnN z 200 (n, w, se, sp, hr, lt, hd, sc, so, fi, wo) 0 0).1 := by unfold textF; rw [hr0]
    induction c with
    | zero => intro e p k S2 hc; exact absurd hc (Nat.not_lt_zero _)
    | succ c ih =>
      intro e p k S2 hc hp he hg hrd hv hkp
      obtain ⟨e, rfl⟩ : ∃ e', e = e' + 1 := ⟨e - 1, by omega⟩
      obtain ⟨n2, w2, se2, sp2, hr2, lt2, hd2, sc2, so2, fi2, wo2⟩ := S2
      have hnl := nd_le (hereF z p)
      have hnf : ndF z p = ndC (hereF z p) := rfl
      have hok : p < zN z → okS z p = true := fun hlt => by
        cases q : okS z p
        · have h1 := hrd hlt
          rw [rdN_bad q] at h1
          cases h1
        · rfl
      have hnx : p < zN z → nxF z p < zN z → rdN z e (nxF z p) = none := fun hlt hlt2 => by
        have h1 := hrd hlt
        rw [rdN_ok (hok hlt), if_pos hlt2] at h1
        exact h1
      have hun : p < zN z → rnN z (e + 1) (n2, w2, se2, sp2, hr2, lt2, hd2, sc2, so2, fi2, wo2) p k = (if stpB (n2, w2, se2, sp2, hr2, lt2, hd2, sc2, so2, fi2, wo2) (hereF z p) (numA z p) (numB z p) (numE z p) = true then rnN z e (stpS (n2, w2, se2, sp2, hr2, lt2, hd2, sc2, so2, fi2, wo2) (hereF z p) (numA z p) (numB z p) (numE z p)) (nxF z p) (k + 1) else (-2000 - nI p, (n2, w2, se2, sp2, hr2, lt2, hd2, sc2, so2, fi2, wo2))) := fun hlt => if_pos hlt
      have hen : ¬ p < zN z → rnN z (e + 1) (n2, w2, se2, sp2, hr2, lt2, hd2, sc2, so2, fi2, wo2) p k = (nI k, (n2, w2, se2, sp2, hr2, lt2, hd2, sc2, so2, fi2, wo2)) := fun hlt => if_neg hlt
      refine ei_iload X dX6_comes_20 rfl ?_
      refine ei_aload_n X dX6_comes_22 rfl rfl ?_
      refine ei_getf X fl_RX6_15 dX6_comes_23 rfl rfl ?_
      refine ei_icmpn_ge (tgt := 69) X dX6_comes_26 (by decide) (by first | omega | assumption) (by first | omega | assumption) (fun cq26 => ?_) (fun cq26 => ?_)
      · refine ei_iload_n X dX6_comes_69 rfl rfl ?_
        refine ei_ireturn X F dX6_comes_70 ?_
        have e2 := hen (by omega)
        exact ⟨by rw [tF, hv, e2], (n2, w2, se2, sp2, hr2, lt2, hd2, sc2, so2, fi2, wo2), fun _ => by rw [hv, e2], rfl⟩
      · have hlt : p < zN z := (by omega)
        have hh := here_t hlt
        have hun2 := hun hlt
        refine ei_aload_n X dX6_comes_29 rfl rfl ?_
        refine ei_iload X dX6_comes_30 rfl ?_
        refine ei_aload_n X dX6_comes_32 rfl rfl ?_
        refine ei_callT1 X ml_RX6_21 dX6_comes_33 (ct_X6_isDone _ _ _ _ _ _ _ _ _ _ _ z p h_z hlt hg (hok hlt)) rfl rfl (by decide) (by decide) (Nat.le_of_ble_eq_true rfl) ?_
        refine ei_ifz_ne (tgt := 46) X dX6_comes_36 (by decide) (fun cq36 => ?_) (fun cq36 => ?_)
        · rw [if_pos cq36]
          rw [if_pos cq36] at hun2
          refine ei_iinc_n X dX6_comes_46 rfl rfl ?_
          refine ei_iload X dX6_comes_49 rfl ?_
          refine ei_aload_n X dX6_comes_51 rfl rfl ?_
          refine ei_getf X fl_RX6_25 dX6_comes_52 rfl rfl ?_
          refine ei_iload X dX6_comes_55 rfl ?_
          refine ei_iaload_n X dX6_comes_57 rfl (by first | omega | assumption) (by decide) ?_
          refine ei_callT1 X ml_RX6_29 dX6_comes_58 (ct_X6_digitsBehind _ _) rfl rfl (by decide) (by decide) (Nat.le_of_ble_eq_true rfl) ?_
          rw [← hh]
          refine ei_iadd X dX6_comes_61 ?_
          rw [nI_add]
          refine ei_iconst (v := nI 2) X dX6_comes_62 rfl ?_
          refine ei_iadd X dX6_comes_63 ?_
          rw [nI_add]
          refine ei_istore X dX6_comes_64 (Nat.le_of_ble_eq_true rfl) rfl ?_
          refine ei_goto (tgt := 20) X dX6_comes_66 (by decide) ?_
          exact ih e (nxF z p) (k + 1) _ (by unfold nxF; omega) (by unfold nxF; omega) (by unfold nxF; omega) (good_stp hg (okS_dig (hok hlt)).1 (num_ok (hok hlt)) cq36) (hnx hlt) (by rw [hv, hun2]) (by unfold nxF; omega)
        · rw [if_neg (by rw [cq36]; exact Bool.false_ne_true)]
          rw [if_neg (by rw [cq36]; exact Bool.false_ne_true)] at hun2
          refine ei_sipush (v := -2000) X dX6_comes_39 rfl ?_
          refine ei_iload X dX6_comes_42 rfl ?_
          refine ei_isub X dX6_comes_44 ?_
          refine ei_ireturn X F dX6_comes_45 ?_
          have e2 : textF (n, w, se, sp, hr, lt, hd, sc, so, fi, wo) z = -2000 - nI p := (by rw [tF, hv, hun2])
          have hlt2 : -2000 - nI p < 0 := neg_lt (c := -2000) (by decide) (by decide) (by omega)
          exact ⟨by rw [e2], (n2, w2, se2, sp2, hr2, lt2, hd2, sc2, so2, fi2, wo2), fun q => absurd (Int32.lt_of_lt_of_le (by rw [e2]; exact hlt2) q) (Int32.lt_irrefl), rfl⟩
  have EN : rdN z 200 0 = none → e_E x 4 [some (.ref 4), some (.ref 0), none, none, none] [.int (-1)] (lz (n, w, se, sp, hr, lt, hd, sc, so, fi, wo) z) := by
    intro hr0
    refine ei_istore_n X dX6_comes_4 rfl (Nat.le_of_ble_eq_true rfl) rfl ?_
    refine ei_iload_n X dX6_comes_5 rfl rfl ?_
    refine ei_if_lt (tgt := 15) X dX6_comes_6 (by decide) (fun cq6 => ?_) (fun cq6 => ?_)
    · refine ei_iconst (v := nI 0) X dX6_comes_15 rfl ?_
      refine ei_istore_n X dX6_comes_16 rfl (Nat.le_of_ble_eq_true rfl) rfl ?_
      refine ei_iconst (v := nI 0) X dX6_comes_17 rfl ?_
      refine ei_istore X dX6_comes_18 (Nat.le_of_ble_eq_true rfl) rfl ?_
      exact L hr0 201 200 0 0 (n, w, se, sp, hr, lt, hd, sc, so, fi, wo) (by omega) (by omega) (by omega) h_S (fun _ => hr0) rfl (by omega)
    · first | exact absurd cq6 (by decide) | exact absurd (by decide) cq6
  have ES : ∀ q, rdN z 200 0 = some q → q < 1000 → e_E x 4 [some (.ref 4), some (.ref 0), none, none, none] [.int (nI q)] (lz (n, w, se, sp, hr, lt, hd, sc, so, fi, wo) z) := by
    intro q hr0 hq
    have tF : textF (n, w, se, sp, hr, lt, hd, sc, so, fi, wo) z = -1000 - nI q := by unfold textF; rw [hr0]
    have hlt : -1000 - nI q < 0 := neg_lt (c := -1000) (by decide) (by decide) (by omega)
    refine ei_istore_n X dX6_comes_4 rfl (Nat.le_of_ble_eq_true rfl) rfl ?_
    refine ei_iload_n X dX6_comes_5 rfl rfl ?_
    refine ei_if_lt (tgt := 15) X dX6_comes_6 (by decide) (fun cq6 => ?_) (fun cq6 => ?_)
    · exact absurd cq6 (nI_pos (by omega))
    · refine ei_sipush (v := -1000) X dX6_comes_9 rfl ?_
      refine ei_iload_n X dX6_comes_12 rfl rfl ?_
      refine ei_isub X dX6_comes_13 ?_
      refine ei_ireturn X F dX6_comes_14 ?_
      exact ⟨by rw [tF], (n, w, se, sp, hr, lt, hd, sc, so, fi, wo), fun y => absurd (Int32.lt_of_lt_of_le (by rw [tF]; exact hlt) y) (Int32.lt_irrefl), rfl⟩
  have hq : ∀ (e p q : Nat), p ≤ 110 → rdN z e p = some q → q < 1000 := by
    intro e
    induction e with
    | zero => intro p q _ h; cases h
    | succ e ih =>
      intro p q hp h
      have hnl := nd_le (hereF z p)
      have hnf : ndF z p = ndC (hereF z p) := rfl
      cases k : okS z p
      · rw [rdN_bad k] at h
        cases h
        unfold bdF
        split
        · omega
        · have := (firstN_ge (fun j => !isD z j) (ndF z p) (p + 1)).2
          unfold qdF
          omega
      · rw [rdN_ok k] at h
        split at h
        · exact ih (nxF z p) q (by unfold nxF at *; omega) h
        · cases h
  refine ei_aload_n X dX6_comes_0 rfl rfl ?_
  refine ei_cs1 [4, 5] (lz_gZ _ _) (lz_pZ _ _ _) X ml_RX6_9 dX6_comes_1 (ct_X6_firstWrong _ (by first | omega | assumption)) rfl rfl (by decide) (by decide) (Nat.le_of_ble_eq_true rfl) (by decide) ?_
  cases hrd : rdN z 200 0 with
  | none => rw [wrI_n hrd]; exact EN hrd
  | some q => rw [wrI_s hrd]; exact ES q hrd (hq 200 0 q (by omega) hrd)

