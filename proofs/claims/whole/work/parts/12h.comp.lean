/-! ===== tries ===== -/
theorem try_nI {a b : Nat} (ha : a < 10) (hb : b < 10) : tryF (nI a) (nI b) = nI (tryN a b) := by
  have key : ∀ a, a < 10 → ∀ b, b < 10 → tryF (nI a) (nI b) = nI (tryN a b) := by decide +kernel
  exact key a ha b hb
/-- what of the odds waits, up to b -/
def wtN (wo : Nat → Int32) (v : Int32) (b : Nat) : Nat := odO wo (mf v b) (mc v b)
theorem wt_s {wo : Nat → Int32} {v : Int32} {b : Nat} : wtN wo v (b + 1) = if hasB v b = true then wtN wo v b + (nc (wo b) + 1) else wtN wo v b := by
  unfold wtN
  cases q : hasB v b
  · rw [if_neg Bool.false_ne_true, mc_f q]
    exact odO_ext (fun j hj => mf_st hj (by omega))
  · rw [if_pos rfl, mc_t q]
    show sumN (fun j => nc (wo (mf v (b + 1) j)) + 1) (mc v b) + (nc (wo (mf v (b + 1) (mc v b))) + 1) = _
    have e1 : mf v (b + 1) (mc v b) = b := if_pos ⟨q, rfl⟩
    rw [e1, sumN_ext (mc v b) (fun j hj => by rw [mf_st (b := b) (n := b + 1) hj (by omega)])]
    rfl
theorem wt_le {wo : Nat → Int32} (h : GdV wo 999) (v : Int32) : ∀ b, b ≤ 10 → wtN wo v b ≤ 1000 * b
  | 0, _ => Nat.le_refl _
  | b + 1, hb => by
    have h1 := wt_le h v b (by omega)
    have h2 := (gdV_nI (m := 999) (by decide) h (show b < 10 by omega)).2
    rw [wt_s]
    split <;> omega
theorem fw_le {wo : Nat → Int32} (hw : GdV wo 999) : ∀ (m : Nat) (f : Nat → Nat) (at0 : Nat), m ≤ 5 → at0 < 10 → (∀ k, k < m → f k < 10) → fwN wo m f at0 ≤ 17 * 5000 * m
  | 0, _, _, _, _, _ => Nat.zero_le _
  | m + 1, f, at0, hm, h1, h2 => by
    refine Nat.le_trans (mnN_le _ 0 m 0 (Nat.zero_le _)) ?_
    show tryN at0 (f 0) * odO wo f (m + 1) + fwN wo m (rmF f 0) (f 0) ≤ _
    have h4 := fw_le hw m (rmF f 0) (f 0) (by omega) (h2 0 (by omega)) (fun k hk => by unfold rmF; split; exact h2 k (by omega); exact h2 (k + 1) (by omega))
    have h5 : odO wo f (m + 1) ≤ 1000 * (m + 1) := sumN_le _ (fun j hj => by have := (gdV_nI (m := 999) (by decide) hw (h2 j hj)).2; omega)
    have h6 : tryN at0 (f 0) ≤ 17 := by
      have := h2 0 (by omega)
      unfold tryN
      split <;> omega
    have h7 : tryN at0 (f 0) * odO wo f (m + 1) ≤ 17 * 5000 := Nat.mul_le_mul h6 (by omega)
    omega
theorem by_le {wo : Nat → Int32} (hw : GdV wo 999) {m : Nat} {f : Nat → Nat} {at0 i : Nat} (hm : m + 1 ≤ 5) (h1 : at0 < 10) (h2 : ∀ k, k < m + 1 → f k < 10) (hi : i < m + 1) : byO wo m f at0 i ≤ 17 * 5000 * 5 := by
  have h4 := fw_le hw m (rmF f i) (f i) (by omega) (h2 i hi) (fun k hk => by unfold rmF; split; exact h2 k (by omega); exact h2 (k + 1) (by omega))
  have h5 : odO wo f (m + 1) ≤ 1000 * (m + 1) := sumN_le _ (fun j hj => by have := (gdV_nI (m := 999) (by decide) hw (h2 j hj)).2; omega)
  have h6 : tryN at0 (f i) ≤ 17 := by
    have := h2 i hi
    unfold tryN
    split <;> omega
  have h7 : tryN at0 (f i) * odO wo f (m + 1) ≤ 17 * 5000 := Nat.mul_le_mul h6 (by omega)
  unfold byO
  omega
theorem mf10 {v : Int32} {n : Nat} (hn : n ≤ 10) : ∀ k, k < mc v n → mf v n k < 10 := fun k hk => Nat.lt_of_lt_of_le (mf_in n k hk).1 hn
abbrev ctF (r : Nat) : Prop := ∀ (n : Nat) (w se sp hr lt hd sc : Int32) (so fi wo : Nat → Int32) (v : Int32) (at0 t : Nat), n ≤ 10 → GdV wo 999 → at0 < 10 → t + r = 5 → mc v n ≤ r → BN n v → e_Ct yX7_fewest cX7_fewest 6 (some .int) (2 * r + 1) [.ref 0, .int v, .int (nI at0), .int (nI t)] (lH (n, w, se, sp, hr, lt, hd, sc, so, fi, wo)) (e_eq (some (.int (nI (fwN wo (mc v n) (mf v n) at0)))) (lH (n, w, se, sp, hr, lt, hd, sc, so, fi, wo)))
abbrev ctB (r : Nat) : Prop := ∀ (n : Nat) (w se sp hr lt hd sc : Int32) (so fi wo : Nat → Int32) (v : Int32) (at0 b m t : Nat), n ≤ 10 → GdV wo 999 → at0 < 10 → t + r = 4 → mc v n = m + 1 → m ≤ r → BN n v → b < n → hasB v b = true → e_Ct yX7_fewestBy cX7_fewestBy 7 (some .int) (2 * r + 2) [.ref 0, .int v, .int (nI at0), .int (nI b), .int (nI t)] (lH (n, w, se, sp, hr, lt, hd, sc, so, fi, wo)) (e_eq (some (.int (nI (byO wo m (mf v n) at0 (mc v b))))) (lH (n, w, se, sp, hr, lt, hd, sc, so, fi, wo)))
set_option maxRecDepth 100000 in
set_option maxHeartbeats 1000000 in
theorem ct_by {r : Nat} (hF : ctF r) : ctB r := by
  intro n w se sp hr lt hd sc so fi wo v at0 b m t hn hw hat htr hm hmr hB hb hvb
  refine e_open RX7 rfl (by decide +kernel) rfl (fun _ => Nat.le_of_ble_eq_true rfl) (fun x X F => ?_)
  have hwl := wt_le hw v n hn
  have L : ∀ (c j : Nat), n - j < c → j ≤ n → e_E x 6 [some (.ref 0), some (.int v), some (.int (nI at0)), some (.int (nI b)), some (.int (nI t)), some (.int (nI (wtN wo v j))), some (.int (nI j))] [] (lH (n, w, se, sp, hr, lt, hd, sc, so, fi, wo)) := by
    intro c
    induction c with
    | zero => intro j hc; exact absurd hc (Nat.not_lt_zero _)
    | succ c ih =>
      intro j hc hj
      have hrm := mb_rm (v := v) (w := v &&& (bitI b ^^^ (-1))) hvb (fun k hk => hasB_clr (by omega) hk) n hb hn
      have hi := mf_at hvb hb
      refine ei_iload X dX7_fewestBy_6 rfl ?_
      refine ei_aload_n X dX7_fewestBy_8 rfl rfl ?_
      refine ei_getf X fl_RX7_22 dX7_fewestBy_9 rfl rfl ?_
      refine ei_icmpn_ge (tgt := 42) X dX7_fewestBy_12 (by decide) (by first | omega | assumption) (by first | omega | assumption) (fun cq12 => ?_) (fun cq12 => ?_)
      · refine ei_aload_n X dX7_fewestBy_42 rfl rfl ?_
        refine ei_iload_n X dX7_fewestBy_43 rfl rfl ?_
        refine ei_iconst (v := 1) X dX7_fewestBy_44 rfl ?_
        refine ei_iload_n X dX7_fewestBy_45 rfl rfl ?_
        refine ei_ishl X dX7_fewestBy_46 ?_
        refine ei_iconst (v := -1) X dX7_fewestBy_47 rfl ?_
        refine ei_ixor X dX7_fewestBy_48 ?_
        refine ei_iand X dX7_fewestBy_49 ?_
        refine ei_iload_n X dX7_fewestBy_50 rfl rfl ?_
        refine ei_iload X dX7_fewestBy_51 rfl ?_
        refine ei_iconst (v := nI 1) X dX7_fewestBy_53 rfl ?_
        refine ei_iadd X dX7_fewestBy_54 ?_
        rw [nI_add]
        refine ei_callT1 X ml_RX7_15 dX7_fewestBy_55 (hF _ _ _ _ _ _ _ _ _ _ _ (v &&& (bitI b ^^^ (-1))) b (t + 1) hn hw (by omega) (by omega) (by omega) (BN_clr hB _)) rfl rfl (by omega) (by decide) (Nat.le_of_ble_eq_true rfl) ?_
        refine ei_istore X dX7_fewestBy_58 (Nat.le_of_ble_eq_true rfl) rfl ?_
        refine ei_iload_n X dX7_fewestBy_60 rfl rfl ?_
        refine ei_iload_n X dX7_fewestBy_61 rfl rfl ?_
        refine ei_callT1 X ml_RX7_39 dX7_fewestBy_62 (ct_X2_trySeconds _ (nI at0) (nI b)) rfl rfl (by omega) (by decide) (Nat.le_of_ble_eq_true rfl) ?_
        rw [try_nI hat (by omega)]
        refine ei_iload X dX7_fewestBy_65 rfl ?_
        refine ei_imul X dX7_fewestBy_67 ?_
        rw [nI_mul]
        refine ei_iload X dX7_fewestBy_68 rfl ?_
        refine ei_iadd X dX7_fewestBy_70 ?_
        rw [nI_add]
        refine ei_ireturn X F dX7_fewestBy_71 ?_
        exact ⟨by have e1 : wtN wo v j = odO wo (mf v n) (m + 1) := (by rw [show j = n by omega]; unfold wtN; rw [hm]); have e2 : mc (v &&& (bitI b ^^^ (-1))) n = m := (by have := hrm.1; omega); have e3 : fwN wo m (mf (v &&& (bitI b ^^^ (-1))) n) b = fwN wo m (rmF (mf v n) (mc v b)) b := fwN_ext m b (fun k hk => hrm.2 k (by omega)); rw [e1, e2, e3]; unfold byO; rw [hi.1], rfl⟩
      · refine ei_iload_n X dX7_fewestBy_15 rfl rfl ?_
        refine ei_iload X dX7_fewestBy_16 rfl ?_
        refine ei_ishr X dX7_fewestBy_18 ?_
        refine ei_iconst (v := 1) X dX7_fewestBy_19 rfl ?_
        refine ei_iand X dX7_fewestBy_20 ?_
        refine ei_iconst (v := 1) X dX7_fewestBy_21 rfl ?_
        refine ei_icmp_ne (tgt := 36) X dX7_fewestBy_22 (by decide) (fun cq22 => ?_) (fun cq22 => ?_)
        · refine ei_iinc_n X dX7_fewestBy_36 rfl rfl ?_
          refine ei_goto (tgt := 6) X dX7_fewestBy_39 (by decide) ?_
          exact (fun h0 => by rw [wt_s, if_neg (show ¬ hasB v j = true from fun z => cq22 (of_decide_eq_true z))] at h0; exact h0) (ih (j + 1) (by omega) (by omega))
        · refine ei_iload X dX7_fewestBy_25 rfl ?_
          refine ei_aload_n X dX7_fewestBy_27 rfl rfl ?_
          refine ei_iload X dX7_fewestBy_28 rfl ?_
          refine ei_callI1 X ml_RX7_35 dX7_fewestBy_30 (ct_X2_oddsOf _ _ _ _ _ _ _ _ _ _ _ j (by omega)) rfl rfl (by omega) (by decide) rfl (Nat.le_of_ble_eq_true rfl) ?_
          rw [(gdV_nI (m := 999) (by decide) hw (show j < 10 by omega)).1, nI_1]
          refine ei_iadd X dX7_fewestBy_33 ?_
          rw [nI_add]
          refine ei_istore X dX7_fewestBy_34 (Nat.le_of_ble_eq_true rfl) rfl ?_
          refine ei_iinc_n X dX7_fewestBy_36 rfl rfl ?_
          refine ei_goto (tgt := 6) X dX7_fewestBy_39 (by decide) ?_
          exact (fun h0 => by rw [wt_s, if_pos (show hasB v j = true from decide_eq_true cq22)] at h0; exact h0) (ih (j + 1) (by omega) (by omega))
  refine ei_iconst (v := nI 0) X dX7_fewestBy_0 rfl ?_
  refine ei_istore X dX7_fewestBy_1 (Nat.le_of_ble_eq_true rfl) rfl ?_
  refine ei_iconst (v := nI 0) X dX7_fewestBy_3 rfl ?_
  refine ei_istore X dX7_fewestBy_4 (Nat.le_of_ble_eq_true rfl) rfl ?_
  exact L (n + 1) 0 (by omega) (by omega)
theorem lsF_at {g : Nat → Nat} {m : Nat} : lsF g 0 (m + 1) = nI (mnN g 0 m) := by
  unfold lsF
  rw [if_neg (Nat.succ_ne_zero m), Nat.sub_zero, Nat.add_sub_cancel]
theorem fw_s {wo : Nat → Int32} {m : Nat} {f : Nat → Nat} {at0 : Nat} : fwN wo (m + 1) f at0 = mnN (byO wo m f at0) 0 m := rfl
set_option maxRecDepth 100000 in
set_option maxHeartbeats 1000000 in
theorem ct_few0 : ctF 0 := by
  intro n w se sp hr lt hd sc so fi wo v at0 t hn hw hat htr hm hB
  have h0 : v = 0 := (mc_0 hB hn).mp (by omega)
  refine e_open RX7 rfl (by decide +kernel) rfl (fun _ => Nat.le_of_ble_eq_true rfl) (fun x X F => ?_)
  refine ei_iload_n X dX7_fewest_0 rfl rfl ?_
  refine ei_if_eq (tgt := 9) X dX7_fewest_1 (by decide) (fun cq1 => ?_) (fun cq1 => ?_)
  · refine ei_iconst (v := 0) X dX7_fewest_9 rfl ?_
    refine ei_ireturn X F dX7_fewest_10 ?_
    exact ⟨by rw [show mc v n = 0 by omega]; rfl, rfl⟩
  · exact absurd h0 cq1
set_option maxRecDepth 100000 in
set_option maxHeartbeats 1000000 in
theorem ct_fewS {r : Nat} (hBy : ctB r) : ctF (r + 1) := by
  intro n w se sp hr lt hd sc so fi wo v at0 t hn hw hat htr hm hB
  refine e_open RX7 rfl (by decide +kernel) rfl (fun _ => Nat.le_of_ble_eq_true rfl) (fun x X F => ?_)
  have L : ∀ m, mc v n = m + 1 → ∀ (c j : Nat), n - j < c → j ≤ n → e_E x 18 [some (.ref 0), some (.int v), some (.int (nI at0)), some (.int (nI t)), some (.int (lsF (byO wo m (mf v n) at0) 0 (mc v j))), some (.int (nI j))] [] (lH (n, w, se, sp, hr, lt, hd, sc, so, fi, wo)) := by
    intro m hmm c
    induction c with
    | zero => intro j hc; exact absurd hc (Nat.not_lt_zero _)
    | succ c ih =>
      intro j hc hj
      have hmj := mc_mono v hj
      refine ei_iload X dX7_fewest_18 rfl ?_
      refine ei_aload_n X dX7_fewest_20 rfl rfl ?_
      refine ei_getf X fl_RX7_22 dX7_fewest_21 rfl rfl ?_
      refine ei_icmpn_ge (tgt := 59) X dX7_fewest_24 (by decide) (by first | omega | assumption) (by first | omega | assumption) (fun cq24 => ?_) (fun cq24 => ?_)
      · refine ei_iload X dX7_fewest_59 rfl ?_
        refine ei_ireturn X F dX7_fewest_61 ?_
        exact ⟨by rw [show j = n by omega, hmm, lsF_at, fw_s], rfl⟩
      · refine ei_iload_n X dX7_fewest_27 rfl rfl ?_
        refine ei_iload X dX7_fewest_28 rfl ?_
        refine ei_ishr X dX7_fewest_30 ?_
        refine ei_iconst (v := 1) X dX7_fewest_31 rfl ?_
        refine ei_iand X dX7_fewest_32 ?_
        refine ei_iconst (v := 1) X dX7_fewest_33 rfl ?_
        refine ei_icmp_ne (tgt := 53) X dX7_fewest_34 (by decide) (fun cq34 => ?_) (fun cq34 => ?_)
        · refine ei_iinc_n X dX7_fewest_53 rfl rfl ?_
          refine ei_goto (tgt := 18) X dX7_fewest_56 (by decide) ?_
          have h0 := ih (j + 1) (by omega) (by omega)
          rw [mc_f (decide_eq_false cq34)] at h0
          exact h0
        · have hvb : hasB v j = true := decide_eq_true cq34
          have hi := mf_at hvb (show j < n by omega)
          refine ei_iload X dX7_fewest_37 rfl ?_
          refine ei_aload_n X dX7_fewest_39 rfl rfl ?_
          refine ei_iload_n X dX7_fewest_40 rfl rfl ?_
          refine ei_iload_n X dX7_fewest_41 rfl rfl ?_
          refine ei_iload X dX7_fewest_42 rfl ?_
          refine ei_iload_n X dX7_fewest_44 rfl rfl ?_
          refine ei_callT1 X ml_RX7_25 dX7_fewest_45 (hBy _ _ _ _ _ _ _ _ _ _ _ v at0 j m t hn hw hat (by omega) hmm (by omega) hB (by omega) hvb) rfl rfl (by omega) (by decide) (Nat.le_of_ble_eq_true rfl) ?_
          refine ei_mmin X ml_RX7_29 dX7_fewest_48 (Nat.le_of_ble_eq_true rfl) ?_
          rw [lsF_s (Nat.zero_le _) (fun k a1 a2 => by have := by_le hw (m := m) (f := mf v n) (at0 := at0) (i := k) (by omega) hat (by rw [← hmm]; exact mf10 hn) (by omega); omega), ← mc_t hvb]
          refine ei_istore X dX7_fewest_51 (Nat.le_of_ble_eq_true rfl) rfl ?_
          refine ei_iinc_n X dX7_fewest_53 rfl rfl ?_
          refine ei_goto (tgt := 18) X dX7_fewest_56 (by decide) ?_
          exact ih (j + 1) (by omega) (by omega)
  have ht5 : (5 : Int32) ≤ nI t → False := fun z => by
    have := (nn_le (a := 5) (b := t) (by decide) (by omega)).mp z
    omega
  refine ei_iload_n X dX7_fewest_0 rfl rfl ?_
  refine ei_if_eq (tgt := 9) X dX7_fewest_1 (by decide) (fun cq1 => ?_) (fun cq1 => ?_)
  · refine ei_iconst (v := 0) X dX7_fewest_9 rfl ?_
    refine ei_ireturn X F dX7_fewest_10 ?_
    exact ⟨by rw [(mc_0 hB hn).mpr cq1]; rfl, rfl⟩
  · refine ei_iload_n X dX7_fewest_4 rfl rfl ?_
    refine ei_iconst (v := 5) X dX7_fewest_5 rfl ?_
    refine ei_icmp_lt (tgt := 11) X dX7_fewest_6 (by decide) (fun cq6 => ?_) (fun cq6 => ?_)
    · have hv0 : ¬ mc v n = 0 := (fun z => cq1 ((mc_0 hB hn).mp z))
      obtain ⟨m, hmm⟩ : ∃ m, mc v n = m + 1 := ⟨mc v n - 1, by omega⟩
      refine ei_ldc X cw_RX7_21 dX7_fewest_11 ?_
      refine ei_istore X dX7_fewest_13 (Nat.le_of_ble_eq_true rfl) rfl ?_
      refine ei_iconst (v := nI 0) X dX7_fewest_15 rfl ?_
      refine ei_istore X dX7_fewest_16 (Nat.le_of_ble_eq_true rfl) rfl ?_
      exact L m hmm (n + 1) 0 (by omega) (by omega)
    · exact (ht5 (Int32.not_lt.mp cq6)).elim
theorem ct_fewAll : ∀ r, ctF r
  | 0 => ct_few0
  | r + 1 => ct_fewS (ct_by (ct_fewAll r))

