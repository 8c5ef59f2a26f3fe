section EW
variable {x : e_T} {own : String} {cc : ByteArray} {d pc : Nat} {ls : List (Option Value)} {st : List Value} {h : List eC}
theorem ei_ldc_w {idx : Nat} {v : Int32} (X : e_X x own cc d) (hw : Cond.constant own idx v ∈ e_ws) (hd : decode cc pc = .ok (.ldc_w idx, 3)) (kk : e_E x (pc + 3) ls (.int v :: st) h) : e_E x pc ls st h := by
  obtain ⟨p, l, e, R, s, m, args, below, meth, c, dC, dI, dA, ad, A, N, nL, cells, slots, Q⟩ := x
  intro hL hN H locs la hP hS hl
  exact lv_ldcw X.1 X.2.1 X.2.2.2.1 (X.2.2.2.2.1 _ hw) hd (kk hL hN H locs la hP hS hl)
end EW
/-! ===== fractions ===== -/
theorem lN_toI {n : Nat} (h : n < 2 ^ 63) : (lN n).toInt = (n : Int) := lg_ofNat_toInt h
theorem lN_0 {n : Nat} (h : n < 2 ^ 63) : lN n = 0 ↔ n = 0 := by
  rw [← Int64.toInt_inj, lN_toI h, Int64.toInt_zero]
  omega
def partF (a b : Nat) (part : Int32) : Int64 := if a = 0 then part.toInt64 else if part = 0 then lN (a / Nat.gcd a b) else lN (b / Nat.gcd a b)
set_option maxRecDepth 100000 in
set_option maxHeartbeats 4000000 in
theorem ct_X10_divisor (h : List eC) (a b : Nat) (h_a : a < 2 ^ 62) (h_b : b < 2 ^ 62) : e_Ct yX10_divisor cX10_divisor 10 (some .long) 1 [.long (lN a), .long (lN b)] h (e_eq (some (.long (lN (Nat.gcd a b)))) h) := by
  refine e_open RX10 rfl (by decide +kernel) rfl (fun _ => Nat.le_of_ble_eq_true rfl) (fun x X F => ?_)
  have L : ∀ (m u v : Nat), v < m → u < 2 ^ 62 → v < 2 ^ 62 → Nat.gcd u v = Nat.gcd a b → e_E x 6 [some (.long (lN a)), none, some (.long (lN b)), none, some (.long (lN u)), none, some (.long (lN v)), none, none, none] [] h := by
    intro m
    induction m with
    | zero => intro u v hk; exact absurd hk (Nat.not_lt_zero _)
    | succ m ih =>
      intro u v hk hu hv hg
      refine ei_lload X dX10_divisor_6 rfl ?_
      refine ei_lconst (v := 0) X dX10_divisor_8 rfl ?_
      refine ei_lcmp X dX10_divisor_9 ?_
      refine ei_ifc_eq (tgt := 31) X dX10_divisor_10 (by decide) (fun cq10 => ?_) (fun cq10 => ?_)
      · skip
        refine ei_lload X dX10_divisor_31 rfl ?_
        refine ei_lreturn X F dX10_divisor_33 ?_
        exact ⟨by have v0 : v = 0 := (lN_0 (by omega)).mp cq10; rw [← hg, v0, Nat.gcd_zero_right], rfl⟩
      · refine ei_lload X dX10_divisor_13 rfl ?_
        refine ei_lload X dX10_divisor_15 rfl ?_
        refine ei_lrem X dX10_divisor_17 cq10 ?_
        have v0 : 0 < v := Nat.pos_of_ne_zero (fun z => cq10 (by rw [z]; rfl))
        rw [pk_lRem (by omega) v0 (by omega)]
        refine ei_lstore X dX10_divisor_18 (Nat.le_of_ble_eq_true rfl) rfl ?_
        refine ei_lload X dX10_divisor_20 rfl ?_
        refine ei_lstore X dX10_divisor_22 (Nat.le_of_ble_eq_true rfl) rfl ?_
        refine ei_lload X dX10_divisor_24 rfl ?_
        refine ei_lstore X dX10_divisor_26 (Nat.le_of_ble_eq_true rfl) rfl ?_
        refine ei_goto (tgt := 6) X dX10_divisor_28 (by decide) ?_
        have hlt := Nat.mod_lt u v0
        refine ei_drop 8 ?_
        exact ih v (u % v) (by omega) (by omega) (by omega) (by rw [← hg, Nat.gcd_comm u v, Nat.gcd_comm v (u % v)]; exact (Nat.gcd_rec v u).symm)
  refine ei_lload_n X dX10_divisor_0 rfl rfl ?_
  refine ei_lstore X dX10_divisor_1 (Nat.le_of_ble_eq_true rfl) rfl ?_
  refine ei_lload_n X dX10_divisor_3 rfl rfl ?_
  refine ei_lstore X dX10_divisor_4 (Nat.le_of_ble_eq_true rfl) rfl ?_
  exact L (b + 1) a b (by omega) h_a h_b rfl
set_option maxRecDepth 100000 in
set_option maxHeartbeats 4000000 in
theorem ct_X10_partOf (h : List eC) (a b : Nat) (part : Int32) (h_a : a < 2 ^ 62) (h_b : b < 2 ^ 62) : e_Ct yX10_partOf cX10_partOf 7 (some .long) 2 [.long (lN a), .long (lN b), .int part] h (e_eq (some (.long (partF a b part))) h) := by
  refine e_open RX10 rfl (by decide +kernel) rfl (fun _ => Nat.le_of_ble_eq_true rfl) (fun x X F => ?_)
  refine ei_lload_n X dX10_partOf_0 rfl rfl ?_
  refine ei_lconst (v := 0) X dX10_partOf_1 rfl ?_
  refine ei_lcmp X dX10_partOf_2 ?_
  refine ei_ifc_ne (tgt := 10) X dX10_partOf_3 (by decide) (fun cq3 => ?_) (fun cq3 => ?_)
  · have a0 : ¬ a = 0 := (fun z => cq3 (by rw [z]; rfl))
    have g0 : 0 < Nat.gcd a b := Nat.gcd_pos_of_pos_left _ (Nat.pos_of_ne_zero a0)
    have g1 : Nat.gcd a b ≤ a := Nat.gcd_le_left _ (Nat.pos_of_ne_zero a0)
    have gn : ¬ lN (Nat.gcd a b) = 0 := (fun z => by have := (lN_0 (by omega)).mp z; omega)
    refine ei_lload_n X dX10_partOf_10 rfl rfl ?_
    refine ei_lload_n X dX10_partOf_11 rfl rfl ?_
    refine ei_callT1 X ml_RX10_301 dX10_partOf_12 (ct_X10_divisor _ _ _ (by first | omega | assumption) (by first | omega | assumption)) rfl rfl (by decide) (by decide) (Nat.le_of_ble_eq_true rfl) ?_
    refine ei_lstore X dX10_partOf_15 (Nat.le_of_ble_eq_true rfl) rfl ?_
    refine ei_iload X dX10_partOf_17 rfl ?_
    refine ei_if_ne (tgt := 29) X dX10_partOf_19 (by decide) (fun cq19 => ?_) (fun cq19 => ?_)
    · refine ei_lload_n X dX10_partOf_29 rfl rfl ?_
      refine ei_lload X dX10_partOf_30 rfl ?_
      refine ei_ldiv X dX10_partOf_32 gn ?_
      refine ei_lreturn X F dX10_partOf_33 ?_
      exact ⟨by unfold partF; rw [if_neg a0, if_neg cq19, pk_lDiv (by omega) g0 (by omega)], rfl⟩
    · refine ei_lload_n X dX10_partOf_22 rfl rfl ?_
      refine ei_lload X dX10_partOf_23 rfl ?_
      refine ei_ldiv X dX10_partOf_25 gn ?_
      refine ei_goto (tgt := 33) X dX10_partOf_26 (by decide) ?_
      refine ei_lreturn X F dX10_partOf_33 ?_
      exact ⟨by unfold partF; rw [if_neg a0, if_pos cq19, pk_lDiv (by omega) g0 (by omega)], rfl⟩
  · refine ei_iload X dX10_partOf_6 rfl ?_
    refine ei_i2l X dX10_partOf_8 ?_
    refine ei_lreturn X F dX10_partOf_9 ?_
    exact ⟨by unfold partF; rw [if_pos ((lN_0 (by omega)).mp cq3)], rfl⟩
theorem wornAll_nI {S : St} (h : Good S) : ∃ s, s ≤ 10000 ∧ wornAll (sN S) (sR S) = nI s := by
  have key : ∀ (k i a : Nat), i + k ≤ 10 → ∃ s, s ≤ a + 999 * k ∧ itr (fun a b => a + sR S b) (nI a) i k = nI s := by
    intro k
    induction k with
    | zero => intro i a _; exact ⟨a, by omega, rfl⟩
    | succ k ih =>
      intro i a hk
      obtain ⟨v, hv, he⟩ := i32_of (m := 999) (by decide) (h.2.2.2.1 i (by omega))
      rw [itr_s, he, nI_add]
      obtain ⟨s, h1, h2⟩ := ih (i + 1) (a + v) (by omega)
      exact ⟨s, by omega, h2⟩
  obtain ⟨s, h1, h2⟩ := key (sN S) 0 0 (by have := h.1; omega)
  exact ⟨s, by have := h.1; omega, h2⟩
def shareF (S : St) (b part : Int32) : Int64 := if hasF (sN S) b = true ∧ inI part 0 1 = true then partF (nc (sR S (nc b))) (nc (wornAll (sN S) (sR S))) part else 1000000001
set_option maxRecDepth 100000 in
set_option maxHeartbeats 4000000 in
theorem ct_X10_share (n : Nat) (w se sp hr lt hd sc : Int32) (so fi wo : Nat → Int32) (I : Nat → Int32) (A : Nat → Nat → Int32) (B : Nat → Nat → Int64) (K : Value) (b part : Int32) (h_S : Good (n, w, se, sp, hr, lt, hd, sc, so, fi, wo)) : e_Ct yX10_share cX10_share 3 (some .long) 3 [.ref 0, .int b, .int part] (mH (n, w, se, sp, hr, lt, hd, sc, so, fi, wo) (I, A, B, K)) (mP (some (.long (shareF (n, w, se, sp, hr, lt, hd, sc, so, fi, wo) b part))) (n, w, se, sp, hr, lt, hd, sc, so, fi, wo) (I, A, B, K)) := by
  refine e_open RX10 rfl (by decide +kernel) rfl (fun _ => Nat.le_of_ble_eq_true rfl) (fun x X F => ?_)
  have hn : n ≤ 10 := h_S.1
  refine ei_aload_n X dX10_share_0 rfl rfl ?_
  refine ei_iconst (v := 0) X dX10_share_1 rfl ?_
  refine ei_puti X fp_RX10_78 dX10_share_2 rfl (Nat.le_of_ble_eq_true rfl) (pm_20 _ _ _ _ _ _ _ _ _ _ _ _ _ _ _ _) ?_
  refine ei_aload_n X dX10_share_5 rfl rfl ?_
  refine ei_iload_n X dX10_share_6 rfl rfl ?_
  refine ei_callI1 X ml_RX10_193 dX10_share_7 (ct_X10_isBulb _ _ _ _ _ _ _ _ _ _ _ _ _ _ _ _ (by first | omega | assumption)) rfl rfl (by decide) (by decide) rfl (Nat.le_of_ble_eq_true rfl) ?_
  refine ei_ifz_eq (tgt := 23) X dX10_share_10 (by decide) (fun cq10 => ?_) (fun cq10 => ?_)
  · refine ei_ldc2 X cw_RX10_305 dX10_share_23 ?_
    refine ei_lreturn X F dX10_share_26 ?_
    exact ⟨by simp only [shareF, sN, sW, sE, sP, sH, sL, sD, sC, sO, sG, sR, cq10, Bool.false_eq_true, false_and, if_false], _, kM_20 _ _ _ _ 0, rfl⟩
  · refine ei_iload_n X dX10_share_13 rfl rfl ?_
    refine ei_i2l X dX10_share_14 ?_
    refine ei_lconst (v := 0) X dX10_share_15 rfl ?_
    refine ei_lconst (v := 1) X dX10_share_16 rfl ?_
    refine ei_callT1 X ml_RX10_84 dX10_share_17 (ct_X10_in _ _ _ _) rfl rfl (by decide) (by decide) (Nat.le_of_ble_eq_true rfl) ?_
    rw [in_0_1]
    refine ei_ifz_ne (tgt := 27) X dX10_share_20 (by decide) (fun cq20 => ?_) (fun cq20 => ?_)
    · obtain ⟨k, hk, rfl⟩ := (hasF_iff (by omega)).mp cq10
      have hnc : nc (nI k) = k := nc_nI (by omega)
      obtain ⟨v, hv, he⟩ := i32_of (m := 999) (by decide) (h_S.2.2.2.1 k (by omega))
      obtain ⟨sm, hsm, hes⟩ := wornAll_nI h_S
      simp only [sN, sW, sE, sP, sH, sL, sD, sC, sO, sG, sR] at he hes
      refine ei_aload_n X dX10_share_27 rfl rfl ?_
      refine ei_getf X fl_RX10_16 dX10_share_28 rfl rfl ?_
      refine ei_iload_n X dX10_share_31 rfl rfl ?_
      refine ei_iaload_n X dX10_share_32 rfl (by first | omega | assumption) (by decide) ?_
      rw [he]
      refine ei_i2l X dX10_share_33 ?_
      rw [nI_l (show v < 2 ^ 31 by omega)]
      refine ei_aload_n X dX10_share_34 rfl rfl ?_
      refine ei_callI1 X ml_RX10_269 dX10_share_35 (ct_X10_allWorn _ _ _ _ _ _ _ _ _ _ _ _ _ _ _ (by first | omega | assumption)) rfl rfl (by decide) (by decide) rfl (Nat.le_of_ble_eq_true rfl) ?_
      rw [hes]
      refine ei_i2l X dX10_share_38 ?_
      rw [nI_l (show sm < 2 ^ 31 by omega)]
      refine ei_iload_n X dX10_share_39 rfl rfl ?_
      refine ei_callT1 X ml_RX10_307 dX10_share_40 (ct_X10_partOf _ v sm _ (by omega) (by omega)) rfl rfl (by decide) (by decide) (Nat.le_of_ble_eq_true rfl) ?_
      refine ei_lreturn X F dX10_share_43 ?_
      exact ⟨by simp only [shareF, sN, sW, sE, sP, sH, sL, sD, sC, sO, sG, sR, cq10, cq20, and_self, if_true, hnc, he, hes, nc_nI (show v < 2 ^ 31 by omega), nc_nI (show sm < 2 ^ 31 by omega)], _, kM_20 _ _ _ _ 0, rfl⟩
    · refine ei_ldc2 X cw_RX10_305 dX10_share_23 ?_
      refine ei_lreturn X F dX10_share_26 ?_
      exact ⟨by simp only [shareF, cq20, Bool.false_eq_true, and_false, if_false], _, kM_20 _ _ _ _ 0, rfl⟩
def endQ (S : St) : Int32 × Int32 := itr (fun q b => (q.1 + nI b * (sR S b + 1), q.2 + (nI (sN S) - 1 - nI b) * (sR S b + 1))) (0, 0) 0 (sN S)
def endF (S : St) (what : Int32) : Int32 := if inI what 0 1 then (if what = 0 then bz (decide ((endQ S).2 < (endQ S).1)) else if (endQ S).2 < (endQ S).1 then (endQ S).2 else (endQ S).1) else -1
set_option maxRecDepth 100000 in
set_option maxHeartbeats 4000000 in
theorem ct_X10_end (n : Nat) (w se sp hr lt hd sc : Int32) (so fi wo : Nat → Int32) (I : Nat → Int32) (A : Nat → Nat → Int32) (B : Nat → Nat → Int64) (K : Value) (what : Int32) (h_S : Good (n, w, se, sp, hr, lt, hd, sc, so, fi, wo)) : e_Ct yX10_end cX10_end 5 (some .int) 2 [.ref 0, .int what] (mH (n, w, se, sp, hr, lt, hd, sc, so, fi, wo) (I, A, B, K)) (mP (some (.int (endF (n, w, se, sp, hr, lt, hd, sc, so, fi, wo) what))) (n, w, se, sp, hr, lt, hd, sc, so, fi, wo) (I, A, B, K)) := by
  refine e_open RX10 rfl (by decide +kernel) rfl (fun _ => Nat.le_of_ble_eq_true rfl) (fun x X F => ?_)
  have hn : n ≤ 10 := h_S.1
  have L : inI what 0 1 = true → ∀ (m k : Nat) (q : Int32 × Int32), n - k < m → k ≤ 10 → endQ (n, w, se, sp, hr, lt, hd, sc, so, fi, wo) = itr (fun q b => (q.1 + nI b * (wo b + 1), q.2 + (nI n - 1 - nI b) * (wo b + 1))) q k (n - k) → e_E x 24 [some (.ref 0), some (.int what), some (.int q.1), some (.int q.2), some (.int (nI k))] [] (mH (n, w, se, sp, hr, lt, hd, sc, so, fi, wo) (upd I 20 0, A, B, K)) := by
    intro hw m
    induction m with
    | zero => intro k q hk; exact absurd hk (Nat.not_lt_zero _)
    | succ m ih =>
      intro k q hk hk2 hv
      refine ei_iload X dX10_end_24 rfl ?_
      refine ei_aload_n X dX10_end_26 rfl rfl ?_
      refine ei_getf X fl_RX10_81 dX10_end_27 rfl rfl ?_
      refine ei_icmpn_ge (tgt := 76) X dX10_end_30 (by decide) (by first | omega | assumption) (by first | omega | assumption) (fun cq30 => ?_) (fun cq30 => ?_)
      · have he : endQ (n, w, se, sp, hr, lt, hd, sc, so, fi, wo) = q := by rw [hv, itr_ge _ _ cq30]
        refine ei_iload_n X dX10_end_76 rfl rfl ?_
        refine ei_if_ne (tgt := 93) X dX10_end_77 (by decide) (fun cq77 => ?_) (fun cq77 => ?_)
        · refine ei_iload_n X dX10_end_93 rfl rfl ?_
          refine ei_iload_n X dX10_end_94 rfl rfl ?_
          refine ei_icmp_ge (tgt := 102) X dX10_end_95 (by decide) (fun cq95 => ?_) (fun cq95 => ?_)
          · refine ei_iload_n X dX10_end_102 rfl rfl ?_
            refine ei_ireturn X F dX10_end_103 ?_
            exact ⟨by simp only [endF, hw, if_true, if_neg cq77, he, if_neg (Int32.not_lt.mpr cq95)], _, kM_20 _ _ _ _ 0, rfl⟩
          · refine ei_iload_n X dX10_end_98 rfl rfl ?_
            refine ei_goto (tgt := 103) X dX10_end_99 (by decide) ?_
            refine ei_ireturn X F dX10_end_103 ?_
            exact ⟨by simp only [endF, hw, if_true, if_neg cq77, he, if_pos (Int32.not_le.mp cq95)], _, kM_20 _ _ _ _ 0, rfl⟩
        · refine ei_iload_n X dX10_end_80 rfl rfl ?_
          refine ei_iload_n X dX10_end_81 rfl rfl ?_
          refine ei_icmp_ge (tgt := 89) X dX10_end_82 (by decide) (fun cq82 => ?_) (fun cq82 => ?_)
          · refine ei_iconst (v := 0) X dX10_end_89 rfl ?_
            refine ei_goto (tgt := 103) X dX10_end_90 (by decide) ?_
            refine ei_ireturn X F dX10_end_103 ?_
            exact ⟨by simp only [endF, hw, if_true, if_pos cq77, he, decide_eq_false (Int32.not_lt.mpr cq82)]; rfl, _, kM_20 _ _ _ _ 0, rfl⟩
          · refine ei_iconst (v := 1) X dX10_end_85 rfl ?_
            refine ei_goto (tgt := 103) X dX10_end_86 (by decide) ?_
            refine ei_ireturn X F dX10_end_103 ?_
            exact ⟨by simp only [endF, hw, if_true, if_pos cq77, he, decide_eq_true (Int32.not_le.mp cq82)]; rfl, _, kM_20 _ _ _ _ 0, rfl⟩
      · refine ei_iload_n X dX10_end_33 rfl rfl ?_
        refine ei_iload X dX10_end_34 rfl ?_
        refine ei_aload_n X dX10_end_36 rfl rfl ?_
        refine ei_getf X fl_RX10_16 dX10_end_37 rfl rfl ?_
        refine ei_iload X dX10_end_40 rfl ?_
        refine ei_iaload_n X dX10_end_42 rfl (by first | omega | assumption) (by decide) ?_
        refine ei_iconst (v := 1) X dX10_end_43 rfl ?_
        refine ei_iadd X dX10_end_44 ?_
        refine ei_imul X dX10_end_45 ?_
        refine ei_iadd X dX10_end_46 ?_
        refine ei_istore_n X dX10_end_47 rfl (Nat.le_of_ble_eq_true rfl) rfl ?_
        refine ei_iload_n X dX10_end_48 rfl rfl ?_
        refine ei_aload_n X dX10_end_49 rfl rfl ?_
        refine ei_getf X fl_RX10_81 dX10_end_50 rfl rfl ?_
        refine ei_iconst (v := 1) X dX10_end_53 rfl ?_
        refine ei_isub X dX10_end_54 ?_
        refine ei_iload X dX10_end_55 rfl ?_
        refine ei_isub X dX10_end_57 ?_
        refine ei_aload_n X dX10_end_58 rfl rfl ?_
        refine ei_getf X fl_RX10_16 dX10_end_59 rfl rfl ?_
        refine ei_iload X dX10_end_62 rfl ?_
        refine ei_iaload_n X dX10_end_64 rfl (by first | omega | assumption) (by decide) ?_
        refine ei_iconst (v := 1) X dX10_end_65 rfl ?_
        refine ei_iadd X dX10_end_66 ?_
        refine ei_imul X dX10_end_67 ?_
        refine ei_iadd X dX10_end_68 ?_
        refine ei_istore_n X dX10_end_69 rfl (Nat.le_of_ble_eq_true rfl) rfl ?_
        refine ei_iinc_n X dX10_end_70 rfl rfl ?_
        refine ei_goto (tgt := 24) X dX10_end_73 (by decide) ?_
        exact ih (k + 1) (q.1 + nI k * (wo k + 1), q.2 + (nI n - 1 - nI k) * (wo k + 1)) (by omega) (by omega) (by rw [hv, itr_lt _ _ (by omega)])
  refine ei_aload_n X dX10_end_0 rfl rfl ?_
  refine ei_iconst (v := 0) X dX10_end_1 rfl ?_
  refine ei_puti X fp_RX10_78 dX10_end_2 rfl (Nat.le_of_ble_eq_true rfl) (pm_20 _ _ _ _ _ _ _ _ _ _ _ _ _ _ _ _) ?_
  refine ei_iload_n X dX10_end_5 rfl rfl ?_
  refine ei_i2l X dX10_end_6 ?_
  refine ei_lconst (v := 0) X dX10_end_7 rfl ?_
  refine ei_lconst (v := 1) X dX10_end_8 rfl ?_
  refine ei_callT1 X ml_RX10_84 dX10_end_9 (ct_X10_in _ _ _ _) rfl rfl (by decide) (by decide) (Nat.le_of_ble_eq_true rfl) ?_
  rw [in_0_1]
  refine ei_ifz_ne (tgt := 17) X dX10_end_12 (by decide) (fun cq12 => ?_) (fun cq12 => ?_)
  · refine ei_iconst (v := 0) X dX10_end_17 rfl ?_
    refine ei_istore_n X dX10_end_18 rfl (Nat.le_of_ble_eq_true rfl) rfl ?_
    refine ei_iconst (v := 0) X dX10_end_19 rfl ?_
    refine ei_istore_n X dX10_end_20 rfl (Nat.le_of_ble_eq_true rfl) rfl ?_
    refine ei_iconst (v := 0) X dX10_end_21 rfl ?_
    refine ei_istore X dX10_end_22 (Nat.le_of_ble_eq_true rfl) rfl ?_
    exact L cq12 (n + 1) 0 (0, 0) (by omega) (by omega) rfl
  · refine ei_iconst (v := -1) X dX10_end_15 rfl ?_
    refine ei_ireturn X F dX10_end_16 ?_
    exact ⟨by simp only [endF, cq12, Bool.false_eq_true, if_false], _, kM_20 _ _ _ _ 0, rfl⟩
theorem draw1_gd {q : WR} {b : Nat} (h : GdV q.2 9) : GdV (draw1 q b).2 9 := by
  refine gdV_upd h ?_
  have key : ∀ z : Int32, Gd1 (z &&& 2147483647) 2147483647 := by
    intro z
    have h2 : (z &&& 2147483647).toBitVec.toNat < 2 ^ 31 := by
      rw [Int32.toBitVec_and, BitVec.toNat_and]
      exact Nat.lt_of_le_of_lt Nat.and_le_right (by decide)
    have h3 : (z &&& 2147483647).toInt = (z &&& 2147483647).toBitVec.toNat := by
      rw [← Int32.toInt_toBitVec, BitVec.toInt_eq_toNat_of_lt (by omega)]
    unfold Gd1
    omega
  obtain ⟨k, hk, he⟩ := i32_of (m := 2147483647) (by decide) (key (q.1 * 1103515245 + 12345))
  rw [he]
  have e1 : nI k / 65536 = nI (k / 65536) := pk_div (d := 65536) (by omega) (by decide) (by decide)
  have e2 : nI (k / 65536) - nI (k / 65536) / 10 * 10 = nI (k / 65536 % 10) := pk_rem (d := 10) (by omega) (by decide) (by decide)
  rw [e1, e2]
  exact gd_nI (m := 9) (by omega) (by decide)
theorem draw_gd {n : Nat} {z : Int32} {fi : Nat → Int32} (h : GdV fi 9) : GdV (drawF n z fi).2 9 := by
  have key : ∀ (k i : Nat) (q : WR), GdV q.2 9 → GdV (itr draw1 q i k).2 9 := by
    intro k
    induction k with
    | zero => intro i q h; exact h
    | succ k ih => intro i q h; rw [itr_s]; exact ih (i + 1) _ (draw1_gd h)
  exact key _ _ _ h
set_option maxRecDepth 100000 in
set_option maxHeartbeats 4000000 in
theorem ct_X10_drawBelow (n : Nat) (w se sp hr lt hd sc : Int32) (so fi wo : Nat → Int32) (I : Nat → Int32) (A : Nat → Nat → Int32) (B : Nat → Nat → Int64) (K : Value) (m : Int32) (h_m : m = 10) : e_Ct yX10_drawBelow cX10_drawBelow 2 (some .int) 1 [.ref 0, .int m] (mH (n, w, se, sp, hr, lt, hd, sc, so, fi, wo) (I, A, B, K)) (e_eq (some (.int (((I 39 * 1103515245 + 12345) &&& 2147483647) / 65536 - ((I 39 * 1103515245 + 12345) &&& 2147483647) / 65536 / 10 * 10))) (mH (n, w, se, sp, hr, lt, hd, sc, so, fi, wo) (upd I 39 (I 39 * 1103515245 + 12345), A, B, K))) := by
  refine e_open RX10 rfl (by decide +kernel) rfl (fun _ => Nat.le_of_ble_eq_true rfl) (fun x X F => ?_)
  subst h_m
  refine ei_aload_n X dX10_drawBelow_0 rfl rfl ?_
  refine ei_aload_n X dX10_drawBelow_1 rfl rfl ?_
  refine ei_getf X fl_RX10_355 dX10_drawBelow_2 rfl rfl ?_
  refine ei_ldc_w X cw_RX10_358 dX10_drawBelow_5 ?_
  refine ei_imul X dX10_drawBelow_8 ?_
  refine ei_sipush (v := 12345) X dX10_drawBelow_9 rfl ?_
  refine ei_iadd X dX10_drawBelow_12 ?_
  refine ei_puti X fp_RX10_355 dX10_drawBelow_13 rfl (Nat.le_of_ble_eq_true rfl) (pm_39 _ _ _ _ _ _ _ _ _ _ _ _ _ _ _ _) ?_
  refine ei_aload_n X dX10_drawBelow_16 rfl rfl ?_
  refine ei_getf X fl_RX10_355 dX10_drawBelow_17 rfl rfl ?_
  rw [pk_us]
  refine ei_ldc_w X cw_RX10_359 dX10_drawBelow_20 ?_
  refine ei_iand X dX10_drawBelow_23 ?_
  refine ei_ldc_w X cw_RX10_360 dX10_drawBelow_24 ?_
  refine ei_idiv X dX10_drawBelow_27 (by decide) ?_
  refine ei_iload_n X dX10_drawBelow_28 rfl rfl ?_
  refine ei_irem X dX10_drawBelow_29 (by decide) ?_
  refine ei_ireturn X F dX10_drawBelow_30 ?_
  exact ⟨rfl, rfl⟩
/-- a winter: the drawn figures, 20 hours -/
def wint1 (S : St) (what : Int32) (q : Int32 × Int32) (_ : Nat) : Int32 × Int32 :=
  ((drawF (sN S) q.1 (sG S)).1, q.2 + (if what = 0 then sL (hoursS (sN S, sW S, sE S, sP S, sH S, sL S, sD S, sC S, sO S, (drawF (sN S) q.1 (sG S)).2, sR S) 20) - sL S else nI (sN S) - popF (sW (hoursS (sN S, sW S, sE S, sP S, sH S, sL S, sD S, sC S, sO S, (drawF (sN S) q.1 (sG S)).2, sR S) 20))))
def wintersF (S : St) (m z what : Int32) : Int32 := if inI m 1 20 = true ∧ inI what 0 1 = true then (itr (wint1 S what) (z, 0) 0 (nc m)).2 else -1
set_option maxRecDepth 100000 in
set_option maxHeartbeats 4000000 in
theorem ct_X10_winters (n : Nat) (w se sp hr lt hd sc : Int32) (so fi wo : Nat → Int32) (I : Nat → Int32) (A : Nat → Nat → Int32) (B : Nat → Nat → Int64) (K : Value) (m z what : Int32) (h_S : Good (n, w, se, sp, hr, lt, hd, sc, so, fi, wo)) (h_M : mI (I, A, B, K)) : e_Ct yX10_winters cX10_winters 8 (some .int) 7 [.ref 0, .int m, .int z, .int what] (mH (n, w, se, sp, hr, lt, hd, sc, so, fi, wo) (I, A, B, K)) (mP (some (.int (wintersF (n, w, se, sp, hr, lt, hd, sc, so, fi, wo) m z what))) (n, w, se, sp, hr, lt, hd, sc, so, fi, wo) (I, A, B, K)) := by
  refine e_open RX10 rfl (by decide +kernel) rfl (fun _ => Nat.le_of_ble_eq_true rfl) (fun x X F => ?_)
  obtain ⟨i11, i12⟩ := h_M
  simp only at i11 i12
  have hn : n ≤ 10 := h_S.1
  have LD : ∀ (i : Nat) (s : Int32) (z2 : Int32), (∀ (J2 : Nat → Int32) (f2 : Nat → Int32), drawF n z2 fi = (J2 39, f2) → (∀ k, k = 11 ∨ k = 12 ∨ k = 30 → J2 k = I k) → e_E x 87 [some (.ref 0), some (.int m), some (.int z), some (.int what), some (.int s), some (.int lt), some (.int (nI i)), none] [] (mH (n, w, se, sp, hr, lt, hd, sc, so, f2, wo) (J2, updA A 13 (encF (n, w, se, sp, hr, lt, hd, sc, so, fi, wo)), B, .ref 13))) → ∀ (c j : Nat) (J g : Nat → Int32), n - j < c → j ≤ 10 → (∀ k, k = 11 ∨ k = 12 ∨ k = 30 → J k = I k) → drawF n z2 fi = itr draw1 (J 39, g) j (n - j) → e_E x 59 [some (.ref 0), some (.int m), some (.int z), some (.int what), some (.int s), some (.int lt), some (.int (nI i)), some (.int (nI j))] [] (mH (n, w, se, sp, hr, lt, hd, sc, so, g, wo) (J, updA A 13 (encF (n, w, se, sp, hr, lt, hd, sc, so, fi, wo)), B, .ref 13)) := by
    intro i s z2 hx c
    induction c with
    | zero => intro j J g hk; exact absurd hk (Nat.not_lt_zero _)
    | succ c ih =>
      intro j J g hk hj hJ hv
      refine ei_iload X dX10_winters_59 rfl ?_
      refine ei_aload_n X dX10_winters_61 rfl rfl ?_
      refine ei_getf X fl_RX10_81 dX10_winters_62 rfl rfl ?_
      refine ei_icmpn_ge (tgt := 87) X dX10_winters_65 (by decide) (by first | omega | assumption) (by first | omega | assumption) (fun cq65 => ?_) (fun cq65 => ?_)
      · refine ei_drop 7 ?_
        exact hx J g (by rw [hv, itr_ge _ _ cq65]) hJ
      · refine ei_aload_n X dX10_winters_68 rfl rfl ?_
        refine ei_getf X fl_RX10_13 dX10_winters_69 rfl rfl ?_
        refine ei_iload X dX10_winters_72 rfl ?_
        refine ei_aload_n X dX10_winters_74 rfl rfl ?_
        refine ei_bipush (v := 10) X dX10_winters_75 rfl ?_
        refine ei_callI1 X ml_RX10_361 dX10_winters_77 (ct_X10_drawBelow _ _ _ _ _ _ _ _ _ _ _ _ _ _ _ _ rfl) rfl rfl (by decide) (by decide) rfl (Nat.le_of_ble_eq_true rfl) ?_
        refine ei_iastore_n X dX10_winters_80 rfl (by first | omega | assumption) (by decide) (pm_r2 _ _ _ _ _ _ _ _ _ _ _ _ _ _ _ _) ?_
        refine ei_iinc_n X dX10_winters_81 rfl rfl ?_
        refine ei_goto (tgt := 59) X dX10_winters_84 (by decide) ?_
        exact ih (j + 1) _ _ (by omega) (by omega) (fun k hk => by rw [pk_un (by omega)]; exact hJ k hk) (by rw [hv, itr_lt _ _ (by omega), pk_us]; rfl)
  have L : ∀ (mk : Nat), m = nI mk → mk < 100 → wintersF (n, w, se, sp, hr, lt, hd, sc, so, fi, wo) m z what = (itr (wint1 (n, w, se, sp, hr, lt, hd, sc, so, fi, wo) what) (z, 0) 0 mk).2 → ∀ (c i : Nat) (q : Int32 × Int32) (J : Nat → Int32), mk - i < c → i < 100 → (∀ k, k = 11 ∨ k = 12 ∨ k = 30 → J k = I k) → J 39 = q.1 → (itr (wint1 (n, w, se, sp, hr, lt, hd, sc, so, fi, wo) what) (z, 0) 0 mk).2 = (itr (wint1 (n, w, se, sp, hr, lt, hd, sc, so, fi, wo) what) q i (mk - i)).2 → e_E x 50 [some (.ref 0), some (.int (nI mk)), some (.int z), some (.int what), some (.int q.2), some (.int lt), some (.int (nI i)), none] [] (mH (n, w, se, sp, hr, lt, hd, sc, so, fi, wo) (J, updA A 13 (encF (n, w, se, sp, hr, lt, hd, sc, so, fi, wo)), B, .ref 13)) := by
    intro mk hm hmk hF c
    induction c with
    | zero => intro i q J hk; exact absurd hk (Nat.not_lt_zero _)
    | succ c ih =>
      intro i q J hk hi hJ hs hv
      have D : ¬ mk ≤ i → ∀ (J2 : Nat → Int32) (f2 : Nat → Int32), drawF n q.1 fi = (J2 39, f2) → (∀ k, k = 11 ∨ k = 12 ∨ k = 30 → J2 k = I k) → e_E x 87 [some (.ref 0), some (.int (nI mk)), some (.int z), some (.int what), some (.int q.2), some (.int lt), some (.int (nI i)), none] [] (mH (n, w, se, sp, hr, lt, hd, sc, so, f2, wo) (J2, updA A 13 (encF (n, w, se, sp, hr, lt, hd, sc, so, fi, wo)), B, .ref 13)) := by
        intro hlt J2 f2 hd2 hJ2
        have hgf : GdV f2 9 := by have := draw_gd (n := n) (z := q.1) h_S.2.2.1; simp only [sN, sW, sE, sP, sH, sL, sD, sC, sO, sG, sR] at this; rw [hd2] at this; exact this
        have hg2 : Good (n, w, se, sp, hr, lt, hd, sc, so, f2, wo) := ⟨h_S.1, h_S.2.1, hgf, h_S.2.2.2⟩
        obtain ⟨w3, se3, hr3, lt3, wo3, e2⟩ := hours_ex (n, w, se, sp, hr, lt, hd, sc, so, f2, wo) 20
        have hg3 := good_at hg2 20
        simp only [sN, sW, sE, sP, sH, sL, sD, sC, sO, sG, sR] at e2
        rw [e2] at hg3
        have hw1 : wint1 (n, w, se, sp, hr, lt, hd, sc, so, fi, wo) what q i = (J2 39, q.2 + (if what = 0 then lt3 - lt else nI n - popF w3)) := by
          unfold wint1
          simp only [sN, sW, sE, sP, sH, sL, sD, sC, sO, sG, sR, hd2, e2]
        refine ei_aload_n X dX10_winters_87 rfl rfl ?_
        refine ei_bipush (v := nI 20) X dX10_winters_88 rfl ?_
        refine ei_callI X ml_RX10_204 dX10_winters_90 (ct_X10_goHours _ _ _ _ _ _ _ _ _ _ _ _ _ _ _ 20 hg2 ((hJ2 12 (by omega)).trans i12) ((hJ2 11 (by omega)).trans i11) (by decide)) rfl rfl (by decide) (by decide) rfl (Nat.le_of_ble_eq_true rfl) (fun r h2 hp => ?_)
        obtain ⟨rfl, J9, h9, rfl⟩ := hp
        rw [e2]
        refine ei_iload X dX10_winters_93 rfl ?_
        refine ei_iload_n X dX10_winters_95 rfl rfl ?_
        refine ei_if_ne (tgt := 109) X dX10_winters_96 (by decide) (fun cq96 => ?_) (fun cq96 => ?_)
        · refine ei_aload_n X dX10_winters_109 rfl rfl ?_
          refine ei_getf X fl_RX10_81 dX10_winters_110 rfl rfl ?_
          refine ei_aload_n X dX10_winters_113 rfl rfl ?_
          refine ei_getf X fl_RX10_88 dX10_winters_114 rfl rfl ?_
          refine ei_callT1 X ml_RX10_311 dX10_winters_117 (ct_X10_onesOf _ _ hg3.2.2.2.2.2.2.2.2.1) rfl rfl (by decide) (by decide) (Nat.le_of_ble_eq_true rfl) ?_
          refine ei_isub X dX10_winters_120 ?_
          refine ei_iadd X dX10_winters_121 ?_
          refine ei_istore X dX10_winters_122 (Nat.le_of_ble_eq_true rfl) rfl ?_
          refine ei_aload_n X dX10_winters_124 rfl rfl ?_
          refine ei_callI X ml_RX10_231 dX10_winters_125 (ct_X10_again _ _ _ _ _ _ _ _ _ _ _ n w se sp hr lt hd sc so fi wo _ _ _ _ updA_on) rfl rfl (by decide) (by decide) rfl (Nat.le_of_ble_eq_true rfl) (fun r h2 hp => ?_)
          obtain ⟨rfl, J125, h125, rfl⟩ := hp
          refine ei_iinc_n X dX10_winters_128 rfl rfl ?_
          refine ei_goto (tgt := 50) X dX10_winters_131 (by decide) ?_
          have h5 := ih (i + 1) (J2 39, q.2 + (nI n - popF w3)) J125 (by omega) (by omega) (fun k hk => by rw [h125 k (by omega) (by omega), h9 k (by omega)]; exact hJ2 k hk) (by rw [h125 39 (by decide) (by decide), h9 39 (by decide)]) (by rw [hv, itr_lt _ _ (by omega), hw1, if_neg cq96])
          exact h5
        · refine ei_aload_n X dX10_winters_99 rfl rfl ?_
          refine ei_getf X fl_RX10_131 dX10_winters_100 rfl rfl ?_
          refine ei_iload X dX10_winters_103 rfl ?_
          refine ei_isub X dX10_winters_105 ?_
          refine ei_goto (tgt := 121) X dX10_winters_106 (by decide) ?_
          refine ei_iadd X dX10_winters_121 ?_
          refine ei_istore X dX10_winters_122 (Nat.le_of_ble_eq_true rfl) rfl ?_
          refine ei_aload_n X dX10_winters_124 rfl rfl ?_
          refine ei_callI X ml_RX10_231 dX10_winters_125 (ct_X10_again _ _ _ _ _ _ _ _ _ _ _ n w se sp hr lt hd sc so fi wo _ _ _ _ updA_on) rfl rfl (by decide) (by decide) rfl (Nat.le_of_ble_eq_true rfl) (fun r h2 hp => ?_)
          obtain ⟨rfl, J125, h125, rfl⟩ := hp
          refine ei_iinc_n X dX10_winters_128 rfl rfl ?_
          refine ei_goto (tgt := 50) X dX10_winters_131 (by decide) ?_
          have h5 := ih (i + 1) (J2 39, q.2 + (lt3 - lt)) J125 (by omega) (by omega) (fun k hk => by rw [h125 k (by omega) (by omega), h9 k (by omega)]; exact hJ2 k hk) (by rw [h125 39 (by decide) (by decide), h9 39 (by decide)]) (by rw [hv, itr_lt _ _ (by omega), hw1, if_pos cq96])
          exact h5
      refine ei_iload X dX10_winters_50 rfl ?_
      refine ei_iload_n X dX10_winters_52 rfl rfl ?_
      refine ei_icmpn_ge (tgt := 134) X dX10_winters_53 (by decide) (by first | omega | assumption) (by first | omega | assumption) (fun cq53 => ?_) (fun cq53 => ?_)
      · refine ei_iload X dX10_winters_134 rfl ?_
        refine ei_ireturn X F dX10_winters_136 ?_
        exact ⟨by rw [hF, hv, itr_ge _ _ cq53], _, kM_13 hJ, rfl⟩
      · refine ei_iconst (v := 0) X dX10_winters_56 rfl ?_
        refine ei_istore X dX10_winters_57 (Nat.le_of_ble_eq_true rfl) rfl ?_
        have h6 := LD i q.2 q.1 (by rw [hm]; exact D cq53) (n + 1) 0 J fi (by omega) (by omega) hJ (by rw [hs]; rfl)
        rw [hm] at h6
        exact h6
  refine ei_aload_n X dX10_winters_0 rfl rfl ?_
  refine ei_iconst (v := 0) X dX10_winters_1 rfl ?_
  refine ei_puti X fp_RX10_78 dX10_winters_2 rfl (Nat.le_of_ble_eq_true rfl) (pm_20 _ _ _ _ _ _ _ _ _ _ _ _ _ _ _ _) ?_
  refine ei_iload_n X dX10_winters_5 rfl rfl ?_
  refine ei_i2l X dX10_winters_6 ?_
  refine ei_lconst (v := 1) X dX10_winters_7 rfl ?_
  refine ei_ldc2 X cw_RX10_353 dX10_winters_8 ?_
  refine ei_callT1 X ml_RX10_84 dX10_winters_11 (ct_X10_in _ _ _ _) rfl rfl (by decide) (by decide) (Nat.le_of_ble_eq_true rfl) ?_
  rw [in_1_20]
  refine ei_ifz_eq (tgt := 27) X dX10_winters_14 (by decide) (fun cq14 => ?_) (fun cq14 => ?_)
  · refine ei_iconst (v := -1) X dX10_winters_27 rfl ?_
    refine ei_ireturn X F dX10_winters_28 ?_
    exact ⟨by simp only [wintersF, cq14, Bool.false_eq_true, false_and, if_false], _, kM_20 _ _ _ _ 0, rfl⟩
  · refine ei_iload_n X dX10_winters_17 rfl rfl ?_
    refine ei_i2l X dX10_winters_18 ?_
    refine ei_lconst (v := 0) X dX10_winters_19 rfl ?_
    refine ei_lconst (v := 1) X dX10_winters_20 rfl ?_
    refine ei_callT1 X ml_RX10_84 dX10_winters_21 (ct_X10_in _ _ _ _) rfl rfl (by decide) (by decide) (Nat.le_of_ble_eq_true rfl) ?_
    rw [in_0_1]
    refine ei_ifz_ne (tgt := 29) X dX10_winters_24 (by decide) (fun cq24 => ?_) (fun cq24 => ?_)
    · obtain ⟨mk, hm1, hm2, hmk⟩ := (inI_iff (lo := 1) (hi := 20) (by decide) (by decide)).mp cq14
      refine ei_aload_n X dX10_winters_29 rfl rfl ?_
      refine ei_iload_n X dX10_winters_30 rfl rfl ?_
      refine ei_puti X fp_RX10_355 dX10_winters_31 rfl (Nat.le_of_ble_eq_true rfl) (pm_39 _ _ _ _ _ _ _ _ _ _ _ _ _ _ _ _) ?_
      refine ei_iconst (v := 0) X dX10_winters_34 rfl ?_
      refine ei_istore X dX10_winters_35 (Nat.le_of_ble_eq_true rfl) rfl ?_
      refine ei_aload_n X dX10_winters_37 rfl rfl ?_
      refine ei_getf X fl_RX10_131 dX10_winters_38 rfl rfl ?_
      refine ei_istore X dX10_winters_41 (Nat.le_of_ble_eq_true rfl) rfl ?_
      refine ei_aload_n X dX10_winters_43 rfl rfl ?_
      refine ei_callI X ml_RX10_225 dX10_winters_44 (ct_X10_think _ _ _ _ _ _ _ _ _ _ _ _ _ _ _) rfl rfl (by decide) (by decide) rfl (Nat.le_of_ble_eq_true rfl) (fun r h2 hp => ?_)
      obtain ⟨rfl, J44, h44, rfl⟩ := hp
      refine ei_iconst (v := 0) X dX10_winters_47 rfl ?_
      refine ei_istore X dX10_winters_48 (Nat.le_of_ble_eq_true rfl) rfl ?_
      have h7 := L mk hmk (by omega) (by unfold wintersF; rw [if_pos ⟨cq14, cq24⟩, hmk, nc_nI (by omega)]) (mk + 1) 0 (z, 0) J44 (by omega) (by omega) (fun k hk => by rw [h44 k (by omega) (by omega), pk_un (by omega), pk_un (by omega)]) (by rw [h44 39 (by decide) (by decide), pk_us]) rfl
      rw [← hmk] at h7
      exact h7
    · refine ei_iconst (v := -1) X dX10_winters_27 rfl ?_
      refine ei_ireturn X F dX10_winters_28 ?_
      exact ⟨by simp only [wintersF, cq24, Bool.false_eq_true, and_false, if_false], _, kM_20 _ _ _ _ 0, rfl⟩

