theorem bit_ne (v : Int32) (j : Nat) (hj : j < 10) : ¬ v >>> (nI j &&& 31) &&& 1 = 0 ↔ hasB v j = true := by
  have k0 : ∀ y : Int32, ¬ y &&& 1 = 0 ↔ y &&& 1 = 1 := by
    intro y
    have h1 := and1_b y
    constructor
    · intro h
      refine h1.mpr (Classical.byContradiction fun q => h ?_)
      have q2 : y.toBitVec.getLsbD 0 = false := by simpa using q
      apply Int32.toBitVec_inj.mp
      rw [Int32.toBitVec_and, show (1 : Int32).toBitVec = 1#32 from rfl, show (0 : Int32).toBitVec = 0#32 from rfl]
      apply BitVec.eq_of_getLsbD_eq
      intro i hi
      rw [BitVec.getLsbD_and]
      by_cases z : i = 0
      · subst z; rw [q2]; simp
      · simp [BitVec.getLsbD_one, z]
    · intro h z
      rw [h] at z
      exact absurd z (by decide)
  rw [k0]
  exact (decide_eq_true_iff (p := v >>> (nI j &&& 31) &&& 1 = 1)).symm
theorem bit_eq (v : Int32) (j : Nat) (hj : j < 10) : v >>> (nI j &&& 31) &&& 1 = 0 ↔ hasB v j = false := by
  have h := bit_ne v j hj
  constructor
  · intro q
    cases z : hasB v j
    · rfl
    · exact absurd q (h.mpr z)
  · intro q
    refine Classical.byContradiction fun y => ?_
    have := h.mp y
    rw [q] at this
    cases this
theorem itr_ext {α : Type} {f g : α → Nat → α} : ∀ (m i : Nat) (a : α), (∀ q k, i ≤ k → k < i + m → f q k = g q k) → itr f a i m = itr g a i m
  | 0, _, _, _ => rfl
  | m + 1, i, a, h => by
    rw [itr_s, itr_s, h a i (Nat.le_refl _) (by omega)]
    exact itr_ext m (i + 1) _ (fun q k a b => h q k (by omega) (by omega))
theorem ct_byAll (r : Nat) : ctB r := ct_by (ct_fewAll r)
set_option maxRecDepth 100000 in
set_option maxHeartbeats 1000000 in
theorem ct_X7_seconds (n : Nat) (w se sp hr lt hd sc : Int32) (so fi wo : Nat → Int32) (v : Int32) (h_S : Good (n, w, se, sp, hr, lt, hd, sc, so, fi, wo)) (h_B : BN n v) (h_m : mc v n ≤ 5) : e_Ct yX7_seconds cX7_seconds 2 (some .int) 15 [.ref 0, .int v] (lH (n, w, se, sp, hr, lt, hd, sc, so, fi, wo)) (e_eq (some (.int (nI (ordS (n, w, se, sp, hr, lt, hd, sc, so, fi, wo) v)))) (lH (n, w, se, sp, hr, lt, hd, sc, so, fi, wo))) := by
  refine e_open RX7 rfl (by decide +kernel) rfl (fun _ => Nat.le_of_ble_eq_true rfl) (fun x X F => ?_)
  obtain ⟨dk, hdk, rfl⟩ := i32_of (m := 9) (by decide) h_S.2.2.2.2.2.2.2.1
  have hn : n ≤ 10 := h_S.1
  have h0 := ct_fewAll 5 n w se sp hr lt (nI dk) sc so fi wo v dk 0 hn h_S.2.2.2.1 (by omega) rfl h_m h_B
  refine ei_aload_n X dX7_seconds_0 rfl rfl ?_
  refine ei_iload_n X dX7_seconds_1 rfl rfl ?_
  refine ei_aload_n X dX7_seconds_2 rfl rfl ?_
  refine ei_getf X fl_RX7_9 dX7_seconds_3 rfl rfl ?_
  refine ei_iconst (v := nI 0) X dX7_seconds_6 rfl ?_
  refine ei_callT1 X ml_RX7_15 dX7_seconds_7 h0 rfl rfl (by decide) (by decide) (Nat.le_of_ble_eq_true rfl) ?_
  refine ei_ireturn X F dX7_seconds_10 ?_
  exact ⟨by show _ = some (Value.int (nI (fwN wo (mc v n) (mf v n) (nc (nI dk))))); rw [nc_nI (by omega)], rfl⟩
/-- the first best one so far -/
def fbF (g : Nat → Nat) (f : Nat → Nat) (k : Nat) : Int32 := if k = 0 then 0 else nI (f (amN g 0 (k - 1)))
theorem fbF_s {g f : Nat → Nat} {k : Nat} (hb : ∀ j, j ≤ k → g j < 2147483647) : fbF g f (k + 1) = if nI (g k) < lsF g 0 k then nI (f k) else fbF g f k := by
  unfold fbF lsF
  rw [if_neg (Nat.succ_ne_zero k), Nat.add_sub_cancel, Nat.sub_zero]
  by_cases q : k = 0
  · subst q
    rw [if_pos rfl, if_pos rfl, if_pos]
    · rfl
    · have := hb 0 (Nat.le_refl _)
      rw [Int32.lt_iff_toInt_lt, nI_toInt (by omega), show (2147483647 : Int32).toInt = 2147483647 from by decide]
      omega
  · obtain ⟨m, rfl⟩ : ∃ m, k = m + 1 := ⟨k - 1, by omega⟩
    rw [if_neg q, if_neg q, Nat.add_sub_cancel]
    have h1 : mnN g 0 m < 2147483647 := Nat.lt_of_le_of_lt (mnN_le g 0 m 0 (Nat.zero_le _)) (hb _ (by omega))
    have h2 := hb (m + 1) (Nat.le_refl _)
    have e : amN g 0 (m + 1) = if g (m + 1) < mnN g 0 m then m + 1 else amN g 0 m := by
      show (if g (0 + m + 1) < mnN g 0 m then 0 + m + 1 else amN g 0 m) = _
      rw [Nat.zero_add]
    rw [e]
    by_cases y : g (m + 1) < mnN g 0 m
    · rw [if_pos y, if_pos (nI_lt y (by omega))]
    · rw [if_neg y, if_neg (nI_nlt (by omega) (by omega))]
set_option maxRecDepth 100000 in
set_option maxHeartbeats 1000000 in
theorem ct_firstBest (n : Nat) (w se sp hr lt hd sc : Int32) (so fi wo : Nat → Int32) (v : Int32) (at0 m t r : Nat) (hn : n ≤ 10) (hw : GdV wo 999) (hat : at0 < 10) (htr : t + r = 4) (hm : mc v n = m + 1) (hmr : m ≤ r) (hB : BN n v) : e_Ct yX7_firstBest cX7_firstBest 8 (some .int) 15 [.ref 0, .int v, .int (nI at0), .int (nI t)] (lH (n, w, se, sp, hr, lt, hd, sc, so, fi, wo)) (e_eq (some (.int (nI (mf v n (amN (byO wo m (mf v n) at0) 0 m))))) (lH (n, w, se, sp, hr, lt, hd, sc, so, fi, wo))) := by
  refine e_open RX7 rfl (by decide +kernel) rfl (fun _ => Nat.le_of_ble_eq_true rfl) (fun x X F => ?_)
  have bb : ∀ k, k < m + 1 → byO wo m (mf v n) at0 k < 2147483647 := fun k hk => by
    have := by_le hw (m := m) (f := mf v n) (at0 := at0) (i := k) (by omega) hat (by rw [← hm]; exact mf10 hn) hk
    omega
  have L : ∀ (c j : Nat), n - j < c → j ≤ n → e_E x 10 [some (.ref 0), some (.int v), some (.int (nI at0)), some (.int (nI t)), some (.int (fbF (byO wo m (mf v n) at0) (mf v n) (mc v j))), some (.int (lsF (byO wo m (mf v n) at0) 0 (mc v j))), some (.int (nI j)), none] [] (lH (n, w, se, sp, hr, lt, hd, sc, so, fi, wo)) := by
    intro c
    induction c with
    | zero => intro j hc; exact absurd hc (Nat.not_lt_zero _)
    | succ c ih =>
      intro j hc hj
      have hmj := mc_mono v hj
      refine ei_iload X dX7_firstBest_10 rfl ?_
      refine ei_aload_n X dX7_firstBest_12 rfl rfl ?_
      refine ei_getf X fl_RX7_22 dX7_firstBest_13 rfl rfl ?_
      refine ei_icmpn_ge (tgt := 63) X dX7_firstBest_16 (by decide) (by first | omega | assumption) (by first | omega | assumption) (fun cq16 => ?_) (fun cq16 => ?_)
      · refine ei_iload X dX7_firstBest_63 rfl ?_
        refine ei_ireturn X F dX7_firstBest_65 ?_
        exact ⟨by rw [show j = n by omega, hm]; rfl, rfl⟩
      · refine ei_iload_n X dX7_firstBest_19 rfl rfl ?_
        refine ei_iload X dX7_firstBest_20 rfl ?_
        refine ei_ishr X dX7_firstBest_22 ?_
        refine ei_iconst (v := 1) X dX7_firstBest_23 rfl ?_
        refine ei_iand X dX7_firstBest_24 ?_
        refine ei_if_ne (tgt := 31) X dX7_firstBest_25 (by decide) (fun cq25 => ?_) (fun cq25 => ?_)
        · have hvb : hasB v j = true := ((bit_ne v j (by omega)).mp cq25)
          have hi := mf_at hvb (show j < n by omega)
          have hs1 := lsF_s (g := byO wo m (mf v n) at0) (a := 0) (j := mc v j) (Nat.zero_le _) (fun k a1 a2 => bb k (by omega))
          have hs2 := fbF_s (g := byO wo m (mf v n) at0) (f := mf v n) (k := mc v j) (fun k a1 => bb k (by omega))
          rw [← mc_t hvb] at hs1 hs2
          rw [hi.1] at hs2
          refine ei_aload_n X dX7_firstBest_31 rfl rfl ?_
          refine ei_iload_n X dX7_firstBest_32 rfl rfl ?_
          refine ei_iload_n X dX7_firstBest_33 rfl rfl ?_
          refine ei_iload X dX7_firstBest_34 rfl ?_
          refine ei_iload_n X dX7_firstBest_36 rfl rfl ?_
          refine ei_callT1 X ml_RX7_25 dX7_firstBest_37 (ct_byAll r _ _ _ _ _ _ _ _ _ _ _ v at0 j m t hn hw hat htr hm hmr hB (by omega) hvb) rfl rfl (by omega) (by decide) (Nat.le_of_ble_eq_true rfl) ?_
          refine ei_istore X dX7_firstBest_40 (Nat.le_of_ble_eq_true rfl) rfl ?_
          refine ei_iload X dX7_firstBest_42 rfl ?_
          refine ei_iload X dX7_firstBest_44 rfl ?_
          refine ei_icmp_ge (tgt := 57) X dX7_firstBest_46 (by decide) (fun cq46 => ?_) (fun cq46 => ?_)
          · refine ei_iinc_n X dX7_firstBest_57 rfl rfl ?_
            refine ei_goto (tgt := 10) X dX7_firstBest_60 (by decide) ?_
            refine ei_drop 7 ?_
            have h0 := ih (j + 1) (by omega) (by omega)
            rw [← hs1, hs2, if_neg (Int32.not_lt.mpr cq46), if_neg (Int32.not_lt.mpr cq46)] at h0
            exact h0
          · refine ei_iload X dX7_firstBest_49 rfl ?_
            refine ei_istore X dX7_firstBest_51 (Nat.le_of_ble_eq_true rfl) rfl ?_
            refine ei_iload X dX7_firstBest_53 rfl ?_
            refine ei_istore X dX7_firstBest_55 (Nat.le_of_ble_eq_true rfl) rfl ?_
            refine ei_iinc_n X dX7_firstBest_57 rfl rfl ?_
            refine ei_goto (tgt := 10) X dX7_firstBest_60 (by decide) ?_
            refine ei_drop 7 ?_
            have h0 := ih (j + 1) (by omega) (by omega)
            rw [← hs1, hs2, if_pos (Int32.not_le.mp cq46), if_pos (Int32.not_le.mp cq46)] at h0
            exact h0
        · have hvf : hasB v j = false := ((bit_eq v j (by omega)).mp cq25)
          refine ei_goto (tgt := 57) X dX7_firstBest_28 (by decide) ?_
          refine ei_iinc_n X dX7_firstBest_57 rfl rfl ?_
          refine ei_goto (tgt := 10) X dX7_firstBest_60 (by decide) ?_
          refine ei_drop 7 ?_
          have h0 := ih (j + 1) (by omega) (by omega)
          rw [mc_f hvf] at h0
          exact h0
  refine ei_iconst (v := 0) X dX7_firstBest_0 rfl ?_
  refine ei_istore X dX7_firstBest_1 (Nat.le_of_ble_eq_true rfl) rfl ?_
  refine ei_ldc X cw_RX7_21 dX7_firstBest_3 ?_
  refine ei_istore X dX7_firstBest_5 (Nat.le_of_ble_eq_true rfl) rfl ?_
  refine ei_iconst (v := nI 0) X dX7_firstBest_7 rfl ?_
  refine ei_istore X dX7_firstBest_8 (Nat.le_of_ble_eq_true rfl) rfl ?_
  exact L (n + 1) 0 (by omega) (by omega)
theorem grN_0 {wo : Nat → Int32} {m : Nat} {f : Nat → Nat} {at0 : Nat} : grN wo (m + 1) f at0 0 = f (amN (byO wo m f at0) 0 m) := if_pos rfl
theorem grN_s {wo : Nat → Int32} {m : Nat} {f : Nat → Nat} {at0 k : Nat} : grN wo (m + 1) f at0 (k + 1) = grN wo m (rmF f (amN (byO wo m f at0) 0 m)) (f (amN (byO wo m f at0) 0 m)) k := if_neg (Nat.succ_ne_zero k)
theorem byO_ext {wo : Nat → Int32} {m : Nat} {f g : Nat → Nat} {at0 : Nat} (h : ∀ j, j < m + 1 → f j = g j) : ∀ i, i ≤ m → byO wo m f at0 i = byO wo m g at0 i := fun i hi => by
  unfold byO
  rw [h i (by omega), odO_ext h, fwN_ext m _ (rm_ext h)]
theorem amN_ext {f g : Nat → Nat} {i : Nat} : ∀ n, (∀ k, i ≤ k → k ≤ i + n → f k = g k) → amN f i n = amN g i n
  | 0, _ => rfl
  | n + 1, h => by
    show (if f (i + n + 1) < mnN f i n then i + n + 1 else amN f i n) = (if g (i + n + 1) < mnN g i n then i + n + 1 else amN g i n)
    rw [h (i + n + 1) (by omega) (by omega), mnN_ext n (fun k a b => h k a (by omega)), amN_ext n (fun k a b => h k a (by omega))]
theorem grN_ext {wo : Nat → Int32} : ∀ (m : Nat) {f g : Nat → Nat} (at0 k : Nat), (∀ j, j < m → f j = g j) → grN wo m f at0 k = grN wo m g at0 k
  | 0, _, _, _, _, _ => rfl
  | m + 1, f, g, at0, k, h => by
    have e : amN (byO wo m f at0) 0 m = amN (byO wo m g at0) 0 m := amN_ext m (fun k a b => byO_ext h k (by omega))
    have hi := (amN_sp (byO wo m g at0) 0 m).2.1
    cases k with
    | zero => rw [grN_0, grN_0, e, h _ (by omega)]
    | succ k => rw [grN_s, grN_s, e, h _ (by omega)]; exact grN_ext m _ k (rm_ext h)
set_option maxRecDepth 100000 in
set_option maxHeartbeats 1000000 in
theorem ct_X7_number (n : Nat) (w se sp hr lt hd sc : Int32) (so fi wo : Nat → Int32) (v : Int32) (h_S : Good (n, w, se, sp, hr, lt, hd, sc, so, fi, wo)) (h_B : BN n v) (h_m : mc v n ≤ 5) : e_Ct yX7_number cX7_number 6 (some .int) 16 [.ref 0, .int v] (lH (n, w, se, sp, hr, lt, hd, sc, so, fi, wo)) (e_eq (some (.int (nI (ordN (n, w, se, sp, hr, lt, hd, sc, so, fi, wo) v)))) (lH (n, w, se, sp, hr, lt, hd, sc, so, fi, wo))) := by
  refine e_open RX7 rfl (by decide +kernel) rfl (fun _ => Nat.le_of_ble_eq_true rfl) (fun x X F => ?_)
  obtain ⟨dk, hdk, rfl⟩ := i32_of (m := 9) (by decide) h_S.2.2.2.2.2.2.2.1
  have hn : n ≤ 10 := h_S.1
  have hO : ordN (n, w, se, sp, hr, lt, nI dk, sc, so, fi, wo) v = numN (grN wo (mc v n) (mf v n) dk) (mc v n) := by
    show numN (grN wo (mc v n) (mf v n) (nc (nI dk))) (mc v n) = _
    rw [nc_nI (by omega)]
  have L : ∀ (c t at0 : Nat) (u : Int32) (a : Nat), 5 - t < c → t ≤ 5 → at0 < 10 → BN n u → mc u n + t = mc v n → numN (grN wo (mc v n) (mf v n) dk) (mc v n) = itr (fun q k => 10 * q + grN wo (mc u n) (mf u n) at0 (k - t)) a t (mc u n) → e_E x 13 [some (.ref 0), some (.int v), some (.int (nI a)), some (.int u), some (.int (nI at0)), some (.int (nI t))] [] (lH (n, w, se, sp, hr, lt, nI dk, sc, so, fi, wo)) := by
    intro c
    induction c with
    | zero => intro t at0 u a hc; exact absurd hc (Nat.not_lt_zero _)
    | succ c ih =>
      intro t at0 u a hc ht hat hB hmt hv
      refine ei_iload X dX7_number_13 rfl ?_
      refine ei_iconst (v := nI 5) X dX7_number_15 rfl ?_
      refine ei_icmpn_ge (tgt := 57) X dX7_number_16 (by decide) (by first | omega | assumption) (by first | omega | assumption) (fun cq16 => ?_) (fun cq16 => ?_)
      · refine ei_iload_n X dX7_number_57 rfl rfl ?_
        refine ei_ireturn X F dX7_number_58 ?_
        exact ⟨by rw [hO, hv, show mc u n = 0 by omega]; rfl, rfl⟩
      · refine ei_iload_n X dX7_number_19 rfl rfl ?_
        refine ei_if_eq (tgt := 57) X dX7_number_20 (by decide) (fun cq20 => ?_) (fun cq20 => ?_)
        · refine ei_iload_n X dX7_number_57 rfl rfl ?_
          refine ei_ireturn X F dX7_number_58 ?_
          exact ⟨by rw [hO, hv, (mc_0 hB hn).mpr cq20]; rfl, rfl⟩
        · obtain ⟨m, hm⟩ : ∃ m, mc u n = m + 1 := ⟨mc u n - 1, by have : ¬ mc u n = 0 := fun z => cq20 ((mc_0 hB hn).mp z); omega⟩
          have hi := (amN_sp (byO wo m (mf u n) at0) 0 m).2.1
          obtain ⟨g1, g2, g3⟩ := mf_in (v := u) n (amN (byO wo m (mf u n) at0) 0 m) (by omega)
          have hrm := mb_rm (v := u) (w := u &&& (bitI (mf u n (amN (byO wo m (mf u n) at0) 0 m)) ^^^ (-1))) g2 (fun k hk => hasB_clr (by omega) hk) n g1 hn
          rw [g3, hm] at hrm
          refine ei_aload_n X dX7_number_23 rfl rfl ?_
          refine ei_iload_n X dX7_number_24 rfl rfl ?_
          refine ei_iload X dX7_number_25 rfl ?_
          refine ei_iload X dX7_number_27 rfl ?_
          refine ei_callT1 X ml_RX7_42 dX7_number_29 (ct_firstBest _ _ _ _ _ _ _ _ _ _ _ u at0 m t (4 - t) hn h_S.2.2.2.1 hat (by omega) hm (by omega) hB) rfl rfl (by decide) (by decide) (Nat.le_of_ble_eq_true rfl) ?_
          refine ei_istore X dX7_number_32 (Nat.le_of_ble_eq_true rfl) rfl ?_
          refine ei_iload_n X dX7_number_34 rfl rfl ?_
          refine ei_iconst (v := 1) X dX7_number_35 rfl ?_
          refine ei_iload X dX7_number_36 rfl ?_
          refine ei_ishl X dX7_number_38 ?_
          refine ei_iconst (v := -1) X dX7_number_39 rfl ?_
          refine ei_ixor X dX7_number_40 ?_
          refine ei_iand X dX7_number_41 ?_
          refine ei_istore_n X dX7_number_42 rfl (Nat.le_of_ble_eq_true rfl) rfl ?_
          refine ei_bipush (v := nI 10) X dX7_number_43 rfl ?_
          refine ei_iload_n X dX7_number_45 rfl rfl ?_
          refine ei_imul X dX7_number_46 ?_
          rw [nI_mul]
          refine ei_iload X dX7_number_47 rfl ?_
          refine ei_iadd X dX7_number_49 ?_
          rw [nI_add]
          refine ei_istore_n X dX7_number_50 rfl (Nat.le_of_ble_eq_true rfl) rfl ?_
          refine ei_iinc_n X dX7_number_51 rfl rfl ?_
          refine ei_goto (tgt := 13) X dX7_number_54 (by decide) ?_
          refine ih (t + 1) (mf u n (amN (byO wo m (mf u n) at0) 0 m)) (u &&& (bitI (mf u n (amN (byO wo m (mf u n) at0) 0 m)) ^^^ (-1))) (10 * a + mf u n (amN (byO wo m (mf u n) at0) 0 m)) (by omega) (by omega) (by omega) (BN_clr hB _) (by omega) ?_
          have em : mc (u &&& (bitI (mf u n (amN (byO wo m (mf u n) at0) 0 m)) ^^^ (-1))) n = m := (by omega)
          rw [hv, hm, itr_s, Nat.sub_self, grN_0, em]
          refine itr_ext m (t + 1) _ (fun q k a1 a2 => ?_)
          show 10 * q + grN wo (m + 1) (mf u n) at0 (k - t) = 10 * q + _
          rw [show k - t = (k - (t + 1)) + 1 by omega, grN_s]
          congr 1
          exact (grN_ext m _ _ (fun j hj => hrm.2 j (by omega))).symm
  refine ei_iconst (v := nI 1) X dX7_number_0 rfl ?_
  refine ei_istore_n X dX7_number_1 rfl (Nat.le_of_ble_eq_true rfl) rfl ?_
  refine ei_iload_n X dX7_number_2 rfl rfl ?_
  refine ei_istore_n X dX7_number_3 rfl (Nat.le_of_ble_eq_true rfl) rfl ?_
  refine ei_aload_n X dX7_number_4 rfl rfl ?_
  refine ei_getf X fl_RX7_9 dX7_number_5 rfl rfl ?_
  refine ei_istore X dX7_number_8 (Nat.le_of_ble_eq_true rfl) rfl ?_
  refine ei_iconst (v := nI 0) X dX7_number_10 rfl ?_
  refine ei_istore X dX7_number_11 (Nat.le_of_ble_eq_true rfl) rfl ?_
  exact L 6 0 dk v 1 (by omega) (by omega) (by omega) h_B (by omega) rfl

