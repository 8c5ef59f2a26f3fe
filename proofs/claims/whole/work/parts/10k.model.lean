/-! ===== a light of a cut, the best cut, the best figure ===== -/
def lightR (S : St) (k m : Int32) : Int32 := if (¬ k < 0 ∧ (k ≤ 0 ∨ ¬ nI (sN S) ≤ k)) ∧ inI m 0 30 = true then lightF S (nc k) (nc m) else -1
theorem lightR_k {n : Nat} (hn : n ≤ 10) {k : Int32} (h0 : ¬ k < 0) (h : k ≤ 0 ∨ ¬ nI n ≤ k) : ∃ a, (a = 0 ∨ a < n) ∧ k = nI a := by
  have h0 := Int32.not_lt.mp h0
  rcases h with h | h
  · exact ⟨0, Or.inl rfl, Int32.le_antisymm h h0⟩
  · obtain ⟨a, ha, rfl⟩ := (hasF_iff (n := n) (b := k) (by omega)).mp (by unfold hasF; rw [decide_eq_true h0, decide_eq_true (Int32.not_le.mp h)]; rfl)
    exact ⟨a, Or.inr ha, rfl⟩
theorem nI_z {j : Nat} (h : j < 2 ^ 31) (e : nI j = 0) : j = 0 := (nI_le0 h).mp (e ▸ Int32.le_refl 0)
theorem mI_kM {M M' : MX} (h : kM M M') (i : mI M) : mI M' := ⟨(h.1 11 (by omega)).trans i.1, (h.1 12 (by omega)).trans i.2⟩
theorem mI_20 {I : Nat → Int32} {A : Nat → Nat → Int32} {B : Nat → Nat → Int64} {K : Value} {v : Int32} (i : mI (I, A, B, K)) : mI (upd I 20 v, A, B, K) := mI_kM (kM_20 I A B K v) i
set_option maxRecDepth 100000 in
set_option maxHeartbeats 4000000 in
theorem ct_X10_light (n : Nat) (w se sp hr lt hd sc : Int32) (so fi wo : Nat → Int32) (I : Nat → Int32) (A : Nat → Nat → Int32) (B : Nat → Nat → Int64) (K : Value) (k m : Int32) (h_S : Good (n, w, se, sp, hr, lt, hd, sc, so, fi, wo)) (h_M : mI (I, A, B, K)) : e_Ct yX10_light cX10_light 3 (some .int) 8 [.ref 0, .int k, .int m] (mH (n, w, se, sp, hr, lt, hd, sc, so, fi, wo) (I, A, B, K)) (mP (some (.int (lightR (n, w, se, sp, hr, lt, hd, sc, so, fi, wo) k m))) (n, w, se, sp, hr, lt, hd, sc, so, fi, wo) (I, A, B, K)) := by
  refine e_open RX10 rfl (by decide +kernel) rfl (fun _ => Nat.le_of_ble_eq_true rfl) (fun x X F => ?_)
  have hn : n ≤ 10 := h_S.1
  refine ei_aload_n X dX10_light_0 rfl rfl ?_
  refine ei_iconst (v := 0) X dX10_light_1 rfl ?_
  refine ei_puti X fp_RX10_78 dX10_light_2 rfl (Nat.le_of_ble_eq_true rfl) (pm_20 _ _ _ _ _ _ _ _ _ _ _ _ _ _ _ _) ?_
  refine ei_iload_n X dX10_light_5 rfl rfl ?_
  refine ei_if_lt (tgt := 33) X dX10_light_6 (by decide) (fun cq6 => ?_) (fun cq6 => ?_)
  · refine ei_iconst (v := -1) X dX10_light_33 rfl ?_
    refine ei_goto (tgt := 43) X dX10_light_34 (by decide) ?_
    refine ei_ireturn X F dX10_light_43 ?_
    exact ⟨by unfold lightR; rw [if_neg (fun z => z.1.1 cq6)], _, kM_20 _ _ _ _ 0, rfl⟩
  · refine ei_iload_n X dX10_light_9 rfl rfl ?_
    refine ei_if_le (tgt := 21) X dX10_light_10 (by decide) (fun cq10 => ?_) (fun cq10 => ?_)
    · refine ei_iload_n X dX10_light_21 rfl rfl ?_
      refine ei_i2l X dX10_light_22 ?_
      refine ei_lconst (v := 0) X dX10_light_23 rfl ?_
      refine ei_ldc2 X cw_RX10_332 dX10_light_24 ?_
      refine ei_callT1 X ml_RX10_84 dX10_light_27 (ct_X10_in _ _ _ _) rfl rfl (by decide) (by decide) (Nat.le_of_ble_eq_true rfl) ?_
      rw [in_0_30]
      refine ei_ifz_ne (tgt := 37) X dX10_light_30 (by decide) (fun cq30 => ?_) (fun cq30 => ?_)
      · have hk2 : k ≤ 0 ∨ ¬ nI n ≤ k := (by first | exact Or.inl cq10 | exact Or.inr cq18)
        have hv : lightR (n, w, se, sp, hr, lt, hd, sc, so, fi, wo) k m = lightF (n, w, se, sp, hr, lt, hd, sc, so, fi, wo) (nc k) (nc m) := (by unfold lightR; rw [if_pos ⟨⟨cq6, hk2⟩, cq30⟩])
        obtain ⟨a, ha, rfl⟩ := lightR_k hn cq6 hk2
        obtain ⟨m2, -, hm2, rfl⟩ := (inI_iff (lo := 0) (hi := 30) (by decide) (by decide)).mp cq30
        rw [nc_nI (by omega), nc_nI (by omega)] at hv
        refine ei_aload_n X dX10_light_37 rfl rfl ?_
        refine ei_iload_n X dX10_light_38 rfl rfl ?_
        refine ei_iload_n X dX10_light_39 rfl rfl ?_
        refine ei_callI X ml_RX10_334 dX10_light_40 (ct_X10_lightOf _ _ _ _ _ _ _ _ _ _ _ _ _ _ _ a m2 ha (by omega) h_S (mI_20 h_M)) rfl rfl (by decide) (by decide) rfl (Nat.le_of_ble_eq_true rfl) (fun r h2 hp => ?_)
        obtain ⟨rfl, ⟨I2, A2, B2, K2⟩, hM2, rfl⟩ := hp
        refine ei_ireturn X F dX10_light_43 ?_
        exact ⟨by rw [hv], _, kM_tr (kM_20 _ _ _ _ 0) hM2, rfl⟩
      · refine ei_iconst (v := -1) X dX10_light_33 rfl ?_
        refine ei_goto (tgt := 43) X dX10_light_34 (by decide) ?_
        refine ei_ireturn X F dX10_light_43 ?_
        exact ⟨by unfold lightR; rw [if_neg (fun z => Bool.false_ne_true (cq30.symm.trans z.2))], _, kM_20 _ _ _ _ 0, rfl⟩
    · refine ei_iload_n X dX10_light_13 rfl rfl ?_
      refine ei_aload_n X dX10_light_14 rfl rfl ?_
      refine ei_getf X fl_RX10_81 dX10_light_15 rfl rfl ?_
      refine ei_icmp_ge (tgt := 33) X dX10_light_18 (by decide) (fun cq18 => ?_) (fun cq18 => ?_)
      · refine ei_iconst (v := -1) X dX10_light_33 rfl ?_
        refine ei_goto (tgt := 43) X dX10_light_34 (by decide) ?_
        refine ei_ireturn X F dX10_light_43 ?_
        exact ⟨by unfold lightR; rw [if_neg (fun z => z.1.2.elim cq10 (fun y => y cq18))], _, kM_20 _ _ _ _ 0, rfl⟩
      · refine ei_iload_n X dX10_light_21 rfl rfl ?_
        refine ei_i2l X dX10_light_22 ?_
        refine ei_lconst (v := 0) X dX10_light_23 rfl ?_
        refine ei_ldc2 X cw_RX10_332 dX10_light_24 ?_
        refine ei_callT1 X ml_RX10_84 dX10_light_27 (ct_X10_in _ _ _ _) rfl rfl (by decide) (by decide) (Nat.le_of_ble_eq_true rfl) ?_
        rw [in_0_30]
        refine ei_ifz_ne (tgt := 37) X dX10_light_30 (by decide) (fun cq30 => ?_) (fun cq30 => ?_)
        · have hk2 : k ≤ 0 ∨ ¬ nI n ≤ k := (by first | exact Or.inl cq10 | exact Or.inr cq18)
          have hv : lightR (n, w, se, sp, hr, lt, hd, sc, so, fi, wo) k m = lightF (n, w, se, sp, hr, lt, hd, sc, so, fi, wo) (nc k) (nc m) := (by unfold lightR; rw [if_pos ⟨⟨cq6, hk2⟩, cq30⟩])
          obtain ⟨a, ha, rfl⟩ := lightR_k hn cq6 hk2
          obtain ⟨m2, -, hm2, rfl⟩ := (inI_iff (lo := 0) (hi := 30) (by decide) (by decide)).mp cq30
          rw [nc_nI (by omega), nc_nI (by omega)] at hv
          refine ei_aload_n X dX10_light_37 rfl rfl ?_
          refine ei_iload_n X dX10_light_38 rfl rfl ?_
          refine ei_iload_n X dX10_light_39 rfl rfl ?_
          refine ei_callI X ml_RX10_334 dX10_light_40 (ct_X10_lightOf _ _ _ _ _ _ _ _ _ _ _ _ _ _ _ a m2 ha (by omega) h_S (mI_20 h_M)) rfl rfl (by decide) (by decide) rfl (Nat.le_of_ble_eq_true rfl) (fun r h2 hp => ?_)
          obtain ⟨rfl, ⟨I2, A2, B2, K2⟩, hM2, rfl⟩ := hp
          refine ei_ireturn X F dX10_light_43 ?_
          exact ⟨by rw [hv], _, kM_tr (kM_20 _ _ _ _ 0) hM2, rfl⟩
        · refine ei_iconst (v := -1) X dX10_light_33 rfl ?_
          refine ei_goto (tgt := 43) X dX10_light_34 (by decide) ?_
          refine ei_ireturn X F dX10_light_43 ?_
          exact ⟨by unfold lightR; rw [if_neg (fun z => Bool.false_ne_true (cq30.symm.trans z.2))], _, kM_20 _ _ _ _ 0, rfl⟩
def split1 (S : St) (m : Nat) (q : Int32 × Int32) (k : Nat) : Int32 × Int32 := (if lightF S k m ≤ q.2 then q.1 else nI k, if lightF S k m ≤ q.2 then q.2 else lightF S k m)
def splitP (S : St) (m : Nat) : Int32 × Int32 := itr (split1 S m) (0, -1) 0 (if sN S = 0 then 1 else sN S)
def splitF (S : St) (m what : Int32) : Int32 := if inI m 0 30 = true ∧ inI what 0 1 = true then (if what = 0 then (splitP S (nc m)).1 else (splitP S (nc m)).2) else -1
set_option maxRecDepth 100000 in
set_option maxHeartbeats 4000000 in
theorem ct_X10_split (n : Nat) (w se sp hr lt hd sc : Int32) (so fi wo : Nat → Int32) (I : Nat → Int32) (A : Nat → Nat → Int32) (B : Nat → Nat → Int64) (K : Value) (m what : Int32) (h_S : Good (n, w, se, sp, hr, lt, hd, sc, so, fi, wo)) (h_M : mI (I, A, B, K)) : e_Ct yX10_split cX10_split 7 (some .int) 8 [.ref 0, .int m, .int what] (mH (n, w, se, sp, hr, lt, hd, sc, so, fi, wo) (I, A, B, K)) (mP (some (.int (splitF (n, w, se, sp, hr, lt, hd, sc, so, fi, wo) m what))) (n, w, se, sp, hr, lt, hd, sc, so, fi, wo) (I, A, B, K)) := by
  refine e_open RX10 rfl (by decide +kernel) rfl (fun _ => Nat.le_of_ble_eq_true rfl) (fun x X F => ?_)
  have hn : n ≤ 10 := h_S.1
  have L : ∀ (mk e : Nat), mk < 1000 → e = (if n = 0 then 1 else n) → splitF (n, w, se, sp, hr, lt, hd, sc, so, fi, wo) m what = (if what = 0 then (itr (split1 (n, w, se, sp, hr, lt, hd, sc, so, fi, wo) mk) (0, -1) 0 e).1 else (itr (split1 (n, w, se, sp, hr, lt, hd, sc, so, fi, wo) mk) (0, -1) 0 e).2) → ∀ (c j : Nat) (q : Int32 × Int32) (M2 : MX), e - j < c → j ≤ e → mI M2 → kM (I, A, B, K) M2 → itr (split1 (n, w, se, sp, hr, lt, hd, sc, so, fi, wo) mk) (0, -1) 0 e = itr (split1 (n, w, se, sp, hr, lt, hd, sc, so, fi, wo) mk) q j (e - j) → e_E x 37 [some (.ref 0), some (.int (nI mk)), some (.int what), some (.int q.1), some (.int q.2), some (.int (nI j)), none] [] (mH (n, w, se, sp, hr, lt, hd, sc, so, fi, wo) M2) := by
    intro mk e hmk he hF c
    have he2 : n ≤ e ∧ 1 ≤ e ∧ e ≤ 10 ∧ (e = 1 ∨ e = n) := by split at he <;> omega
    induction c with
    | zero => intro j q M2 hk; exact absurd hk (Nat.not_lt_zero _)
    | succ c ih =>
      intro j q M2 hk hj hI2 hM2 hv
      obtain ⟨I2, A2, B2, K2⟩ := M2
      refine ei_iload X dX10_split_37 rfl ?_
      refine ei_if_eq (tgt := 51) X dX10_split_39 (by decide) (fun cq39 => ?_) (fun cq39 => ?_)
      · have hjn : j = 0 ∨ j < n := (by first | exact Or.inl (nI_z (by omega) cq39) | exact Or.inr (by omega))
        refine ei_aload_n X dX10_split_51 rfl rfl ?_
        refine ei_iload X dX10_split_52 rfl ?_
        refine ei_iload_n X dX10_split_54 rfl rfl ?_
        refine ei_callI X ml_RX10_334 dX10_split_55 (ct_X10_lightOf _ _ _ _ _ _ _ _ _ _ _ _ _ _ _ j mk hjn hmk h_S hI2) rfl rfl (by decide) (by decide) rfl (Nat.le_of_ble_eq_true rfl) (fun r h2 hp => ?_)
        obtain ⟨rfl, ⟨I3, A3, B3, K3⟩, hM3, rfl⟩ := hp
        refine ei_istore X dX10_split_58 (Nat.le_of_ble_eq_true rfl) rfl ?_
        refine ei_iload X dX10_split_60 rfl ?_
        refine ei_iload X dX10_split_62 rfl ?_
        refine ei_icmp_le (tgt := 72) X dX10_split_64 (by decide) (fun cq64 => ?_) (fun cq64 => ?_)
        · refine ei_iload_n X dX10_split_72 rfl rfl ?_
          refine ei_istore_n X dX10_split_73 rfl (Nat.le_of_ble_eq_true rfl) rfl ?_
          refine ei_iload X dX10_split_74 rfl ?_
          refine ei_iload X dX10_split_76 rfl ?_
          refine ei_icmp_le (tgt := 86) X dX10_split_78 (by decide) (fun cq78 => ?_) (fun cq78 => ?_)
          · refine ei_iload X dX10_split_86 rfl ?_
            refine ei_istore X dX10_split_88 (Nat.le_of_ble_eq_true rfl) rfl ?_
            refine ei_iinc_n X dX10_split_90 rfl rfl ?_
            refine ei_goto (tgt := 37) X dX10_split_93 (by decide) ?_
            refine ei_drop 6 ?_
            exact ih (j + 1) q (I3, A3, B3, K3) (by omega) (by omega) (mI_kM hM3 hI2) (kM_tr hM2 hM3) (by rw [hv, itr_lt _ _ (by omega)]; congr 1; unfold split1; rw [if_pos cq64, if_pos cq64])
          · refine ei_iload X dX10_split_81 rfl ?_
            refine ei_goto (tgt := 88) X dX10_split_83 (by decide) ?_
            refine ei_istore X dX10_split_88 (Nat.le_of_ble_eq_true rfl) rfl ?_
            refine ei_iinc_n X dX10_split_90 rfl rfl ?_
            refine ei_goto (tgt := 37) X dX10_split_93 (by decide) ?_
            exact absurd cq64 cq78
        · refine ei_iload X dX10_split_67 rfl ?_
          refine ei_goto (tgt := 73) X dX10_split_69 (by decide) ?_
          refine ei_istore_n X dX10_split_73 rfl (Nat.le_of_ble_eq_true rfl) rfl ?_
          refine ei_iload X dX10_split_74 rfl ?_
          refine ei_iload X dX10_split_76 rfl ?_
          refine ei_icmp_le (tgt := 86) X dX10_split_78 (by decide) (fun cq78 => ?_) (fun cq78 => ?_)
          · refine ei_iload X dX10_split_86 rfl ?_
            refine ei_istore X dX10_split_88 (Nat.le_of_ble_eq_true rfl) rfl ?_
            refine ei_iinc_n X dX10_split_90 rfl rfl ?_
            refine ei_goto (tgt := 37) X dX10_split_93 (by decide) ?_
            exact absurd cq78 cq64
          · refine ei_iload X dX10_split_81 rfl ?_
            refine ei_goto (tgt := 88) X dX10_split_83 (by decide) ?_
            refine ei_istore X dX10_split_88 (Nat.le_of_ble_eq_true rfl) rfl ?_
            refine ei_iinc_n X dX10_split_90 rfl rfl ?_
            refine ei_goto (tgt := 37) X dX10_split_93 (by decide) ?_
            refine ei_drop 6 ?_
            exact ih (j + 1) (nI j, lightF (n, w, se, sp, hr, lt, hd, sc, so, fi, wo) j mk) (I3, A3, B3, K3) (by omega) (by omega) (mI_kM hM3 hI2) (kM_tr hM2 hM3) (by rw [hv, itr_lt _ _ (by omega)]; congr 1; unfold split1; rw [if_neg cq64, if_neg cq64])
      · refine ei_iload X dX10_split_42 rfl ?_
        refine ei_aload_n X dX10_split_44 rfl rfl ?_
        refine ei_getf X fl_RX10_81 dX10_split_45 rfl rfl ?_
        refine ei_icmpn_ge (tgt := 96) X dX10_split_48 (by decide) (by first | omega | assumption) (by first | omega | assumption) (fun cq48 => ?_) (fun cq48 => ?_)
        · have hje : e ≤ j := (by have : ¬ j = 0 := (fun z => cq39 (by rw [z]; rfl)); omega)
          refine ei_iload_n X dX10_split_96 rfl rfl ?_
          refine ei_if_ne (tgt := 104) X dX10_split_97 (by decide) (fun cq97 => ?_) (fun cq97 => ?_)
          · refine ei_iload X dX10_split_104 rfl ?_
            refine ei_ireturn X F dX10_split_106 ?_
            exact ⟨by rw [hF, if_neg cq97, hv, itr_ge _ _ hje], _, hM2, rfl⟩
          · refine ei_iload_n X dX10_split_100 rfl rfl ?_
            refine ei_goto (tgt := 106) X dX10_split_101 (by decide) ?_
            refine ei_ireturn X F dX10_split_106 ?_
            exact ⟨by rw [hF, if_pos cq97, hv, itr_ge _ _ hje], _, hM2, rfl⟩
        · have hjn : j = 0 ∨ j < n := (by first | exact Or.inl (nI_z (by omega) cq39) | exact Or.inr (by omega))
          refine ei_aload_n X dX10_split_51 rfl rfl ?_
          refine ei_iload X dX10_split_52 rfl ?_
          refine ei_iload_n X dX10_split_54 rfl rfl ?_
          refine ei_callI X ml_RX10_334 dX10_split_55 (ct_X10_lightOf _ _ _ _ _ _ _ _ _ _ _ _ _ _ _ j mk hjn hmk h_S hI2) rfl rfl (by decide) (by decide) rfl (Nat.le_of_ble_eq_true rfl) (fun r h2 hp => ?_)
          obtain ⟨rfl, ⟨I3, A3, B3, K3⟩, hM3, rfl⟩ := hp
          refine ei_istore X dX10_split_58 (Nat.le_of_ble_eq_true rfl) rfl ?_
          refine ei_iload X dX10_split_60 rfl ?_
          refine ei_iload X dX10_split_62 rfl ?_
          refine ei_icmp_le (tgt := 72) X dX10_split_64 (by decide) (fun cq64 => ?_) (fun cq64 => ?_)
          · refine ei_iload_n X dX10_split_72 rfl rfl ?_
            refine ei_istore_n X dX10_split_73 rfl (Nat.le_of_ble_eq_true rfl) rfl ?_
            refine ei_iload X dX10_split_74 rfl ?_
            refine ei_iload X dX10_split_76 rfl ?_
            refine ei_icmp_le (tgt := 86) X dX10_split_78 (by decide) (fun cq78 => ?_) (fun cq78 => ?_)
            · refine ei_iload X dX10_split_86 rfl ?_
              refine ei_istore X dX10_split_88 (Nat.le_of_ble_eq_true rfl) rfl ?_
              refine ei_iinc_n X dX10_split_90 rfl rfl ?_
              refine ei_goto (tgt := 37) X dX10_split_93 (by decide) ?_
              refine ei_drop 6 ?_
              exact ih (j + 1) q (I3, A3, B3, K3) (by omega) (by omega) (mI_kM hM3 hI2) (kM_tr hM2 hM3) (by rw [hv, itr_lt _ _ (by omega)]; congr 1; unfold split1; rw [if_pos cq64, if_pos cq64])
            · refine ei_iload X dX10_split_81 rfl ?_
              refine ei_goto (tgt := 88) X dX10_split_83 (by decide) ?_
              refine ei_istore X dX10_split_88 (Nat.le_of_ble_eq_true rfl) rfl ?_
              refine ei_iinc_n X dX10_split_90 rfl rfl ?_
              refine ei_goto (tgt := 37) X dX10_split_93 (by decide) ?_
              exact absurd cq64 cq78
          · refine ei_iload X dX10_split_67 rfl ?_
            refine ei_goto (tgt := 73) X dX10_split_69 (by decide) ?_
            refine ei_istore_n X dX10_split_73 rfl (Nat.le_of_ble_eq_true rfl) rfl ?_
            refine ei_iload X dX10_split_74 rfl ?_
            refine ei_iload X dX10_split_76 rfl ?_
            refine ei_icmp_le (tgt := 86) X dX10_split_78 (by decide) (fun cq78 => ?_) (fun cq78 => ?_)
            · refine ei_iload X dX10_split_86 rfl ?_
              refine ei_istore X dX10_split_88 (Nat.le_of_ble_eq_true rfl) rfl ?_
              refine ei_iinc_n X dX10_split_90 rfl rfl ?_
              refine ei_goto (tgt := 37) X dX10_split_93 (by decide) ?_
              exact absurd cq78 cq64
            · refine ei_iload X dX10_split_81 rfl ?_
              refine ei_goto (tgt := 88) X dX10_split_83 (by decide) ?_
              refine ei_istore X dX10_split_88 (Nat.le_of_ble_eq_true rfl) rfl ?_
              refine ei_iinc_n X dX10_split_90 rfl rfl ?_
              refine ei_goto (tgt := 37) X dX10_split_93 (by decide) ?_
              refine ei_drop 6 ?_
              exact ih (j + 1) (nI j, lightF (n, w, se, sp, hr, lt, hd, sc, so, fi, wo) j mk) (I3, A3, B3, K3) (by omega) (by omega) (mI_kM hM3 hI2) (kM_tr hM2 hM3) (by rw [hv, itr_lt _ _ (by omega)]; congr 1; unfold split1; rw [if_neg cq64, if_neg cq64])
  refine ei_aload_n X dX10_split_0 rfl rfl ?_
  refine ei_iconst (v := 0) X dX10_split_1 rfl ?_
  refine ei_puti X fp_RX10_78 dX10_split_2 rfl (Nat.le_of_ble_eq_true rfl) (pm_20 _ _ _ _ _ _ _ _ _ _ _ _ _ _ _ _) ?_
  refine ei_iload_n X dX10_split_5 rfl rfl ?_
  refine ei_i2l X dX10_split_6 ?_
  refine ei_lconst (v := 0) X dX10_split_7 rfl ?_
  refine ei_ldc2 X cw_RX10_332 dX10_split_8 ?_
  refine ei_callT1 X ml_RX10_84 dX10_split_11 (ct_X10_in _ _ _ _) rfl rfl (by decide) (by decide) (Nat.le_of_ble_eq_true rfl) ?_
  rw [in_0_30]
  refine ei_ifz_eq (tgt := 27) X dX10_split_14 (by decide) (fun cq14 => ?_) (fun cq14 => ?_)
  · refine ei_iconst (v := -1) X dX10_split_27 rfl ?_
    refine ei_ireturn X F dX10_split_28 ?_
    exact ⟨by unfold splitF; rw [if_neg (fun z => Bool.false_ne_true (cq14.symm.trans z.1))], _, kM_20 _ _ _ _ 0, rfl⟩
  · refine ei_iload_n X dX10_split_17 rfl rfl ?_
    refine ei_i2l X dX10_split_18 ?_
    refine ei_lconst (v := 0) X dX10_split_19 rfl ?_
    refine ei_lconst (v := 1) X dX10_split_20 rfl ?_
    refine ei_callT1 X ml_RX10_84 dX10_split_21 (ct_X10_in _ _ _ _) rfl rfl (by decide) (by decide) (Nat.le_of_ble_eq_true rfl) ?_
    rw [in_0_1]
    refine ei_ifz_ne (tgt := 29) X dX10_split_24 (by decide) (fun cq24 => ?_) (fun cq24 => ?_)
    · refine ei_iconst (v := 0) X dX10_split_29 rfl ?_
      refine ei_istore_n X dX10_split_30 rfl (Nat.le_of_ble_eq_true rfl) rfl ?_
      refine ei_iconst (v := -1) X dX10_split_31 rfl ?_
      refine ei_istore X dX10_split_32 (Nat.le_of_ble_eq_true rfl) rfl ?_
      refine ei_iconst (v := 0) X dX10_split_34 rfl ?_
      refine ei_istore X dX10_split_35 (Nat.le_of_ble_eq_true rfl) rfl ?_
      have hF : splitF (n, w, se, sp, hr, lt, hd, sc, so, fi, wo) m what = (if what = 0 then (splitP (n, w, se, sp, hr, lt, hd, sc, so, fi, wo) (nc m)).1 else (splitP (n, w, se, sp, hr, lt, hd, sc, so, fi, wo) (nc m)).2) := (by unfold splitF; rw [if_pos ⟨cq14, cq24⟩])
      obtain ⟨m2, -, hm2, e5⟩ := (inI_iff (lo := 0) (hi := 30) (by decide) (by decide)).mp cq14
      rw [show nc m = m2 by rw [e5]; exact nc_nI (by omega)] at hF
      have h7 := L m2 _ (by omega) rfl hF 12 0 (0, -1) (upd I 20 0, A, B, K) (by split <;> omega) (Nat.zero_le _) (mI_20 h_M) (kM_20 _ _ _ _ 0) rfl
      rw [← e5] at h7
      exact h7
    · refine ei_iconst (v := -1) X dX10_split_27 rfl ?_
      refine ei_ireturn X F dX10_split_28 ?_
      exact ⟨by unfold splitF; rw [if_neg (fun z => Bool.false_ne_true (cq24.symm.trans z.2))], _, kM_20 _ _ _ _ 0, rfl⟩
def figS (S : St) (b f : Nat) : St := (sN S, sW S, sE S, sP S, sH S, sL S, sD S, sC S, sO S, upd (sG S) b (nI f), sR S)
def beat1 (S : St) (b m : Nat) (q : Int32 × Int32) (f : Nat) : Int32 × Int32 := (if burntF (figS S b f) m ≤ q.2 then q.1 else nI f, if burntF (figS S b f) m ≤ q.2 then q.2 else burntF (figS S b f) m)
def beatF (S : St) (b m what : Int32) : Int32 := if hasF (sN S) b = true ∧ inI m 0 60 = true ∧ inI what 0 1 = true then (if what = 0 then (itr (beat1 S (nc b) (nc m)) (0, -1) 0 10).1 else (itr (beat1 S (nc b) (nc m)) (0, -1) 0 10).2) else -1
theorem good_fig {S : St} (h : Good S) {b f : Nat} (hf : f ≤ 9) : Good (figS S b f) :=
  ⟨h.1, h.2.1, gdV_upd h.2.2.1 (gd_nI (m := 9) hf (by decide)), h.2.2.2⟩
set_option maxRecDepth 100000 in
set_option maxHeartbeats 4000000 in
theorem ct_X10_beat (n : Nat) (w se sp hr lt hd sc : Int32) (so fi wo : Nat → Int32) (I : Nat → Int32) (A : Nat → Nat → Int32) (B : Nat → Nat → Int64) (K : Value) (b m what : Int32) (h_S : Good (n, w, se, sp, hr, lt, hd, sc, so, fi, wo)) (h_M : mI (I, A, B, K)) : e_Ct yX10_beat cX10_beat 9 (some .int) 6 [.ref 0, .int b, .int m, .int what] (mH (n, w, se, sp, hr, lt, hd, sc, so, fi, wo) (I, A, B, K)) (mP (some (.int (beatF (n, w, se, sp, hr, lt, hd, sc, so, fi, wo) b m what))) (n, w, se, sp, hr, lt, hd, sc, so, fi, wo) (I, A, B, K)) := by
  refine e_open RX10 rfl (by decide +kernel) rfl (fun _ => Nat.le_of_ble_eq_true rfl) (fun x X F => ?_)
  obtain ⟨i11, i12⟩ := h_M
  simp only at i11 i12
  have hn : n ≤ 10 := h_S.1
  have L : ∀ (bk mk e : Nat), e = 10 → bk < 10 → mk ≤ 60 → beatF (n, w, se, sp, hr, lt, hd, sc, so, fi, wo) b m what = (if what = 0 then (itr (beat1 (n, w, se, sp, hr, lt, hd, sc, so, fi, wo) bk mk) (0, -1) 0 e).1 else (itr (beat1 (n, w, se, sp, hr, lt, hd, sc, so, fi, wo) bk mk) (0, -1) 0 e).2) → ∀ (c f : Nat) (q : Int32 × Int32) (J : Nat → Int32), e - f < c → f ≤ e → (∀ k, k = 11 ∨ k = 12 ∨ k = 30 → J k = I k) → itr (beat1 (n, w, se, sp, hr, lt, hd, sc, so, fi, wo) bk mk) (0, -1) 0 e = itr (beat1 (n, w, se, sp, hr, lt, hd, sc, so, fi, wo) bk mk) q f (e - f) → e_E x 50 [some (.ref 0), some (.int (nI bk)), some (.int (nI mk)), some (.int what), some (.int q.1), some (.int q.2), some (.int (nI f)), none, none] [] (mH (n, w, se, sp, hr, lt, hd, sc, so, fi, wo) (J, updA A 13 (encF (n, w, se, sp, hr, lt, hd, sc, so, fi, wo)), B, .ref 13)) := by
    intro bk mk e he hbk hmk hF c
    induction c with
    | zero => intro f q J hk; exact absurd hk (Nat.not_lt_zero _)
    | succ c ih =>
      intro f q J hk hf hJ hv
      have R : f < 10 → ∀ (cq2 j : Nat) (a : Int32) (J2 : Nat → Int32), mk - j < cq2 → j ≤ mk → (∀ k, k = 11 ∨ k = 12 ∨ k = 30 → J2 k = I k) → burntF (figS (n, w, se, sp, hr, lt, hd, sc, so, fi, wo) bk f) mk = cntF (fun k => hourB (hoursS (figS (n, w, se, sp, hr, lt, hd, sc, so, fi, wo) bk f) k)) a j mk → e_E x 71 [some (.ref 0), some (.int (nI bk)), some (.int (nI mk)), some (.int what), some (.int q.1), some (.int q.2), some (.int (nI f)), some (.int a), some (.int (nI j))] [] (mH (hoursS (figS (n, w, se, sp, hr, lt, hd, sc, so, fi, wo) bk f) j) (J2, updA A 13 (encF (n, w, se, sp, hr, lt, hd, sc, so, fi, wo)), B, .ref 13)) := by
        intro hf10 cq2
        induction cq2 with
        | zero => intro j a J2 hk; exact absurd hk (Nat.not_lt_zero _)
        | succ cq2 ih2 =>
          intro j a J2 hk2 hj hJ2 hb
          obtain ⟨w2, se2, hr2, lt2, wo2, e2⟩ := hours_ex (figS (n, w, se, sp, hr, lt, hd, sc, so, fi, wo) bk f) j
          simp only [figS, sN, sW, sE, sP, sH, sL, sD, sC, sO, sG, sR] at e2
          have e3 : hoursS (figS (n, w, se, sp, hr, lt, hd, sc, so, fi, wo) bk f) (j + 1) = hourS (hoursS (figS (n, w, se, sp, hr, lt, hd, sc, so, fi, wo) bk f) j) 1 := hours_s _ _
          have hg := good_at (good_fig (b := bk) h_S (show f ≤ 9 by omega)) j
          have j12 := (hJ2 12 (by omega)).trans i12
          have j11 := (hJ2 11 (by omega)).trans i11
          have hx : hoursS (figS (n, w, se, sp, hr, lt, hd, sc, so, fi, wo) bk f) j = (n, w2, se2, sp, hr2, lt2, hd, sc, so, upd fi bk (nI f), wo2) := e2
          rw [hx] at e3 hg ⊢
          refine ei_iload X dX10_beat_71 rfl ?_
          refine ei_iload_n X dX10_beat_73 rfl rfl ?_
          refine ei_icmpn_ge (tgt := 100) X dX10_beat_74 (by decide) (by first | omega | assumption) (by first | omega | assumption) (fun cq74 => ?_) (fun cq74 => ?_)
          · refine ei_aload_n X dX10_beat_100 rfl rfl ?_
            refine ei_callI X ml_RX10_231 dX10_beat_101 (ct_X10_again _ _ _ _ _ _ _ _ _ _ _ n w se sp hr lt hd sc so fi wo _ _ _ _ updA_on) rfl rfl (by decide) (by decide) rfl (Nat.le_of_ble_eq_true rfl) (fun r h2 hp => ?_)
            obtain ⟨rfl, J101, h101, rfl⟩ := hp
            refine ei_iload X dX10_beat_104 rfl ?_
            refine ei_iload X dX10_beat_106 rfl ?_
            refine ei_icmp_le (tgt := 116) X dX10_beat_108 (by decide) (fun cq108 => ?_) (fun cq108 => ?_)
            · refine ei_iload X dX10_beat_116 rfl ?_
              refine ei_istore X dX10_beat_118 (Nat.le_of_ble_eq_true rfl) rfl ?_
              refine ei_iload X dX10_beat_120 rfl ?_
              refine ei_iload X dX10_beat_122 rfl ?_
              refine ei_icmp_le (tgt := 132) X dX10_beat_124 (by decide) (fun cq124 => ?_) (fun cq124 => ?_)
              · refine ei_iload X dX10_beat_132 rfl ?_
                refine ei_istore X dX10_beat_134 (Nat.le_of_ble_eq_true rfl) rfl ?_
                refine ei_iinc_n X dX10_beat_136 rfl rfl ?_
                refine ei_goto (tgt := 50) X dX10_beat_139 (by decide) ?_
                have hb2 : burntF (figS (n, w, se, sp, hr, lt, hd, sc, so, fi, wo) bk f) mk = a := (by rw [hb, cntF_ge cq74])
                refine ei_drop 7 ?_
                refine ei_drop 8 ?_
                exact ih (f + 1) q J101 (by omega) (by omega) (fun k hk => by rw [h101 k (by omega) (by omega)]; exact hJ2 k hk) (by rw [hv, itr_lt _ _ (by omega)]; congr 1; unfold beat1; rw [hb2, if_pos cq108, if_pos cq108])
              · refine ei_iload X dX10_beat_127 rfl ?_
                refine ei_goto (tgt := 134) X dX10_beat_129 (by decide) ?_
                refine ei_istore X dX10_beat_134 (Nat.le_of_ble_eq_true rfl) rfl ?_
                refine ei_iinc_n X dX10_beat_136 rfl rfl ?_
                refine ei_goto (tgt := 50) X dX10_beat_139 (by decide) ?_
                exact absurd cq108 cq124
            · refine ei_iload X dX10_beat_111 rfl ?_
              refine ei_goto (tgt := 118) X dX10_beat_113 (by decide) ?_
              refine ei_istore X dX10_beat_118 (Nat.le_of_ble_eq_true rfl) rfl ?_
              refine ei_iload X dX10_beat_120 rfl ?_
              refine ei_iload X dX10_beat_122 rfl ?_
              refine ei_icmp_le (tgt := 132) X dX10_beat_124 (by decide) (fun cq124 => ?_) (fun cq124 => ?_)
              · refine ei_iload X dX10_beat_132 rfl ?_
                refine ei_istore X dX10_beat_134 (Nat.le_of_ble_eq_true rfl) rfl ?_
                refine ei_iinc_n X dX10_beat_136 rfl rfl ?_
                refine ei_goto (tgt := 50) X dX10_beat_139 (by decide) ?_
                exact absurd cq124 cq108
              · refine ei_iload X dX10_beat_127 rfl ?_
                refine ei_goto (tgt := 134) X dX10_beat_129 (by decide) ?_
                refine ei_istore X dX10_beat_134 (Nat.le_of_ble_eq_true rfl) rfl ?_
                refine ei_iinc_n X dX10_beat_136 rfl rfl ?_
                refine ei_goto (tgt := 50) X dX10_beat_139 (by decide) ?_
                have hb2 : burntF (figS (n, w, se, sp, hr, lt, hd, sc, so, fi, wo) bk f) mk = a := (by rw [hb, cntF_ge cq74])
                refine ei_drop 7 ?_
                refine ei_drop 8 ?_
                exact ih (f + 1) (nI f, a) J101 (by omega) (by omega) (fun k hk => by rw [h101 k (by omega) (by omega)]; exact hJ2 k hk) (by rw [hv, itr_lt _ _ (by omega)]; congr 1; unfold beat1; rw [hb2, if_neg cq108, if_neg cq108])
          · refine ei_iload X dX10_beat_77 rfl ?_
            refine ei_aload_n X dX10_beat_79 rfl rfl ?_
            refine ei_callI X ml_RX10_134 dX10_beat_80 (ct_X10_hourOn _ _ _ _ _ _ _ _ _ _ _ _ _ _ _ hg (Or.inl j12) j11) rfl rfl (by decide) (by decide) rfl (Nat.le_of_ble_eq_true rfl) (fun r h2 hp => ?_)
            obtain ⟨rfl, rfl⟩ := hp
            rw [j12]
            refine ei_ifz_eq (tgt := 90) X dX10_beat_83 (by decide) (fun cq83 => ?_) (fun cq83 => ?_)
            · refine ei_iconst (v := 0) X dX10_beat_90 rfl ?_
              refine ei_iadd X dX10_beat_91 ?_
              refine ei_istore X dX10_beat_92 (Nat.le_of_ble_eq_true rfl) rfl ?_
              refine ei_iinc_n X dX10_beat_94 rfl rfl ?_
              refine ei_goto (tgt := 71) X dX10_beat_97 (by decide) ?_
              rw [Int32.add_zero]
              have h9 := ih2 (j + 1) a (burnI J2 (hourB (n, w2, se2, sp, hr2, lt2, hd, sc, so, upd fi bk (nI f), wo2)) (wholeN w2 0 n)) (by omega) (by omega) (fun k hk => by rw [burnI_off (by omega)]; exact hJ2 k hk) (by rw [hb, cntF_lt (by omega), hx, cq83, if_neg Bool.false_ne_true])
              rw [e3] at h9
              exact h9
            · refine ei_iconst (v := 1) X dX10_beat_86 rfl ?_
              refine ei_goto (tgt := 91) X dX10_beat_87 (by decide) ?_
              refine ei_iadd X dX10_beat_91 ?_
              refine ei_istore X dX10_beat_92 (Nat.le_of_ble_eq_true rfl) rfl ?_
              refine ei_iinc_n X dX10_beat_94 rfl rfl ?_
              refine ei_goto (tgt := 71) X dX10_beat_97 (by decide) ?_
              have h9 := ih2 (j + 1) (a + 1) (burnI J2 (hourB (n, w2, se2, sp, hr2, lt2, hd, sc, so, upd fi bk (nI f), wo2)) (wholeN w2 0 n)) (by omega) (by omega) (fun k hk => by rw [burnI_off (by omega)]; exact hJ2 k hk) (by rw [hb, cntF_lt (by omega), hx, cq83, if_pos rfl])
              rw [e3] at h9
              exact h9
      refine ei_iload X dX10_beat_50 rfl ?_
      refine ei_bipush (v := nI 10) X dX10_beat_52 rfl ?_
      refine ei_icmpn_ge (tgt := 142) X dX10_beat_54 (by decide) (by first | omega | assumption) (by first | omega | assumption) (fun cq54 => ?_) (fun cq54 => ?_)
      · refine ei_iload_n X dX10_beat_142 rfl rfl ?_
        refine ei_if_ne (tgt := 151) X dX10_beat_143 (by decide) (fun cq143 => ?_) (fun cq143 => ?_)
        · refine ei_iload X dX10_beat_151 rfl ?_
          refine ei_ireturn X F dX10_beat_153 ?_
          exact ⟨by rw [hF, if_neg cq143, hv, itr_ge _ _ (by omega)], _, kM_13 hJ, rfl⟩
        · refine ei_iload X dX10_beat_146 rfl ?_
          refine ei_goto (tgt := 153) X dX10_beat_148 (by decide) ?_
          refine ei_ireturn X F dX10_beat_153 ?_
          exact ⟨by rw [hF, if_pos cq143, hv, itr_ge _ _ (by omega)], _, kM_13 hJ, rfl⟩
      · refine ei_aload_n X dX10_beat_57 rfl rfl ?_
        refine ei_getf X fl_RX10_13 dX10_beat_58 rfl rfl ?_
        refine ei_iload_n X dX10_beat_61 rfl rfl ?_
        refine ei_iload X dX10_beat_62 rfl ?_
        refine ei_iastore_n X dX10_beat_64 rfl (by first | omega | assumption) (by decide) (pm_r2 _ _ _ _ _ _ _ _ _ _ _ _ _ _ _ _) ?_
        refine ei_iconst (v := 0) X dX10_beat_65 rfl ?_
        refine ei_istore X dX10_beat_66 (Nat.le_of_ble_eq_true rfl) rfl ?_
        refine ei_iconst (v := 0) X dX10_beat_68 rfl ?_
        refine ei_istore X dX10_beat_69 (Nat.le_of_ble_eq_true rfl) rfl ?_
        exact R (by omega) (mk + 1) 0 0 J (by omega) (by omega) hJ rfl
  refine ei_aload_n X dX10_beat_0 rfl rfl ?_
  refine ei_iconst (v := 0) X dX10_beat_1 rfl ?_
  refine ei_puti X fp_RX10_78 dX10_beat_2 rfl (Nat.le_of_ble_eq_true rfl) (pm_20 _ _ _ _ _ _ _ _ _ _ _ _ _ _ _ _) ?_
  refine ei_aload_n X dX10_beat_5 rfl rfl ?_
  refine ei_iload_n X dX10_beat_6 rfl rfl ?_
  refine ei_callI1 X ml_RX10_193 dX10_beat_7 (ct_X10_isBulb _ _ _ _ _ _ _ _ _ _ _ _ _ _ _ _ (by first | omega | assumption)) rfl rfl (by decide) (by decide) rfl (Nat.le_of_ble_eq_true rfl) ?_
  refine ei_ifz_eq (tgt := 35) X dX10_beat_10 (by decide) (fun cq10 => ?_) (fun cq10 => ?_)
  · refine ei_iconst (v := -1) X dX10_beat_35 rfl ?_
    refine ei_ireturn X F dX10_beat_36 ?_
    exact ⟨by unfold beatF; rw [if_neg (fun z => Bool.false_ne_true (cq10.symm.trans z.1))], _, kM_20 _ _ _ _ 0, rfl⟩
  · refine ei_iload_n X dX10_beat_13 rfl rfl ?_
    refine ei_i2l X dX10_beat_14 ?_
    refine ei_lconst (v := 0) X dX10_beat_15 rfl ?_
    refine ei_ldc2 X cw_RX10_202 dX10_beat_16 ?_
    refine ei_callT1 X ml_RX10_84 dX10_beat_19 (ct_X10_in _ _ _ _) rfl rfl (by decide) (by decide) (Nat.le_of_ble_eq_true rfl) ?_
    rw [in_0_60]
    refine ei_ifz_eq (tgt := 35) X dX10_beat_22 (by decide) (fun cq22 => ?_) (fun cq22 => ?_)
    · refine ei_iconst (v := -1) X dX10_beat_35 rfl ?_
      refine ei_ireturn X F dX10_beat_36 ?_
      exact ⟨by unfold beatF; rw [if_neg (fun z => Bool.false_ne_true (cq22.symm.trans z.2.1))], _, kM_20 _ _ _ _ 0, rfl⟩
    · refine ei_iload_n X dX10_beat_25 rfl rfl ?_
      refine ei_i2l X dX10_beat_26 ?_
      refine ei_lconst (v := 0) X dX10_beat_27 rfl ?_
      refine ei_lconst (v := 1) X dX10_beat_28 rfl ?_
      refine ei_callT1 X ml_RX10_84 dX10_beat_29 (ct_X10_in _ _ _ _) rfl rfl (by decide) (by decide) (Nat.le_of_ble_eq_true rfl) ?_
      rw [in_0_1]
      refine ei_ifz_ne (tgt := 37) X dX10_beat_32 (by decide) (fun cq32 => ?_) (fun cq32 => ?_)
      · refine ei_iconst (v := 0) X dX10_beat_37 rfl ?_
        refine ei_istore X dX10_beat_38 (Nat.le_of_ble_eq_true rfl) rfl ?_
        refine ei_iconst (v := -1) X dX10_beat_40 rfl ?_
        refine ei_istore X dX10_beat_41 (Nat.le_of_ble_eq_true rfl) rfl ?_
        refine ei_aload_n X dX10_beat_43 rfl rfl ?_
        refine ei_callI X ml_RX10_225 dX10_beat_44 (ct_X10_think _ _ _ _ _ _ _ _ _ _ _ _ _ _ _) rfl rfl (by decide) (by decide) rfl (Nat.le_of_ble_eq_true rfl) (fun r h2 hp => ?_)
        obtain ⟨rfl, J44, h44, rfl⟩ := hp
        refine ei_iconst (v := 0) X dX10_beat_47 rfl ?_
        refine ei_istore X dX10_beat_48 (Nat.le_of_ble_eq_true rfl) rfl ?_
        have hF : beatF (n, w, se, sp, hr, lt, hd, sc, so, fi, wo) b m what = (if what = 0 then (itr (beat1 (n, w, se, sp, hr, lt, hd, sc, so, fi, wo) (nc b) (nc m)) (0, -1) 0 10).1 else (itr (beat1 (n, w, se, sp, hr, lt, hd, sc, so, fi, wo) (nc b) (nc m)) (0, -1) 0 10).2) := (by unfold beatF; rw [if_pos ⟨cq10, cq22, cq32⟩])
        obtain ⟨bk, hbk, e5⟩ := (hasF_iff (by omega)).mp cq10
        obtain ⟨mk, -, hmk, e6⟩ := (inI_iff (lo := 0) (hi := 60) (by decide) (by decide)).mp cq22
        rw [show nc b = bk by rw [e5]; exact nc_nI (by omega), show nc m = mk by rw [e6]; exact nc_nI (by omega)] at hF
        have h7 := L bk mk 10 rfl (by omega) hmk hF 11 0 (0, -1) J44 (by omega) (by omega) (fun k hk => by rw [h44 k (by omega) (by omega), pk_un (by omega)]) rfl
        rw [← e5, ← e6] at h7
        exact h7
      · refine ei_iconst (v := -1) X dX10_beat_35 rfl ?_
        refine ei_ireturn X F dX10_beat_36 ?_
        exact ⟨by unfold beatF; rw [if_neg (fun z => Bool.false_ne_true (cq32.symm.trans z.2.2))], _, kM_20 _ _ _ _ 0, rfl⟩

