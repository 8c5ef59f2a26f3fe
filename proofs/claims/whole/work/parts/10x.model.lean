/-! ===== order ===== -/
def orderC (n : Nat) (v what : Int32) : Bool := decide (0 ≤ v) && (decide (v < bitI n) && (decide (popF v ≤ 5) && inI what 0 1))
def ordN (S : St) (v : Int32) : Nat := numN (grN (sR S) (mc v (sN S)) (mf v (sN S)) (nc (sD S))) (mc v (sN S))
def ordS (S : St) (v : Int32) : Nat := fwN (sR S) (mc v (sN S)) (mf v (sN S)) (nc (sD S))
def orderF (S : St) (v what : Int32) : Int32 := if orderC (sN S) v what then (if what = 0 then nI (ordN S v) else nI (ordS S v)) else -1
theorem bitI_nI : ∀ b, b ≤ 10 → bitI b = nI (2 ^ b) := by decide +kernel
theorem set_in {n : Nat} (hn : n ≤ 10) {v : Int32} (h0 : 0 ≤ v) : v >>> (nI n &&& 31) = 0 ↔ v < bitI n := by
  obtain ⟨s, hs, rfl⟩ := nI_of (x := v) (Int32.not_lt.mpr h0)
  have hk : ∀ n, n ≤ 10 → ((nI n &&& 31).toBitVec.smod 32).toNat = n := by decide +kernel
  have hp : 2 ^ n ≤ 1024 := Nat.le_trans (Nat.pow_le_pow_right (by decide) hn) (by decide)
  have h2 := Nat.two_pow_pos n
  rw [pk_shrN hs _ n (hk n hn), bitI_nI n hn, nI_ltI hs (by omega), ← nI_0, nI_eq (Nat.lt_of_le_of_lt (Nat.div_le_self _ _) hs) (by decide)]
  constructor
  · intro h
    rcases Nat.lt_or_ge s (2 ^ n) with q | q
    · exact q
    · have := Nat.div_pos q h2
      omega
  · intro h; exact Nat.div_eq_of_lt h
theorem set_ex {n : Nat} (hn : n ≤ 10) {v : Int32} (h0 : 0 ≤ v) (h : v < bitI n) : ∃ s, s < 2 ^ n ∧ v = nI s ∧ Gd1 v 1023 ∧ BN n v := by
  obtain ⟨s, hs, rfl⟩ := nI_of (x := v) (Int32.not_lt.mpr h0)
  have hp : 2 ^ n ≤ 1024 := Nat.le_trans (Nat.pow_le_pow_right (by decide) hn) (by decide)
  rw [bitI_nI n hn, nI_ltI hs (by omega)] at h
  refine ⟨s, h, rfl, ⟨?_, ?_⟩, BN_lt h hn⟩
  · rw [nI_toInt hs]; omega
  · rw [nI_toInt hs]; omega
def loL (least by0 : Int32) : Int32 := if least < 0 ∨ by0 < least then by0 else least
def loB (least by0 num best : Int32) : Int32 := if least < 0 ∨ by0 < least then num else best
def OS (cs num : Nat → Nat) (j : Nat) (best least : Int32) : Prop := (j = 0 ∧ best = 1 ∧ least = -1) ∨ (0 < j ∧ best = nI (num (amN cs 0 (j - 1))) ∧ least = nI (mnN cs 0 (j - 1)))
theorem OS_s {cs num : Nat → Nat} {j : Nat} {best least : Int32} (h : OS cs num j best least) (hb : ∀ k, k ≤ j → cs k < 2 ^ 31) : OS cs num (j + 1) (loB least (nI (cs j)) (nI (num j)) best) (loL least (nI (cs j))) := by
  refine Or.inr ⟨by omega, ?_⟩
  rcases h with ⟨rfl, rfl, rfl⟩ | ⟨h1, rfl, rfl⟩
  · exact ⟨if_pos (Or.inl (by decide)), if_pos (Or.inl (by decide))⟩
  · obtain ⟨m, rfl⟩ : ∃ m, j = m + 1 := ⟨j - 1, by omega⟩
    have b1 := hb (m + 1) (Nat.le_refl _)
    have b2 : mnN cs 0 m < 2 ^ 31 := Nat.lt_of_le_of_lt (mnN_le cs 0 m 0 (Nat.zero_le _)) (hb _ (by omega))
    have nz : ¬ nI (mnN cs 0 m) < 0 := nI_pos b2
    rw [show m + 1 + 1 - 1 = m + 1 by omega, show m + 1 - 1 = m by omega]
    have e1 : amN cs 0 (m + 1) = if cs (m + 1) < mnN cs 0 m then m + 1 else amN cs 0 m := by
      show (if cs (0 + m + 1) < mnN cs 0 m then 0 + m + 1 else amN cs 0 m) = _
      rw [Nat.zero_add]
    have e2 : mnN cs 0 (m + 1) = min (mnN cs 0 m) (cs (m + 1)) := by
      show min (mnN cs 0 m) (cs (0 + m + 1)) = _
      rw [Nat.zero_add]
    rw [e1, e2]
    unfold loB loL
    by_cases q : cs (m + 1) < mnN cs 0 m
    · rw [if_pos q, if_pos (Or.inr (nI_lt q b2)), if_pos (Or.inr (nI_lt q b2)), Nat.min_eq_right (by omega)]
      exact ⟨rfl, rfl⟩
    · rw [if_neg q, if_neg (fun z => z.elim nz (nI_nlt (by omega) b1)), if_neg (fun z => z.elim nz (nI_nlt (by omega) b1)), Nat.min_eq_left (by omega)]
      exact ⟨rfl, rfl⟩
set_option maxRecDepth 100000 in
set_option maxHeartbeats 1000000 in
theorem ct_X10_order (n : Nat) (w se sp hr lt hd sc : Int32) (so fi wo : Nat → Int32) (I : Nat → Int32) (A : Nat → Nat → Int32) (B : Nat → Nat → Int64) (K : Value) (v what : Int32) (h_S : Good (n, w, se, sp, hr, lt, hd, sc, so, fi, wo)) : e_Ct yX10_order cX10_order 9 (some .int) 3 [.ref 0, .int v, .int what] (mH (n, w, se, sp, hr, lt, hd, sc, so, fi, wo) (I, A, B, K)) (mP (some (.int (orderF (n, w, se, sp, hr, lt, hd, sc, so, fi, wo) v what))) (n, w, se, sp, hr, lt, hd, sc, so, fi, wo) (I, A, B, K)) := by
  refine e_open RX10 rfl (by decide +kernel) rfl (fun _ => Nat.le_of_ble_eq_true rfl) (fun x X F => ?_)
  have hn : n ≤ 10 := h_S.1
  have B0 : orderC n v what = false → mP (some (.int (orderF (n, w, se, sp, hr, lt, hd, sc, so, fi, wo) v what))) (n, w, se, sp, hr, lt, hd, sc, so, fi, wo) (I, A, B, K) (some (.int (-1))) (mH (n, w, se, sp, hr, lt, hd, sc, so, fi, wo) (upd I 20 0, A, B, K)) := by
    intro h
    exact ⟨by unfold orderF; rw [if_neg (by rw [h]; exact Bool.false_ne_true)], _, kM_20 _ _ _ _ 0, rfl⟩
  have LM : orderC n v what = true → BN n v → Gd1 v 1023 → ∀ m, mc v n = m → m ≤ 5 → ∀ (c j : Nat) (best least : Int32) (A2 : Nat → Nat → Int32), fcN m - j < c → j ≤ fcN m → (∀ c, c ≠ 18 → c ≠ 19 → A2 c = A c) → OS (fun n2 => csN wo m (nc hd) (ntP m (mf v n) n2)) (fun n2 => numN (ntP m (mf v n) n2) m) j best least → e_E x 72 [some (.ref 0), some (.int v), some (.int what), some (.int (nI (fcN m))), some (.int best), some (.int least), some (.int (nI j)), none, none] [] (mH (n, w, se, sp, hr, lt, hd, sc, so, fi, wo) (upd I 20 0, A2, B, K)) := by
    intro hC hB hv m hm hm5 c
    have hfc := fcN_le m hm5
    have hdk : nc hd < 10 := by
      obtain ⟨dk, hdk, rfl⟩ := i32_of (m := 9) (by decide) h_S.2.2.2.2.2.2.2.1
      rw [nc_nI (by omega)]; omega
    induction c with
    | zero => intro j best least A2 hc; exact absurd hc (Nat.not_lt_zero _)
    | succ c ih =>
      intro j best least A2 hc hj hA hos
      have plt : ∀ n2, n2 < fcN m → ∀ k, k < m → ntP m (mf v n) n2 k < 10 := fun n2 hn2 k hk => ntP_lt m _ n2 k (fun i hi => Nat.lt_of_lt_of_le (mf_in n i (by omega)).1 hn) hn2 hk
      have cb : ∀ n2, n2 < fcN m → csN wo m (nc hd) (ntP m (mf v n) n2) < 2 ^ 31 := fun n2 hn2 => by
        have := csN_le m (nc hd) (ntP m (mf v n) n2) hm5 hdk (plt n2 hn2) (fun k hk => (gdV_nI (m := 999) (by decide) h_S.2.2.2.1 (plt n2 hn2 k hk)).2)
        have h3 : 17 * 5000 * m ≤ 17 * 5000 * 5 := Nat.mul_le_mul_left _ hm5
        simp only [sN, sW, sE, sP, sH, sL, sD, sC, sO, sG, sR] at this
        omega
      have J118 : j < fcN m → ∀ (b2 : Int32) (A3 : Nat → Nat → Int32), (∀ c, c ≠ 18 → c ≠ 19 → A3 c = A c) → b2 = loB least (nI (csN wo m (nc hd) (ntP m (mf v n) j))) (nI (numN (ntP m (mf v n) j) m)) best → e_E x 118 [some (.ref 0), some (.int v), some (.int what), some (.int (nI (fcN m))), some (.int best), some (.int least), some (.int (nI j)), some (.int (nI m)), some (.int (nI (csN wo m (nc hd) (ntP m (mf v n) j))))] [.int b2] (mH (n, w, se, sp, hr, lt, hd, sc, so, fi, wo) (upd I 20 0, A3, B, K)) := by
        intro hlt b2 A3 hA3 hb2
        have hs := OS_s hos (fun k hk => cb k (by omega))
        rw [← hb2] at hs
        refine ei_istore X dX10_order_118 (Nat.le_of_ble_eq_true rfl) rfl ?_
        refine ei_iload X dX10_order_120 rfl ?_
        refine ei_if_lt (tgt := 132) X dX10_order_122 (by decide) (fun cq122 => ?_) (fun cq122 => ?_)
        · refine ei_iload X dX10_order_132 rfl ?_
          refine ei_goto (tgt := 139) X dX10_order_134 (by decide) ?_
          refine ei_istore X dX10_order_139 (Nat.le_of_ble_eq_true rfl) rfl ?_
          refine ei_iinc_n X dX10_order_141 rfl rfl ?_
          refine ei_goto (tgt := 72) X dX10_order_144 (by decide) ?_
          refine ei_drop 7 ?_
          refine ei_drop 8 ?_
          exact ih (j + 1) _ _ _ (by omega) (by omega) hA3 (by rw [show loL least (nI (csN wo m (nc hd) (ntP m (mf v n) j))) = nI (csN wo m (nc hd) (ntP m (mf v n) j)) from if_pos (Or.inl cq122)] at hs; exact hs)
        · refine ei_iload X dX10_order_125 rfl ?_
          refine ei_iload X dX10_order_127 rfl ?_
          refine ei_icmp_ge (tgt := 137) X dX10_order_129 (by decide) (fun cq129 => ?_) (fun cq129 => ?_)
          · refine ei_iload X dX10_order_137 rfl ?_
            refine ei_istore X dX10_order_139 (Nat.le_of_ble_eq_true rfl) rfl ?_
            refine ei_iinc_n X dX10_order_141 rfl rfl ?_
            refine ei_goto (tgt := 72) X dX10_order_144 (by decide) ?_
            refine ei_drop 7 ?_
            refine ei_drop 8 ?_
            exact ih (j + 1) _ _ _ (by omega) (by omega) hA3 (by rw [show loL least (nI (csN wo m (nc hd) (ntP m (mf v n) j))) = least from if_neg (fun z => z.elim cq122 (Int32.not_lt.mpr cq129))] at hs; exact hs)
          · refine ei_iload X dX10_order_132 rfl ?_
            refine ei_goto (tgt := 139) X dX10_order_134 (by decide) ?_
            refine ei_istore X dX10_order_139 (Nat.le_of_ble_eq_true rfl) rfl ?_
            refine ei_iinc_n X dX10_order_141 rfl rfl ?_
            refine ei_goto (tgt := 72) X dX10_order_144 (by decide) ?_
            refine ei_drop 7 ?_
            refine ei_drop 8 ?_
            exact ih (j + 1) _ _ _ (by omega) (by omega) hA3 (by rw [show loL least (nI (csN wo m (nc hd) (ntP m (mf v n) j))) = nI (csN wo m (nc hd) (ntP m (mf v n) j)) from if_pos (Or.inr (Int32.not_le.mp cq129))] at hs; exact hs)
      refine ei_iload X dX10_order_72 rfl ?_
      refine ei_iload_n X dX10_order_74 rfl rfl ?_
      refine ei_icmpn_ge (tgt := 147) X dX10_order_75 (by decide) (by first | omega | assumption) (by first | omega | assumption) (fun cq75 => ?_) (fun cq75 => ?_)
      · obtain rfl : j = fcN m := (by omega)
        have hz := fcN_pos m
        obtain ⟨u1, u2⟩ := ord_all wo m (mf v n) (nc hd)
        have hkm : kM (I, A, B, K) (upd I 20 0, A2, B, K) := ⟨fun k hk => pk_un (by omega), fun c hc => hA c (by omega) (by omega), rfl⟩
        refine ei_iload_n X dX10_order_147 rfl rfl ?_
        refine ei_if_ne (tgt := 156) X dX10_order_148 (by decide) (fun cq148 => ?_) (fun cq148 => ?_)
        · refine ei_iload X dX10_order_156 rfl ?_
          refine ei_ireturn X F dX10_order_158 ?_
          rcases hos with ⟨z, -⟩ | ⟨-, z1, z2⟩
          · exact absurd z (by omega)
          · exact ⟨by unfold orderF; rw [if_pos hC, if_neg cq148, z2, u1]; show _ = some (Value.int (nI (fwN wo (mc v n) (mf v n) (nc hd)))); rw [hm], _, hkm, rfl⟩
        · refine ei_iload X dX10_order_151 rfl ?_
          refine ei_goto (tgt := 158) X dX10_order_153 (by decide) ?_
          refine ei_ireturn X F dX10_order_158 ?_
          rcases hos with ⟨z, -⟩ | ⟨-, z1, z2⟩
          · exact absurd z (by omega)
          · exact ⟨by unfold orderF; rw [if_pos hC, if_pos cq148, z1]; show some (Value.int (nI (numN (ntP m (mf v n) (amN (fun n2 => csN wo m (nc hd) (ntP m (mf v n) n2)) 0 (fcN m - 1))) m))) = some (Value.int (nI (numN (grN wo (mc v n) (mf v n) (nc hd)) (mc v n)))); rw [numN_ext u2, hm], _, hkm, rfl⟩
      · have p10 := plt j (by omega)
        refine ei_aload_n X dX10_order_78 rfl rfl ?_
        refine ei_iload_n X dX10_order_79 rfl rfl ?_
        refine ei_iload X dX10_order_80 rfl ?_
        refine ei_callI X ml_RX10_314 dX10_order_82 (ct_X10_layOrder _ _ _ _ _ _ _ _ _ _ _ _ _ _ _ v j hn (by omega) (by rw [hm]; omega)) rfl rfl (by decide) (by decide) rfl (Nat.le_of_ble_eq_true rfl) (fun r h2 hp => ?_)
        obtain ⟨rfl, f18, f19, h19, rfl⟩ := hp
        rw [hm]
        rw [hm] at h19
        refine ei_istore X dX10_order_85 (Nat.le_of_ble_eq_true rfl) rfl ?_
        refine ei_aload_n X dX10_order_87 rfl rfl ?_
        refine ei_iload X dX10_order_88 rfl ?_
        refine ei_callI1 X ml_RX10_317 dX10_order_90 (ct_X10_secondsOf _ _ _ _ _ _ _ _ _ _ _ _ _ _ _ m (ntP m (mf v n) j) hm5 h_S (fun k hk => ⟨p10 k hk, by rw [updA_on]; exact h19 k hk⟩)) rfl rfl (by decide) (by decide) rfl (Nat.le_of_ble_eq_true rfl) ?_
        refine ei_istore X dX10_order_93 (Nat.le_of_ble_eq_true rfl) rfl ?_
        refine ei_iload X dX10_order_95 rfl ?_
        refine ei_if_lt (tgt := 107) X dX10_order_97 (by decide) (fun cq97 => ?_) (fun cq97 => ?_)
        · refine ei_aload_n X dX10_order_107 rfl rfl ?_
          refine ei_iload X dX10_order_108 rfl ?_
          refine ei_callI1 X ml_RX10_320 dX10_order_110 (ct_X10_numberOf _ _ _ _ _ _ _ _ _ _ _ _ _ _ _ m (ntP m (mf v n) j) hm5 (fun k hk => by rw [updA_on]; exact h19 k hk)) rfl rfl (by decide) (by decide) rfl (Nat.le_of_ble_eq_true rfl) ?_
          refine ei_goto (tgt := 118) X dX10_order_113 (by decide) ?_
          exact J118 (by omega) _ _ (fun c h1 h2 => by rw [updA_off h2, updA_off h1]; exact hA c h1 h2) (if_pos (Or.inl cq97)).symm
        · refine ei_iload X dX10_order_100 rfl ?_
          refine ei_iload X dX10_order_102 rfl ?_
          refine ei_icmp_ge (tgt := 116) X dX10_order_104 (by decide) (fun cq104 => ?_) (fun cq104 => ?_)
          · refine ei_iload X dX10_order_116 rfl ?_
            exact J118 (by omega) _ _ (fun c h1 h2 => by rw [updA_off h2, updA_off h1]; exact hA c h1 h2) (if_neg (fun z => z.elim cq97 (Int32.not_lt.mpr cq104))).symm
          · refine ei_aload_n X dX10_order_107 rfl rfl ?_
            refine ei_iload X dX10_order_108 rfl ?_
            refine ei_callI1 X ml_RX10_320 dX10_order_110 (ct_X10_numberOf _ _ _ _ _ _ _ _ _ _ _ _ _ _ _ m (ntP m (mf v n) j) hm5 (fun k hk => by rw [updA_on]; exact h19 k hk)) rfl rfl (by decide) (by decide) rfl (Nat.le_of_ble_eq_true rfl) ?_
            refine ei_goto (tgt := 118) X dX10_order_113 (by decide) ?_
            exact J118 (by omega) _ _ (fun c h1 h2 => by rw [updA_off h2, updA_off h1]; exact hA c h1 h2) (if_pos (Or.inr (Int32.not_le.mp cq104))).symm
  have LA : orderC n v what = true → BN n v → Gd1 v 1023 → ∀ m, mc v n = m → m ≤ 5 → ∀ (c k : Nat), 10 - k < c → 2 ≤ k → (k ≤ m + 1 ∨ k = 2) → e_E x 43 [some (.ref 0), some (.int v), some (.int what), some (.int (nI (fcN (k - 1)))), some (.int (nI k)), none, none, none, none] [] (mH (n, w, se, sp, hr, lt, hd, sc, so, fi, wo) (upd I 20 0, A, B, K)) := by
    intro hC hB hv m hm hm5 c
    induction c with
    | zero => intro k hc; exact absurd hc (Nat.not_lt_zero _)
    | succ c ih =>
      intro k hc hk hkm
      have hpop : popF v = nI m := by rw [popF_mc hB hn, hm]
      refine ei_iload X dX10_order_43 rfl ?_
      refine ei_iload_n X dX10_order_45 rfl rfl ?_
      refine ei_callT1 X ml_RX10_311 dX10_order_46 (ct_X10_onesOf _ _ hv) rfl rfl (by decide) (by decide) (Nat.le_of_ble_eq_true rfl) ?_
      rw [hpop]
      refine ei_icmpn_gt (tgt := 63) X dX10_order_49 (by decide) (by first | omega | assumption) (by first | omega | assumption) (fun cq49 => ?_) (fun cq49 => ?_)
      · refine ei_iconst (v := 1) X dX10_order_63 rfl ?_
        refine ei_istore X dX10_order_64 (Nat.le_of_ble_eq_true rfl) rfl ?_
        refine ei_iconst (v := -1) X dX10_order_66 rfl ?_
        refine ei_istore X dX10_order_67 (Nat.le_of_ble_eq_true rfl) rfl ?_
        refine ei_iconst (v := nI 0) X dX10_order_69 rfl ?_
        refine ei_istore X dX10_order_70 (Nat.le_of_ble_eq_true rfl) rfl ?_
        have h0 := LM hC hB hv m hm hm5 (fcN m + 1) 0 1 (-1) A (by omega) (by omega) (fun _ _ _ => rfl) (Or.inl ⟨rfl, rfl, rfl⟩)
        rw [show fcN (k - 1) = fcN m from by (rcases hkm with y | y; (· congr 1; omega); (· rw [y]; rcases (by omega : m = 0 ∨ m = 1) with e | e <;> rw [e] <;> rfl))]
        exact h0
      · refine ei_iload_n X dX10_order_52 rfl rfl ?_
        refine ei_iload X dX10_order_53 rfl ?_
        refine ei_imul X dX10_order_55 ?_
        rw [nI_mul]
        refine ei_istore_n X dX10_order_56 rfl (Nat.le_of_ble_eq_true rfl) rfl ?_
        refine ei_iinc_n X dX10_order_57 rfl rfl ?_
        refine ei_goto (tgt := 43) X dX10_order_60 (by decide) ?_
        have h0 := ih (k + 1) (by omega) (by omega) (Or.inl (by omega))
        rw [show k + 1 - 1 = (k - 1) + 1 by omega] at h0
        rw [show fcN (k - 1) * k = fcN ((k - 1) + 1) from by show _ = ((k - 1) + 1) * fcN (k - 1); rw [Nat.mul_comm]; congr 1; omega]
        exact h0
  refine ei_aload_n X dX10_order_0 rfl rfl ?_
  refine ei_iconst (v := 0) X dX10_order_1 rfl ?_
  refine ei_puti X fp_RX10_78 dX10_order_2 rfl (Nat.le_of_ble_eq_true rfl) (pm_20 _ _ _ _ _ _ _ _ _ _ _ _ _ _ _ _) ?_
  refine ei_iload_n X dX10_order_5 rfl rfl ?_
  refine ei_if_lt (tgt := 36) X dX10_order_6 (by decide) (fun cq6 => ?_) (fun cq6 => ?_)
  · refine ei_iconst (v := -1) X dX10_order_36 rfl ?_
    refine ei_ireturn X F dX10_order_37 ?_
    exact B0 (by unfold orderC; rw [decide_eq_false (Int32.not_le.mpr cq6), Bool.false_and])
  · have h0 : 0 ≤ v := Int32.not_lt.mp cq6
    refine ei_iload_n X dX10_order_9 rfl rfl ?_
    refine ei_aload_n X dX10_order_10 rfl rfl ?_
    refine ei_getf X fl_RX10_81 dX10_order_11 rfl rfl ?_
    refine ei_ishr X dX10_order_14 ?_
    refine ei_if_ne (tgt := 36) X dX10_order_15 (by decide) (fun cq15 => ?_) (fun cq15 => ?_)
    · refine ei_iconst (v := -1) X dX10_order_36 rfl ?_
      refine ei_ireturn X F dX10_order_37 ?_
      exact B0 (by unfold orderC; rw [decide_eq_false (fun z => cq15 ((set_in hn h0).mpr z)), Bool.false_and, Bool.and_false])
    · obtain ⟨s, hs, hvs, hv, hB⟩ := set_ex hn h0 ((set_in hn h0).mp cq15)
      have hlt := (set_in hn h0).mp cq15
      refine ei_iload_n X dX10_order_18 rfl rfl ?_
      refine ei_callT1 X ml_RX10_311 dX10_order_19 (ct_X10_onesOf _ _ hv) rfl rfl (by decide) (by decide) (Nat.le_of_ble_eq_true rfl) ?_
      refine ei_iconst (v := 5) X dX10_order_22 rfl ?_
      refine ei_icmp_gt (tgt := 36) X dX10_order_23 (by decide) (fun cq23 => ?_) (fun cq23 => ?_)
      · refine ei_iconst (v := -1) X dX10_order_36 rfl ?_
        refine ei_ireturn X F dX10_order_37 ?_
        exact B0 (by unfold orderC; rw [decide_eq_false (Int32.not_le.mpr cq23), Bool.false_and, Bool.and_false, Bool.and_false])
      · refine ei_iload_n X dX10_order_26 rfl rfl ?_
        refine ei_i2l X dX10_order_27 ?_
        refine ei_lconst (v := 0) X dX10_order_28 rfl ?_
        refine ei_lconst (v := 1) X dX10_order_29 rfl ?_
        refine ei_callT1 X ml_RX10_84 dX10_order_30 (ct_X10_in _ _ _ _) rfl rfl (by decide) (by decide) (Nat.le_of_ble_eq_true rfl) ?_
        rw [in_0_1]
        refine ei_ifz_ne (tgt := 38) X dX10_order_33 (by decide) (fun cq33 => ?_) (fun cq33 => ?_)
        · refine ei_iconst (v := nI 1) X dX10_order_38 rfl ?_
          refine ei_istore_n X dX10_order_39 rfl (Nat.le_of_ble_eq_true rfl) rfl ?_
          refine ei_iconst (v := nI 2) X dX10_order_40 rfl ?_
          refine ei_istore X dX10_order_41 (Nat.le_of_ble_eq_true rfl) rfl ?_
          have hC : orderC n v what = true := (by unfold orderC; rw [decide_eq_true h0, decide_eq_true hlt, decide_eq_true (Int32.not_lt.mp cq23), cq33]; rfl)
          have hm5 : mc v n ≤ 5 := (by have h7 := Int32.not_lt.mp cq23; rw [popF_mc hB hn] at h7; exact (nn_le (Nat.lt_of_le_of_lt (mc_le v n) (by omega)) (by omega)).mp (show nI (mc v n) ≤ nI 5 from h7))
          exact LA hC hB hv _ rfl hm5 11 2 (by omega) (by omega) (Or.inr rfl)
        · refine ei_iconst (v := -1) X dX10_order_36 rfl ?_
          refine ei_ireturn X F dX10_order_37 ?_
          exact B0 (by unfold orderC; rw [cq33, Bool.and_false, Bool.and_false, Bool.and_false])

