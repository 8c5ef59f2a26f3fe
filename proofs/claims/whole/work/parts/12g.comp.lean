/-! ===== halving ===== -/
theorem wire_nI {a k : Nat} (h : a ≤ k) : wireF (nI a) (nI k) = nI (6 + 2 * (k - a)) := by
  unfold wireF
  rw [nI_subN h, show (6 : Int32) = nI 6 from rfl, show (2 : Int32) = nI 2 from rfl, nI_mul, nI_add]
theorem nI_max {a b : Nat} (ha : a < 2 ^ 31) (hb : b < 2 ^ 31) : (if nI a < nI b then nI b else nI a) = nI (max a b) := by
  by_cases q : a < b
  · rw [if_pos (nI_lt q hb), Nat.max_eq_right (by omega)]
  · rw [if_neg (nI_nlt (by omega) ha), Nat.max_eq_left (by omega)]
theorem nI_min {a b : Nat} (ha : a < 2 ^ 31) (hb : b < 2 ^ 31) : (if nI b < nI a then nI b else nI a) = nI (min a b) := by
  by_cases q : b < a
  · rw [if_pos (nI_lt q ha), Nat.min_eq_right (by omega)]
  · rw [if_neg (nI_nlt (by omega) hb), Nat.min_eq_left (by omega)]
theorem pbl_c (f g : Nat → Int32) (S : St) : (bl f S).set 1 (.inl (0, 100, .inl g)) = bl g S := rfl
set_option maxRecDepth 100000 in
set_option maxHeartbeats 1000000 in
theorem ct_X1_bestOf (f : Nat → Int32) (a b : Nat) (h_a : a < 10) (h_b : b < 10) : e_Ct yX1_bestOf cX1_bestOf 3 (some .int) 1 [.ref 0, .int (nI a), .int (nI b)] (bH f) (e_eq (some (.int (f (a * 10 + b)))) (bH f)) := by
  refine e_open RX1 rfl (by decide +kernel) rfl (fun _ => Nat.le_of_ble_eq_true rfl) (fun x X F => ?_)
  refine ei_aload_n X dX1_bestOf_0 rfl rfl ?_
  refine ei_getf X fl_RX1_9 dX1_bestOf_1 rfl rfl ?_
  refine ei_iload_n X dX1_bestOf_4 rfl rfl ?_
  refine ei_bipush (v := nI 10) X dX1_bestOf_5 rfl ?_
  refine ei_imul X dX1_bestOf_7 ?_
  rw [nI_mul]
  refine ei_iload_n X dX1_bestOf_8 rfl rfl ?_
  refine ei_iadd X dX1_bestOf_9 ?_
  rw [nI_add]
  refine ei_iaload_n X dX1_bestOf_10 rfl (by first | omega | assumption) (by decide) ?_
  refine ei_ireturn X F dX1_bestOf_11 ?_
  exact ⟨rfl, rfl⟩
set_option maxRecDepth 100000 in
set_option maxHeartbeats 1000000 in
theorem ct_X1_worstByCut (f : Nat → Int32) (a b k : Nat) (h_a : a ≤ k) (h_k : k < b) (h_b : b < 10) (h_1 : f (a * 10 + k) = nI (wW a k)) (h_2 : f ((k + 1) * 10 + b) = nI (wW (k + 1) b)) : e_Ct yX1_worstByCut cX1_worstByCut 4 (some .int) 2 [.ref 0, .int (nI a), .int (nI b), .int (nI k)] (bH f) (e_eq (some (.int (nI (byW a b k)))) (bH f)) := by
  refine e_open RX1 rfl (by decide +kernel) rfl (fun _ => Nat.le_of_ble_eq_true rfl) (fun x X F => ?_)
  have w1 := wW_le (a := a) (b := k) (by omega)
  have w2 := wW_le (a := k + 1) (b := b) h_b
  refine ei_iload_n X dX1_worstByCut_0 rfl rfl ?_
  refine ei_iload_n X dX1_worstByCut_1 rfl rfl ?_
  refine ei_callT1 X ml_RX1_15 dX1_worstByCut_2 (ct_X1_wireSeconds _ _ _) rfl rfl (by decide) (by decide) (Nat.le_of_ble_eq_true rfl) ?_
  rw [wire_nI h_a]
  refine ei_aload_n X dX1_worstByCut_5 rfl rfl ?_
  refine ei_iload_n X dX1_worstByCut_6 rfl rfl ?_
  refine ei_iload_n X dX1_worstByCut_7 rfl rfl ?_
  refine ei_callI1 X ml_RX1_19 dX1_worstByCut_8 (ct_X1_bestOf _ a k (by omega) (by omega)) rfl rfl (by decide) (by decide) rfl (Nat.le_of_ble_eq_true rfl) ?_
  rw [h_1]
  refine ei_aload_n X dX1_worstByCut_11 rfl rfl ?_
  refine ei_iload_n X dX1_worstByCut_12 rfl rfl ?_
  refine ei_iconst (v := nI 1) X dX1_worstByCut_13 rfl ?_
  refine ei_iadd X dX1_worstByCut_14 ?_
  rw [nI_add]
  refine ei_iload_n X dX1_worstByCut_15 rfl rfl ?_
  refine ei_callI1 X ml_RX1_19 dX1_worstByCut_16 (ct_X1_bestOf _ (k + 1) b (by omega) (by omega)) rfl rfl (by decide) (by decide) rfl (Nat.le_of_ble_eq_true rfl) ?_
  rw [h_2]
  refine ei_mmax X ml_RX1_22 dX1_worstByCut_19 (Nat.le_of_ble_eq_true rfl) ?_
  rw [nI_max (by omega) (by omega)]
  refine ei_iadd X dX1_worstByCut_22 ?_
  rw [nI_add]
  refine ei_ireturn X F dX1_worstByCut_23 ?_
  exact ⟨rfl, rfl⟩
/-- the least of the first ones, as it is kept -/
def lsF (g : Nat → Nat) (a j : Nat) : Int32 := if j = a then 2147483647 else nI (mnN g a (j - a - 1))
theorem lsF_s {g : Nat → Nat} {a j : Nat} (hj : a ≤ j) (hb : ∀ k, a ≤ k → k ≤ j → g k < 2147483647) : (if nI (g j) < lsF g a j then nI (g j) else lsF g a j) = lsF g a (j + 1) := by
  unfold lsF
  rw [if_neg (show ¬ j + 1 = a by omega)]
  by_cases q : j = a
  · subst q
    rw [if_pos rfl, show j + 1 - j - 1 = 0 by omega, if_pos]
    · rfl
    · have := hb j (Nat.le_refl _) (Nat.le_refl _)
      rw [Int32.lt_iff_toInt_lt, nI_toInt (by omega), show (2147483647 : Int32).toInt = 2147483647 from by decide]
      omega
  · obtain ⟨m, hm⟩ : ∃ m, j = a + m + 1 := ⟨j - a - 1, by omega⟩
    rw [if_neg q, show j - a - 1 = m by omega, show j + 1 - a - 1 = m + 1 by omega]
    have h1 : mnN g a m < 2147483647 := Nat.lt_of_le_of_lt (mnN_le g a m 0 (Nat.zero_le _)) (hb _ (by omega) (by omega))
    have h2 := hb j hj (Nat.le_refl _)
    rw [nI_min (by omega) (by omega), hm]
    rfl
def tbP (Wf : Nat → Nat → Nat) (f : Nat → Int32) (a b len low : Nat) : Prop := ∀ p q, a ≤ p → p ≤ q → q ≤ b → (q - p < len ∨ q - p = len ∧ p < low) → f (p * 10 + q) = nI (Wf p q)
theorem tbP_s {Wf : Nat → Nat → Nat} {f : Nat → Int32} {a b len low : Nat} (h : tbP Wf f a b len low) (hb : b < 10) (hl : low + len ≤ b) : tbP Wf (upd f (low * 10 + low + len) (nI (Wf low (low + len)))) a b len (low + 1) := by
  intro p q h1 h2 h3 h4
  by_cases e : p = low ∧ q = low + len
  · obtain ⟨rfl, rfl⟩ := e
    rw [show p * 10 + (p + len) = p * 10 + p + len by omega, pk_us]
  · rw [pk_un (by omega)]
    exact h p q h1 h2 h3 (by omega)
def dg0 (f : Nat → Int32) : Prop := ∀ p, p < 10 → f (p * 10 + p) = 0
theorem dg0_s {f : Nat → Int32} {v : Int32} {low len : Nat} (h : dg0 f) (hl : 0 < len) (hb : low + len < 10) : dg0 (upd f (low * 10 + low + len) v) := by
  intro p hp
  rw [pk_un (by omega)]
  exact h p hp
set_option maxRecDepth 100000 in
set_option maxHeartbeats 1000000 in
theorem ct_X1_worstOf (f : Nat → Int32) (a b : Nat) (h_a : a < b) (h_b : b < 10) (h_t : tbP wW f a b (b - a) 0) : e_Ct yX1_worstOf cX1_worstOf 5 (some .int) 3 [.ref 0, .int (nI a), .int (nI b)] (bH f) (e_eq (some (.int (nI (wW a b)))) (bH f)) := by
  refine e_open RX1 rfl (by decide +kernel) rfl (fun _ => Nat.le_of_ble_eq_true rfl) (fun x X F => ?_)
  have L : ∀ (c j : Nat), b - j < c → a ≤ j → j ≤ b → e_E x 6 [some (.ref 0), some (.int (nI a)), some (.int (nI b)), some (.int (lsF (byW a b) a j)), some (.int (nI j))] [] (bH f) := by
    intro c
    induction c with
    | zero => intro j hc; exact absurd hc (Nat.not_lt_zero _)
    | succ c ih =>
      intro j hc haj hjb
      refine ei_iload X dX1_worstOf_6 rfl ?_
      refine ei_iload_n X dX1_worstOf_8 rfl rfl ?_
      refine ei_icmpn_ge (tgt := 31) X dX1_worstOf_9 (by decide) (by first | omega | assumption) (by first | omega | assumption) (fun cq9 => ?_) (fun cq9 => ?_)
      · refine ei_iload_n X dX1_worstOf_31 rfl rfl ?_
        refine ei_ireturn X F dX1_worstOf_32 ?_
        exact ⟨by rw [show j = b by omega]; unfold lsF; rw [if_neg (by omega), wW_s h_a h_b], rfl⟩
      · refine ei_iload_n X dX1_worstOf_12 rfl rfl ?_
        refine ei_aload_n X dX1_worstOf_13 rfl rfl ?_
        refine ei_iload_n X dX1_worstOf_14 rfl rfl ?_
        refine ei_iload_n X dX1_worstOf_15 rfl rfl ?_
        refine ei_iload X dX1_worstOf_16 rfl ?_
        refine ei_callI1 X ml_RX1_28 dX1_worstOf_18 (ct_X1_worstByCut _ a b j haj (by omega) h_b (h_t a j (by omega) (by omega) (by omega) (by omega)) (h_t (j + 1) b (by omega) (by omega) (by omega) (by omega))) rfl rfl (by decide) (by decide) rfl (Nat.le_of_ble_eq_true rfl) ?_
        refine ei_mmin X ml_RX1_32 dX1_worstOf_21 (Nat.le_of_ble_eq_true rfl) ?_
        rw [lsF_s haj (fun k a1 a2 => by have := byW_le (a := a) (b := b) (k := k) h_b (by omega); omega)]
        refine ei_istore_n X dX1_worstOf_24 rfl (Nat.le_of_ble_eq_true rfl) rfl ?_
        refine ei_iinc_n X dX1_worstOf_25 rfl rfl ?_
        refine ei_goto (tgt := 6) X dX1_worstOf_28 (by decide) ?_
        exact ih (j + 1) (by omega) (by omega) (by omega)
  refine ei_ldc X cw_RX1_27 dX1_worstOf_0 ?_
  refine ei_istore_n X dX1_worstOf_2 rfl (Nat.le_of_ble_eq_true rfl) rfl ?_
  refine ei_iload_n X dX1_worstOf_3 rfl rfl ?_
  refine ei_istore X dX1_worstOf_4 (Nat.le_of_ble_eq_true rfl) rfl ?_
  have h0 := L (b - a + 1) a (by omega) (Nat.le_refl _) (by omega)
  unfold lsF at h0
  rw [if_pos rfl] at h0
  exact h0
set_option maxRecDepth 100000 in
set_option maxHeartbeats 1000000 in
theorem ct_X1_worst (f : Nat → Int32) (a b : Nat) (h_a : a ≤ b) (h_b : b < 10) (h_0 : dg0 f) : e_Ct yX1_worst cX1_worst 5 (some .int) 4 [.ref 0, .int (nI a), .int (nI b)] (bH f) (fun r h => r = some (.int (nI (wW a b))) ∧ ∃ g, dg0 g ∧ tbP wW g a b (b - a + 1) 0 ∧ h = bH g) := by
  refine e_open RX1 rfl (by decide +kernel) rfl (fun _ => Nat.le_of_ble_eq_true rfl) (fun x X F => ?_)
  have L : ∀ (c len : Nat) (g : Nat → Int32), b - a + 1 - len < c → 1 ≤ len → len ≤ b - a + 1 → dg0 g → tbP wW g a b len 0 → e_E x 2 [some (.ref 0), some (.int (nI a)), some (.int (nI b)), some (.int (nI len)), none] [] (bH g) := by
    intro c
    induction c with
    | zero => intro len g hc; exact absurd hc (Nat.not_lt_zero _)
    | succ c ih =>
      intro len g hc hl1 hl hd0 ht
      have LI : len ≤ b - a → ∀ (cq2 low : Nat) (g : Nat → Int32), b + 1 - low < cq2 → a ≤ low → low ≤ b + 1 → dg0 g → tbP wW g a b len low → e_E x 12 [some (.ref 0), some (.int (nI a)), some (.int (nI b)), some (.int (nI len)), some (.int (nI low))] [] (bH g) := by
        intro hlb cq2
        induction cq2 with
        | zero => intro low g hc2; exact absurd hc2 (Nat.not_lt_zero _)
        | succ cq2 ih2 =>
          intro low g hc2 hlow hlow2 hd0 ht
          refine ei_iload X dX1_worst_12 rfl ?_
          refine ei_iload_n X dX1_worst_14 rfl rfl ?_
          refine ei_iadd X dX1_worst_15 ?_
          rw [nI_add]
          refine ei_iload_n X dX1_worst_16 rfl rfl ?_
          refine ei_icmpn_gt (tgt := 51) X dX1_worst_17 (by decide) (by first | omega | assumption) (by first | omega | assumption) (fun cq17 => ?_) (fun cq17 => ?_)
          · refine ei_iinc_n X dX1_worst_51 rfl rfl ?_
            refine ei_goto (tgt := 2) X dX1_worst_54 (by decide) ?_
            refine ei_drop 4 ?_
            exact ih (len + 1) g (by omega) (by omega) (by omega) hd0 (fun p q h1 h2 h3 h4 => ht p q h1 h2 h3 (by omega))
          · refine ei_aload_n X dX1_worst_20 rfl rfl ?_
            refine ei_getf X fl_RX1_9 dX1_worst_21 rfl rfl ?_
            refine ei_iload X dX1_worst_24 rfl ?_
            refine ei_bipush (v := nI 10) X dX1_worst_26 rfl ?_
            refine ei_imul X dX1_worst_28 ?_
            rw [nI_mul]
            refine ei_iload X dX1_worst_29 rfl ?_
            refine ei_iadd X dX1_worst_31 ?_
            rw [nI_add]
            refine ei_iload_n X dX1_worst_32 rfl rfl ?_
            refine ei_iadd X dX1_worst_33 ?_
            rw [nI_add]
            refine ei_aload_n X dX1_worst_34 rfl rfl ?_
            refine ei_iload X dX1_worst_35 rfl ?_
            refine ei_iload X dX1_worst_37 rfl ?_
            refine ei_iload_n X dX1_worst_39 rfl rfl ?_
            refine ei_iadd X dX1_worst_40 ?_
            rw [nI_add]
            refine ei_callI1 X ml_RX1_40 dX1_worst_41 (ct_X1_worstOf _ low (low + len) (by omega) (by omega) (fun p q h1 h2 h3 h4 => ht p q (by omega) h2 (by omega) (by omega))) rfl rfl (by decide) (by decide) rfl (Nat.le_of_ble_eq_true rfl) ?_
            refine ei_iastore_n X dX1_worst_44 rfl (by first | omega | assumption) (by decide) (pb_c _ _) ?_
            refine ei_iinc_n X dX1_worst_45 rfl rfl ?_
            refine ei_goto (tgt := 12) X dX1_worst_48 (by decide) ?_
            exact ih2 (low + 1) _ (by omega) (by omega) (by omega) (dg0_s hd0 (by omega) (by omega)) (tbP_s ht h_b (by omega))
      refine ei_iload_n X dX1_worst_2 rfl rfl ?_
      refine ei_iload_n X dX1_worst_3 rfl rfl ?_
      refine ei_iload_n X dX1_worst_4 rfl rfl ?_
      refine ei_isub X dX1_worst_5 ?_
      rw [nI_subN h_a]
      refine ei_icmpn_gt (tgt := 57) X dX1_worst_6 (by decide) (by first | omega | assumption) (by first | omega | assumption) (fun cq6 => ?_) (fun cq6 => ?_)
      · refine ei_aload_n X dX1_worst_57 rfl rfl ?_
        refine ei_iload_n X dX1_worst_58 rfl rfl ?_
        refine ei_iload_n X dX1_worst_59 rfl rfl ?_
        refine ei_callI1 X ml_RX1_19 dX1_worst_60 (ct_X1_bestOf _ a b (by omega) (by omega)) rfl rfl (by decide) (by decide) rfl (Nat.le_of_ble_eq_true rfl) ?_
        refine ei_ireturn X F dX1_worst_63 ?_
        exact ⟨by rw [ht a b (Nat.le_refl _) h_a (Nat.le_refl _) (by omega)], g, hd0, fun p q h1 h2 h3 h4 => ht p q h1 h2 h3 (by omega), rfl⟩
      · refine ei_iload_n X dX1_worst_9 rfl rfl ?_
        refine ei_istore X dX1_worst_10 (Nat.le_of_ble_eq_true rfl) rfl ?_
        exact LI (by omega) (b + 2) a g (by omega) (by omega) (by omega) hd0 (fun p q h1 h2 h3 h4 => ht p q h1 h2 h3 (by omega))
  refine ei_iconst (v := nI 1) X dX1_worst_0 rfl ?_
  refine ei_istore_n X dX1_worst_1 rfl (Nat.le_of_ble_eq_true rfl) rfl ?_
  exact L (b - a + 2) 1 f (by omega) (by omega) (by omega) h_0 (fun p q h1 h2 h3 h4 => by rw [show q = p by omega, h_0 p (by omega), wW_0 (Nat.le_refl _)]; rfl)
theorem am_first {g : Nat → Nat} {a n : Nat} : firstN (fun k => decide (g k = mnN g a n)) a (n + 1) = amN g a n := by
  obtain ⟨h1, h2, h3, h4⟩ := amN_sp g a n
  refine firstN_is h1 (by omega) (decide_eq_true h3) (fun k a1 a2 => decide_eq_false (fun z => ?_))
  have := h4 k a1 a2
  omega
set_option maxRecDepth 100000 in
set_option maxHeartbeats 1000000 in
theorem ct_X1_cut (f : Nat → Int32) (a b : Nat) (h_a : a ≤ b) (h_b : b < 10) (h_0 : dg0 f) : e_Ct yX1_cut cX1_cut 5 (some .int) 5 [.ref 0, .int (nI a), .int (nI b)] (bH f) (fun r h => r = some (.int (cutI a b)) ∧ ∃ g, dg0 g ∧ h = bH g) := by
  refine e_open RX1 rfl (by decide +kernel) rfl (fun _ => Nat.le_of_ble_eq_true rfl) (fun x X F => ?_)
  have L : ∀ (g : Nat → Int32), dg0 g → tbP wW g a b (b - a + 1) 0 → ∀ (c j : Nat), b - j < c → a ≤ j → j ≤ b → (a < b → amN (byW a b) a (b - a - 1) = firstN (fun k => decide (byW a b k = wW a b)) j (b - j)) → e_E x 10 [some (.ref 0), some (.int (nI a)), some (.int (nI b)), some (.int (nI (wW a b))), some (.int (nI j))] [] (bH g) := by
    intro g hd0 ht c
    induction c with
    | zero => intro j hc; exact absurd hc (Nat.not_lt_zero _)
    | succ c ih =>
      intro j hc haj hjb hv
      have w1 := wW_le (a := a) (b := b) h_b
      refine ei_iload X dX1_cut_10 rfl ?_
      refine ei_iload_n X dX1_cut_12 rfl rfl ?_
      refine ei_icmpn_ge (tgt := 37) X dX1_cut_13 (by decide) (by first | omega | assumption) (by first | omega | assumption) (fun cq13 => ?_) (fun cq13 => ?_)
      · refine ei_bipush (v := -4) X dX1_cut_37 rfl ?_
        refine ei_ireturn X F dX1_cut_39 ?_
        exact ⟨by unfold cutI; rcases Nat.lt_or_ge a b with y | y; (· exfalso; have h1 := hv y; obtain ⟨-, a2, -, -⟩ := amN_sp (byW a b) a (b - a - 1); rw [firstN_e (by omega)] at h1; omega); (· rw [if_pos (by omega)]), g, hd0, rfl⟩
      · have w2 := byW_le (a := a) (b := b) (k := j) h_b (by omega)
        refine ei_aload_n X dX1_cut_16 rfl rfl ?_
        refine ei_iload_n X dX1_cut_17 rfl rfl ?_
        refine ei_iload_n X dX1_cut_18 rfl rfl ?_
        refine ei_iload X dX1_cut_19 rfl ?_
        refine ei_callI1 X ml_RX1_28 dX1_cut_21 (ct_X1_worstByCut _ a b j haj (by omega) h_b (ht a j (by omega) (by omega) (by omega) (by omega)) (ht (j + 1) b (by omega) (by omega) (by omega) (by omega))) rfl rfl (by decide) (by decide) rfl (Nat.le_of_ble_eq_true rfl) ?_
        refine ei_iload_n X dX1_cut_24 rfl rfl ?_
        refine ei_icmpn_ne (tgt := 31) X dX1_cut_25 (by decide) (by first | omega | assumption) (by first | omega | assumption) (fun cq25 => ?_) (fun cq25 => ?_)
        · refine ei_iinc_n X dX1_cut_31 rfl rfl ?_
          refine ei_goto (tgt := 10) X dX1_cut_34 (by decide) ?_
          exact ih (j + 1) (by omega) (by omega) (by omega) (fun hlt => by rw [hv hlt, firstN_f (by omega) (decide_eq_false cq25)])
        · refine ei_iload X dX1_cut_28 rfl ?_
          refine ei_ireturn X F dX1_cut_30 ?_
          exact ⟨by unfold cutI; rw [if_neg (by omega), hv (by omega), firstN_t (by omega) (decide_eq_true cq25)], g, hd0, rfl⟩
  refine ei_aload_n X dX1_cut_0 rfl rfl ?_
  refine ei_iload_n X dX1_cut_1 rfl rfl ?_
  refine ei_iload_n X dX1_cut_2 rfl rfl ?_
  refine ei_callI X ml_RX1_43 dX1_cut_3 (ct_X1_worst _ _ _ (by first | omega | assumption) (by first | omega | assumption) (by first | omega | assumption)) rfl rfl (by decide) (by decide) rfl (Nat.le_of_ble_eq_true rfl) (fun r h2 hp => ?_)
  obtain ⟨rfl, g, hd0, ht, rfl⟩ := hp
  refine ei_istore_n X dX1_cut_6 rfl (Nat.le_of_ble_eq_true rfl) rfl ?_
  refine ei_iload_n X dX1_cut_7 rfl rfl ?_
  refine ei_istore X dX1_cut_8 (Nat.le_of_ble_eq_true rfl) rfl ?_
  exact L g hd0 ht (b - a + 1) a (by omega) (Nat.le_refl _) h_a (fun hlt => by rw [wW_s hlt h_b]; have h1 := am_first (g := byW a b) (a := a) (n := b - a - 1); rw [Nat.sub_add_cancel (by omega)] at h1; exact h1.symm)
set_option maxRecDepth 100000 in
set_option maxHeartbeats 1000000 in
theorem ct_X1_weighedOf (f : Nat → Int32) (n : Nat) (w se sp hr lt hd sc : Int32) (so fi wo : Nat → Int32) (a b : Nat) (h_a : a < b) (h_b : b < 10) (h_W : GdV wo 999) (h_t : tbP (wM (odS wo)) f a b (b - a) 0) : e_Ct yX1_weighedOf cX1_weighedOf 8 (some .int) 3 [.ref 0, .ref 2, .int (nI a), .int (nI b)] (bl f (n, w, se, sp, hr, lt, hd, sc, so, fi, wo)) (e_eq (some (.int (nI (wM (odS wo) a b)))) (bl f (n, w, se, sp, hr, lt, hd, sc, so, fi, wo))) := by
  refine e_open RX1 rfl (by decide +kernel) rfl (fun _ => Nat.le_of_ble_eq_true rfl) (fun x X F => ?_)
  have ho := odS_le h_W
  have ho1 := odN_le h_W (i := a) (e := b + 1) (by omega)
  have L : ∀ (c j : Nat), b - j < c → a ≤ j → j ≤ b → e_E x 15 [some (.ref 0), some (.ref 2), some (.int (nI a)), some (.int (nI b)), some (.int (nI (odN wo a (b + 1)))), some (.int (lsF (byM (odS wo) a b) a j)), some (.int (nI j)), none] [] (bl f (n, w, se, sp, hr, lt, hd, sc, so, fi, wo)) := by
    intro c
    induction c with
    | zero => intro j hc; exact absurd hc (Nat.not_lt_zero _)
    | succ c ih =>
      intro j hc haj hjb
      refine ei_iload X dX1_weighedOf_15 rfl ?_
      refine ei_iload_n X dX1_weighedOf_17 rfl rfl ?_
      refine ei_icmpn_ge (tgt := 65) X dX1_weighedOf_18 (by decide) (by first | omega | assumption) (by first | omega | assumption) (fun cq18 => ?_) (fun cq18 => ?_)
      · refine ei_iload X dX1_weighedOf_65 rfl ?_
        refine ei_ireturn X F dX1_weighedOf_67 ?_
        exact ⟨by rw [show j = b by omega]; unfold lsF; rw [if_neg (by omega), wM_s h_a h_b], rfl⟩
      · refine ei_iload_n X dX1_weighedOf_21 rfl rfl ?_
        refine ei_iload X dX1_weighedOf_22 rfl ?_
        refine ei_callT1 X ml_RX1_15 dX1_weighedOf_24 (ct_X1_wireSeconds _ _ _) rfl rfl (by decide) (by decide) (Nat.le_of_ble_eq_true rfl) ?_
        rw [wire_nI haj]
        refine ei_iload X dX1_weighedOf_27 rfl ?_
        refine ei_imul X dX1_weighedOf_29 ?_
        rw [nI_mul]
        refine ei_aload_n X dX1_weighedOf_30 rfl rfl ?_
        refine ei_iload_n X dX1_weighedOf_31 rfl rfl ?_
        refine ei_iload X dX1_weighedOf_32 rfl ?_
        refine ei_cv1 [0, 1] (bl_gB _ _) (bl_pB _ _ _) X ml_RX1_19 dX1_weighedOf_34 (ct_X1_bestOf _ a j (by omega) (by omega)) rfl rfl (by decide) (by decide) rfl (Nat.le_of_ble_eq_true rfl) (by decide) ?_
        rw [h_t a j (by omega) (by omega) (by omega) (by omega)]
        refine ei_iadd X dX1_weighedOf_37 ?_
        rw [nI_add]
        refine ei_aload_n X dX1_weighedOf_38 rfl rfl ?_
        refine ei_iload X dX1_weighedOf_39 rfl ?_
        refine ei_iconst (v := nI 1) X dX1_weighedOf_41 rfl ?_
        refine ei_iadd X dX1_weighedOf_42 ?_
        rw [nI_add]
        refine ei_iload_n X dX1_weighedOf_43 rfl rfl ?_
        refine ei_cv1 [0, 1] (bl_gB _ _) (bl_pB _ _ _) X ml_RX1_19 dX1_weighedOf_44 (ct_X1_bestOf _ (j + 1) b (by omega) (by omega)) rfl rfl (by decide) (by decide) rfl (Nat.le_of_ble_eq_true rfl) (by decide) ?_
        rw [h_t (j + 1) b (by omega) (by omega) (by omega) (by omega)]
        refine ei_iadd X dX1_weighedOf_47 ?_
        rw [nI_add]
        rw [show (6 + 2 * (j - a)) * odN wo a (b + 1) + wM (odS wo) a j + wM (odS wo) (j + 1) b = byM (odS wo) a b j from Nat.add_assoc _ _ _]
        refine ei_istore X dX1_weighedOf_48 (Nat.le_of_ble_eq_true rfl) rfl ?_
        refine ei_iload X dX1_weighedOf_50 rfl ?_
        refine ei_iload X dX1_weighedOf_52 rfl ?_
        refine ei_mmin X ml_RX1_32 dX1_weighedOf_54 (Nat.le_of_ble_eq_true rfl) ?_
        rw [lsF_s haj (fun k a1 a2 => by have := byM_le ho (a := a) (b := b) (k := k) h_b (by omega); omega)]
        refine ei_istore X dX1_weighedOf_57 (Nat.le_of_ble_eq_true rfl) rfl ?_
        refine ei_iinc_n X dX1_weighedOf_59 rfl rfl ?_
        refine ei_goto (tgt := 15) X dX1_weighedOf_62 (by decide) ?_
        refine ei_drop 7 ?_
        exact ih (j + 1) (by omega) (by omega) (by omega)
  refine ei_aload_n X dX1_weighedOf_0 rfl rfl ?_
  refine ei_iload_n X dX1_weighedOf_1 rfl rfl ?_
  refine ei_iload_n X dX1_weighedOf_2 rfl rfl ?_
  refine ei_cv1 [2, 3, 4, 5] (bl_gL _ _) (bl_pL _ _ _) X ml_RX1_35 dX1_weighedOf_3 (ct_X2_oddsOf_ _ _ _ _ _ _ _ _ _ _ _ _ _ (by first | omega | assumption) (by first | omega | assumption)) rfl rfl (by decide) (by decide) rfl (Nat.le_of_ble_eq_true rfl) (by decide) ?_
  rw [odds_nI h_W (by omega) (by omega)]
  refine ei_istore X dX1_weighedOf_6 (Nat.le_of_ble_eq_true rfl) rfl ?_
  refine ei_ldc X cw_RX1_27 dX1_weighedOf_8 ?_
  refine ei_istore X dX1_weighedOf_10 (Nat.le_of_ble_eq_true rfl) rfl ?_
  refine ei_iload_n X dX1_weighedOf_12 rfl rfl ?_
  refine ei_istore X dX1_weighedOf_13 (Nat.le_of_ble_eq_true rfl) rfl ?_
  have h0 := L (b - a + 1) a (by omega) (Nat.le_refl _) (by omega)
  unfold lsF at h0
  rw [if_pos rfl] at h0
  exact h0
set_option maxRecDepth 100000 in
set_option maxHeartbeats 1000000 in
theorem ct_X1_weighed (f : Nat → Int32) (n : Nat) (w se sp hr lt hd sc : Int32) (so fi wo : Nat → Int32) (a b : Nat) (h_a : a ≤ b) (h_b : b < 10) (h_W : GdV wo 999) (h_0 : dg0 f) : e_Ct yX1_weighed cX1_weighed 6 (some .int) 4 [.ref 0, .ref 2, .int (nI a), .int (nI b)] (bl f (n, w, se, sp, hr, lt, hd, sc, so, fi, wo)) (fun r h => r = some (.int (nI (wM (odS wo) a b))) ∧ ∃ g, dg0 g ∧ h = bl g (n, w, se, sp, hr, lt, hd, sc, so, fi, wo)) := by
  refine e_open RX1 rfl (by decide +kernel) rfl (fun _ => Nat.le_of_ble_eq_true rfl) (fun x X F => ?_)
  have L : ∀ (c len : Nat) (g : Nat → Int32), b - a + 1 - len < c → 1 ≤ len → len ≤ b - a + 1 → dg0 g → tbP (wM (odS wo)) g a b len 0 → e_E x 3 [some (.ref 0), some (.ref 2), some (.int (nI a)), some (.int (nI b)), some (.int (nI len)), none] [] (bl g (n, w, se, sp, hr, lt, hd, sc, so, fi, wo)) := by
    intro c
    induction c with
    | zero => intro len g hc; exact absurd hc (Nat.not_lt_zero _)
    | succ c ih =>
      intro len g hc hl1 hl hd0 ht
      have LI : len ≤ b - a → ∀ (cq2 low : Nat) (g : Nat → Int32), b + 1 - low < cq2 → a ≤ low → low ≤ b + 1 → dg0 g → tbP (wM (odS wo)) g a b len low → e_E x 14 [some (.ref 0), some (.ref 2), some (.int (nI a)), some (.int (nI b)), some (.int (nI len)), some (.int (nI low))] [] (bl g (n, w, se, sp, hr, lt, hd, sc, so, fi, wo)) := by
        intro hlb cq2
        induction cq2 with
        | zero => intro low g hc2; exact absurd hc2 (Nat.not_lt_zero _)
        | succ cq2 ih2 =>
          intro low g hc2 hlow hlow2 hd0 ht
          refine ei_iload X dX1_weighed_14 rfl ?_
          refine ei_iload X dX1_weighed_16 rfl ?_
          refine ei_iadd X dX1_weighed_18 ?_
          rw [nI_add]
          refine ei_iload_n X dX1_weighed_19 rfl rfl ?_
          refine ei_icmpn_gt (tgt := 57) X dX1_weighed_20 (by decide) (by first | omega | assumption) (by first | omega | assumption) (fun cq20 => ?_) (fun cq20 => ?_)
          · refine ei_iinc_n X dX1_weighed_57 rfl rfl ?_
            refine ei_goto (tgt := 3) X dX1_weighed_60 (by decide) ?_
            refine ei_drop 5 ?_
            exact ih (len + 1) g (by omega) (by omega) (by omega) hd0 (fun p q h1 h2 h3 h4 => ht p q h1 h2 h3 (by omega))
          · refine ei_aload_n X dX1_weighed_23 rfl rfl ?_
            refine ei_getf X fl_RX1_9 dX1_weighed_24 rfl rfl ?_
            refine ei_iload X dX1_weighed_27 rfl ?_
            refine ei_bipush (v := nI 10) X dX1_weighed_29 rfl ?_
            refine ei_imul X dX1_weighed_31 ?_
            rw [nI_mul]
            refine ei_iload X dX1_weighed_32 rfl ?_
            refine ei_iadd X dX1_weighed_34 ?_
            rw [nI_add]
            refine ei_iload X dX1_weighed_35 rfl ?_
            refine ei_iadd X dX1_weighed_37 ?_
            rw [nI_add]
            refine ei_aload_n X dX1_weighed_38 rfl rfl ?_
            refine ei_aload_n X dX1_weighed_39 rfl rfl ?_
            refine ei_iload X dX1_weighed_40 rfl ?_
            refine ei_iload X dX1_weighed_42 rfl ?_
            refine ei_iload X dX1_weighed_44 rfl ?_
            refine ei_iadd X dX1_weighed_46 ?_
            rw [nI_add]
            refine ei_callI1 X ml_RX1_46 dX1_weighed_47 (ct_X1_weighedOf _ _ _ _ _ _ _ _ _ _ _ _ low (low + len) (by omega) (by omega) h_W (fun p q h1 h2 h3 h4 => ht p q (by omega) h2 (by omega) (by omega))) rfl rfl (by decide) (by decide) rfl (Nat.le_of_ble_eq_true rfl) ?_
            refine ei_iastore_n X dX1_weighed_50 rfl (by first | omega | assumption) (by decide) (pbl_c _ _ _) ?_
            refine ei_iinc_n X dX1_weighed_51 rfl rfl ?_
            refine ei_goto (tgt := 14) X dX1_weighed_54 (by decide) ?_
            exact ih2 (low + 1) _ (by omega) (by omega) (by omega) (dg0_s hd0 (by omega) (by omega)) (tbP_s ht h_b (by omega))
      refine ei_iload X dX1_weighed_3 rfl ?_
      refine ei_iload_n X dX1_weighed_5 rfl rfl ?_
      refine ei_iload_n X dX1_weighed_6 rfl rfl ?_
      refine ei_isub X dX1_weighed_7 ?_
      rw [nI_subN h_a]
      refine ei_icmpn_gt (tgt := 63) X dX1_weighed_8 (by decide) (by first | omega | assumption) (by first | omega | assumption) (fun cq8 => ?_) (fun cq8 => ?_)
      · refine ei_aload_n X dX1_weighed_63 rfl rfl ?_
        refine ei_iload_n X dX1_weighed_64 rfl rfl ?_
        refine ei_iload_n X dX1_weighed_65 rfl rfl ?_
        refine ei_cv1 [0, 1] (bl_gB _ _) (bl_pB _ _ _) X ml_RX1_19 dX1_weighed_66 (ct_X1_bestOf _ a b (by omega) (by omega)) rfl rfl (by decide) (by decide) rfl (Nat.le_of_ble_eq_true rfl) (by decide) ?_
        refine ei_ireturn X F dX1_weighed_69 ?_
        exact ⟨by rw [ht a b (Nat.le_refl _) h_a (Nat.le_refl _) (by omega)], g, hd0, rfl⟩
      · refine ei_iload_n X dX1_weighed_11 rfl rfl ?_
        refine ei_istore X dX1_weighed_12 (Nat.le_of_ble_eq_true rfl) rfl ?_
        exact LI (by omega) (b + 2) a g (by omega) (by omega) (by omega) hd0 (fun p q h1 h2 h3 h4 => ht p q h1 h2 h3 (by omega))
  refine ei_iconst (v := nI 1) X dX1_weighed_0 rfl ?_
  refine ei_istore X dX1_weighed_1 (Nat.le_of_ble_eq_true rfl) rfl ?_
  exact L (b - a + 2) 1 f (by omega) (by omega) (by omega) h_0 (fun p q h1 h2 h3 h4 => by rw [show q = p by omega, h_0 p (by omega), wM_0 (Nat.le_refl _)]; rfl)

