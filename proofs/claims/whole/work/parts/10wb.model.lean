theorem far_try (a b : Nat) : nI 8 + farF (nI a) (nI b) = nI (tryN a b) ∨ 2 ^ 31 ≤ a ∨ 2 ^ 31 ≤ b := by
  by_cases ha : a < 2 ^ 31
  · by_cases hb : b < 2 ^ 31
    · left
      unfold farF tryN
      by_cases q : b ≤ a
      · rw [if_pos ((nn_le hb ha).mpr q), if_pos q, nI_subN q, nI_add]
      · rw [if_neg (fun z => q ((nn_le hb ha).mp z)), if_neg q, nI_subN (by omega), nI_add]
    · exact Or.inr (Or.inr (by omega))
  · exact Or.inr (Or.inl (by omega))
theorem far_tryN {a b : Nat} (ha : a < 10) (hb : b < 10) : nI 8 + farF (nI a) (nI b) = nI (tryN a b) := by
  rcases far_try a b with h | h | h
  · exact h
  · omega
  · omega
theorem gdV_nI {f : Nat → Int32} {m : Nat} (hm : m < 2 ^ 31) (h : GdV f m) {k : Nat} (hk : k < 10) : f k = nI (nc (f k)) ∧ nc (f k) ≤ m := by
  obtain ⟨v, hv, he⟩ := i32_of hm (h k hk)
  rw [he, nc_nI (by omega)]
  exact ⟨rfl, hv⟩
set_option maxRecDepth 100000 in
set_option maxHeartbeats 1000000 in
theorem ct_X10_secondsOf (n : Nat) (w se sp hr lt hd sc : Int32) (so fi wo : Nat → Int32) (I : Nat → Int32) (A : Nat → Nat → Int32) (B : Nat → Nat → Int64) (K : Value) (m : Nat) (p : Nat → Nat) (h_m : m ≤ 5) (h_S : Good (n, w, se, sp, hr, lt, hd, sc, so, fi, wo)) (h_p : ∀ k, k < m → p k < 10 ∧ A 19 k = nI (p k)) : e_Ct yX10_secondsOf cX10_secondsOf 6 (some .int) 2 [.ref 0, .int (nI m)] (mH (n, w, se, sp, hr, lt, hd, sc, so, fi, wo) (I, A, B, K)) (e_eq (some (.int (nI (csN wo m (nc hd) p)))) (mH (n, w, se, sp, hr, lt, hd, sc, so, fi, wo) (I, A, B, K))) := by
  refine e_open RX10 rfl (by decide +kernel) rfl (fun _ => Nat.le_of_ble_eq_true rfl) (fun x X F => ?_)
  obtain ⟨dk, hdk, rfl⟩ := i32_of (m := 9) (by decide) h_S.2.2.2.2.2.2.2.1
  have hw : ∀ k, k < 10 → wo k = nI (nc (wo k)) ∧ nc (wo k) ≤ 999 := fun k hk => gdV_nI (m := 999) (by decide) h_S.2.2.2.1 hk
  have L : ∀ (c k at0 took sum : Nat), m - k < c → k ≤ m → at0 < 10 → csN wo m (nc (nI dk)) p = sum + took * odO wo (fun j => p (k + j)) (m - k) + csN wo (m - k) at0 (fun j => p (k + j)) → e_E x 13 [some (.ref 0), some (.int (nI m)), some (.int (nI at0)), some (.int (nI took)), some (.int (nI sum)), some (.int (nI k))] [] (mH (n, w, se, sp, hr, lt, nI dk, sc, so, fi, wo) (I, A, B, K)) := by
    intro c
    induction c with
    | zero => intro k at0 took sum hc; exact absurd hc (Nat.not_lt_zero _)
    | succ c ih =>
      intro k at0 took sum hc hk ha hv
      refine ei_iload X dX10_secondsOf_13 rfl ?_
      refine ei_iload_n X dX10_secondsOf_15 rfl rfl ?_
      refine ei_icmpn_ge (tgt := 65) X dX10_secondsOf_16 (by decide) (by first | omega | assumption) (by first | omega | assumption) (fun cq16 => ?_) (fun cq16 => ?_)
      · refine ei_iload X dX10_secondsOf_65 rfl ?_
        refine ei_ireturn X F dX10_secondsOf_67 ?_
        exact ⟨by rw [hv, show m - k = 0 by omega]; rfl, rfl⟩
      · obtain ⟨p1, p2⟩ := h_p k (by omega)
        refine ei_iload_n X dX10_secondsOf_19 rfl rfl ?_
        refine ei_bipush (v := nI 8) X dX10_secondsOf_20 rfl ?_
        refine ei_iload_n X dX10_secondsOf_22 rfl rfl ?_
        refine ei_aload_n X dX10_secondsOf_23 rfl rfl ?_
        refine ei_getf X fl_RX10_72 dX10_secondsOf_24 rfl rfl ?_
        refine ei_iload X dX10_secondsOf_27 rfl ?_
        refine ei_iaload_n X dX10_secondsOf_29 rfl (by first | omega | assumption) (by decide) ?_
        rw [p2]
        refine ei_callT1 X ml_RX10_152 dX10_secondsOf_30 (ct_X10_far _ _ _) rfl rfl (by decide) (by decide) (Nat.le_of_ble_eq_true rfl) ?_
        refine ei_iadd X dX10_secondsOf_33 ?_
        rw [far_tryN ha p1]
        refine ei_iadd X dX10_secondsOf_34 ?_
        rw [nI_add]
        refine ei_istore_n X dX10_secondsOf_35 rfl (Nat.le_of_ble_eq_true rfl) rfl ?_
        refine ei_aload_n X dX10_secondsOf_36 rfl rfl ?_
        refine ei_getf X fl_RX10_72 dX10_secondsOf_37 rfl rfl ?_
        refine ei_iload X dX10_secondsOf_40 rfl ?_
        refine ei_iaload_n X dX10_secondsOf_42 rfl (by first | omega | assumption) (by decide) ?_
        rw [p2]
        refine ei_istore_n X dX10_secondsOf_43 rfl (Nat.le_of_ble_eq_true rfl) rfl ?_
        refine ei_iload X dX10_secondsOf_44 rfl ?_
        refine ei_iload_n X dX10_secondsOf_46 rfl rfl ?_
        refine ei_aload_n X dX10_secondsOf_47 rfl rfl ?_
        refine ei_getf X fl_RX10_16 dX10_secondsOf_48 rfl rfl ?_
        refine ei_iload_n X dX10_secondsOf_51 rfl rfl ?_
        refine ei_iaload_n X dX10_secondsOf_52 rfl (by first | omega | assumption) (by decide) ?_
        rw [(hw _ p1).1]
        refine ei_iconst (v := nI 1) X dX10_secondsOf_53 rfl ?_
        refine ei_iadd X dX10_secondsOf_54 ?_
        rw [nI_add]
        refine ei_imul X dX10_secondsOf_55 ?_
        rw [nI_mul]
        refine ei_iadd X dX10_secondsOf_56 ?_
        rw [nI_add]
        refine ei_istore X dX10_secondsOf_57 (Nat.le_of_ble_eq_true rfl) rfl ?_
        refine ei_iinc_n X dX10_secondsOf_59 rfl rfl ?_
        refine ei_goto (tgt := 13) X dX10_secondsOf_62 (by decide) ?_
        refine ih (k + 1) (p k) (took + tryN at0 (p k)) (sum + (took + tryN at0 (p k)) * (nc (wo (p k)) + 1)) (by omega) (by omega) p1 ?_
        rw [hv]
        obtain ⟨r, hr⟩ : ∃ r, m - k = r + 1 := ⟨m - k - 1, by omega⟩
        have e0 : (fun j => p (k + (j + 1))) = fun j => p (k + 1 + j) := (by funext j; congr 1; omega)
        have e1 := odO_s wo (fun j => p (k + j)) r
        have e2 := csN_s wo r at0 (fun j => p (k + j))
        simp only [Nat.add_zero, e0] at e1 e2
        rw [hr, show m - (k + 1) = r by omega, e2, e1]
        generalize nc (wo (p k)) + 1 = o
        generalize odO wo (fun j => p (k + 1 + j)) r = oo
        generalize tryN at0 (p k) = tt
        have e3 := Nat.add_mul took tt (o + oo)
        have e4 := Nat.mul_add (took + tt) o oo
        omega
  refine ei_aload_n X dX10_secondsOf_0 rfl rfl ?_
  refine ei_getf X fl_RX10_149 dX10_secondsOf_1 rfl rfl ?_
  refine ei_istore_n X dX10_secondsOf_4 rfl (Nat.le_of_ble_eq_true rfl) rfl ?_
  refine ei_iconst (v := nI 0) X dX10_secondsOf_5 rfl ?_
  refine ei_istore_n X dX10_secondsOf_6 rfl (Nat.le_of_ble_eq_true rfl) rfl ?_
  refine ei_iconst (v := nI 0) X dX10_secondsOf_7 rfl ?_
  refine ei_istore X dX10_secondsOf_8 (Nat.le_of_ble_eq_true rfl) rfl ?_
  refine ei_iconst (v := nI 0) X dX10_secondsOf_10 rfl ?_
  refine ei_istore X dX10_secondsOf_11 (Nat.le_of_ble_eq_true rfl) rfl ?_
  exact L (m + 1) 0 dk 0 0 (by omega) (by omega) (by omega) (by rw [nc_nI (by omega), Nat.zero_mul, Nat.zero_add]; exact csN_ext m _ (fun j _ => by rw [Nat.zero_add]))
theorem numN_ext {p q : Nat → Nat} {m : Nat} (h : ∀ k, k < m → p k = q k) : numN p m = numN q m := by
  have key : ∀ (k i a : Nat), i + k ≤ m → itr (fun n k => 10 * n + p k) a i k = itr (fun n k => 10 * n + q k) a i k := by
    intro k
    induction k with
    | zero => intro i a _; rfl
    | succ k ih => intro i a hk; rw [itr_s, itr_s, h i (by omega)]; exact ih (i + 1) _ (by omega)
  exact key m 0 1 (by omega)
set_option maxRecDepth 100000 in
set_option maxHeartbeats 1000000 in
theorem ct_X10_numberOf (n : Nat) (w se sp hr lt hd sc : Int32) (so fi wo : Nat → Int32) (I : Nat → Int32) (A : Nat → Nat → Int32) (B : Nat → Nat → Int64) (K : Value) (m : Nat) (p : Nat → Nat) (h_m : m ≤ 5) (h_p : ∀ k, k < m → A 19 k = nI (p k)) : e_Ct yX10_numberOf cX10_numberOf 4 (some .int) 1 [.ref 0, .int (nI m)] (mH (n, w, se, sp, hr, lt, hd, sc, so, fi, wo) (I, A, B, K)) (e_eq (some (.int (nI (numN p m)))) (mH (n, w, se, sp, hr, lt, hd, sc, so, fi, wo) (I, A, B, K))) := by
  refine e_open RX10 rfl (by decide +kernel) rfl (fun _ => Nat.le_of_ble_eq_true rfl) (fun x X F => ?_)
  have L : ∀ (c k a : Nat), m - k < c → k ≤ m → numN p m = itr (fun n k => 10 * n + p k) a k (m - k) → e_E x 4 [some (.ref 0), some (.int (nI m)), some (.int (nI a)), some (.int (nI k))] [] (mH (n, w, se, sp, hr, lt, hd, sc, so, fi, wo) (I, A, B, K)) := by
    intro c
    induction c with
    | zero => intro k a hc; exact absurd hc (Nat.not_lt_zero _)
    | succ c ih =>
      intro k a hc hk hv
      refine ei_iload_n X dX10_numberOf_4 rfl rfl ?_
      refine ei_iload_n X dX10_numberOf_5 rfl rfl ?_
      refine ei_icmpn_ge (tgt := 27) X dX10_numberOf_6 (by decide) (by first | omega | assumption) (by first | omega | assumption) (fun cq6 => ?_) (fun cq6 => ?_)
      · refine ei_iload_n X dX10_numberOf_27 rfl rfl ?_
        refine ei_ireturn X F dX10_numberOf_28 ?_
        exact ⟨by rw [hv, itr_ge _ _ (by omega)], rfl⟩
      · refine ei_bipush (v := nI 10) X dX10_numberOf_9 rfl ?_
        refine ei_iload_n X dX10_numberOf_11 rfl rfl ?_
        refine ei_imul X dX10_numberOf_12 ?_
        rw [nI_mul]
        refine ei_aload_n X dX10_numberOf_13 rfl rfl ?_
        refine ei_getf X fl_RX10_72 dX10_numberOf_14 rfl rfl ?_
        refine ei_iload_n X dX10_numberOf_17 rfl rfl ?_
        refine ei_iaload_n X dX10_numberOf_18 rfl (by first | omega | assumption) (by decide) ?_
        rw [h_p k (by omega)]
        refine ei_iadd X dX10_numberOf_19 ?_
        rw [nI_add]
        refine ei_istore_n X dX10_numberOf_20 rfl (Nat.le_of_ble_eq_true rfl) rfl ?_
        refine ei_iinc_n X dX10_numberOf_21 rfl rfl ?_
        refine ei_goto (tgt := 4) X dX10_numberOf_24 (by decide) ?_
        exact ih (k + 1) (10 * a + p k) (by omega) (by omega) (by rw [hv, itr_lt _ _ (by omega)])
  refine ei_iconst (v := nI 1) X dX10_numberOf_0 rfl ?_
  refine ei_istore_n X dX10_numberOf_1 rfl (Nat.le_of_ble_eq_true rfl) rfl ?_
  refine ei_iconst (v := nI 0) X dX10_numberOf_2 rfl ?_
  refine ei_istore_n X dX10_numberOf_3 rfl (Nat.le_of_ble_eq_true rfl) rfl ?_
  exact L (m + 1) 0 1 (by omega) (by omega) rfl

