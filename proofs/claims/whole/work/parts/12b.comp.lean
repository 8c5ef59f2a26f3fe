theorem cpy10 (f g : Nat → Int32) : ∀ j, j < 10 → va_cpy f g (0 : Int32).toNatClampNeg (0 : Int32).toNatClampNeg (10 : Int32).toNatClampNeg j = f j := by
  intro j hj
  unfold va_cpy
  rw [show (0 : Int32).toNatClampNeg = 0 from by decide, show (10 : Int32).toNatClampNeg = 10 from by decide, if_pos ⟨Nat.zero_le _, by omega⟩, Nat.sub_zero, Nat.zero_add]
set_option maxRecDepth 100000 in
set_option maxHeartbeats 1000000 in
theorem ct_X2_becomes (S T : St) : e_Ct yX2_becomes cX2_becomes 2 none 1 [.ref 0, .ref 4] (ll S T) (e_eq none (ll T T)) := by
  refine e_open RX2 rfl (by decide +kernel) rfl (fun _ => Nat.le_of_ble_eq_true rfl) (fun x X F => ?_)
  refine ei_aload_n X dX2_becomes_0 rfl rfl ?_
  refine ei_getf X fl_RX2_9 dX2_becomes_1 rfl rfl ?_
  refine ei_iconst (v := 0) X dX2_becomes_4 rfl ?_
  refine ei_aload_n X dX2_becomes_5 rfl rfl ?_
  refine ei_getf X fl_RX2_9 dX2_becomes_6 rfl rfl ?_
  refine ei_iconst (v := 0) X dX2_becomes_9 rfl ?_
  refine ei_bipush (v := 10) X dX2_becomes_10 rfl ?_
  refine ei_copy (k0 := 5) (k1 := 1) X ml_RX2_25.1 ml_RX2_25.2.1 ml_RX2_25.2.2.1 ml_RX2_25.2.2.2 dX2_becomes_12 (by decide) rfl rfl (by decide) (by decide) (by decide) (by decide) (by decide) rfl ?_
  refine ei_exti (k := 1) (sO T) rfl (cpy10 _ _) rfl ?_
  refine ei_aload_n X dX2_becomes_15 rfl rfl ?_
  refine ei_getf X fl_RX2_15 dX2_becomes_16 rfl rfl ?_
  refine ei_iconst (v := 0) X dX2_becomes_19 rfl ?_
  refine ei_aload_n X dX2_becomes_20 rfl rfl ?_
  refine ei_getf X fl_RX2_15 dX2_becomes_21 rfl rfl ?_
  refine ei_iconst (v := 0) X dX2_becomes_24 rfl ?_
  refine ei_bipush (v := 10) X dX2_becomes_25 rfl ?_
  refine ei_copy (k0 := 6) (k1 := 2) X ml_RX2_25.1 ml_RX2_25.2.1 ml_RX2_25.2.2.1 ml_RX2_25.2.2.2 dX2_becomes_27 (by decide) rfl rfl (by decide) (by decide) (by decide) (by decide) (by decide) rfl ?_
  refine ei_exti (k := 2) (sG T) rfl (cpy10 _ _) rfl ?_
  refine ei_aload_n X dX2_becomes_30 rfl rfl ?_
  refine ei_getf X fl_RX2_18 dX2_becomes_31 rfl rfl ?_
  refine ei_iconst (v := 0) X dX2_becomes_34 rfl ?_
  refine ei_aload_n X dX2_becomes_35 rfl rfl ?_
  refine ei_getf X fl_RX2_18 dX2_becomes_36 rfl rfl ?_
  refine ei_iconst (v := 0) X dX2_becomes_39 rfl ?_
  refine ei_bipush (v := 10) X dX2_becomes_40 rfl ?_
  refine ei_copy (k0 := 7) (k1 := 3) X ml_RX2_25.1 ml_RX2_25.2.1 ml_RX2_25.2.2.1 ml_RX2_25.2.2.2 dX2_becomes_42 (by decide) rfl rfl (by decide) (by decide) (by decide) (by decide) (by decide) rfl ?_
  refine ei_exti (k := 3) (sR T) rfl (cpy10 _ _) rfl ?_
  refine ei_aload_n X dX2_becomes_45 rfl rfl ?_
  refine ei_aload_n X dX2_becomes_46 rfl rfl ?_
  refine ei_getf X fl_RX2_31 dX2_becomes_47 rfl rfl ?_
  refine ei_puti X fp_RX2_31 dX2_becomes_50 rfl (Nat.le_of_ble_eq_true rfl) rfl ?_
  refine ei_aload_n X dX2_becomes_53 rfl rfl ?_
  refine ei_aload_n X dX2_becomes_54 rfl rfl ?_
  refine ei_getf X fl_RX2_34 dX2_becomes_55 rfl rfl ?_
  refine ei_puti X fp_RX2_34 dX2_becomes_58 rfl (Nat.le_of_ble_eq_true rfl) rfl ?_
  refine ei_aload_n X dX2_becomes_61 rfl rfl ?_
  refine ei_aload_n X dX2_becomes_62 rfl rfl ?_
  refine ei_getf X fl_RX2_37 dX2_becomes_63 rfl rfl ?_
  refine ei_puti X fp_RX2_37 dX2_becomes_66 rfl (Nat.le_of_ble_eq_true rfl) rfl ?_
  refine ei_aload_n X dX2_becomes_69 rfl rfl ?_
  refine ei_aload_n X dX2_becomes_70 rfl rfl ?_
  refine ei_getf X fl_RX2_21 dX2_becomes_71 rfl rfl ?_
  refine ei_puti X fp_RX2_21 dX2_becomes_74 rfl (Nat.le_of_ble_eq_true rfl) rfl ?_
  refine ei_aload_n X dX2_becomes_77 rfl rfl ?_
  refine ei_aload_n X dX2_becomes_78 rfl rfl ?_
  refine ei_getf X fl_RX2_40 dX2_becomes_79 rfl rfl ?_
  refine ei_puti X fp_RX2_40 dX2_becomes_82 rfl (Nat.le_of_ble_eq_true rfl) rfl ?_
  refine ei_aload_n X dX2_becomes_85 rfl rfl ?_
  refine ei_aload_n X dX2_becomes_86 rfl rfl ?_
  refine ei_getf X fl_RX2_43 dX2_becomes_87 rfl rfl ?_
  refine ei_puti X fp_RX2_43 dX2_becomes_90 rfl (Nat.le_of_ble_eq_true rfl) rfl ?_
  refine ei_aload_n X dX2_becomes_93 rfl rfl ?_
  refine ei_aload_n X dX2_becomes_94 rfl rfl ?_
  refine ei_getf X fl_RX2_46 dX2_becomes_95 rfl rfl ?_
  refine ei_puti X fp_RX2_46 dX2_becomes_98 rfl (Nat.le_of_ble_eq_true rfl) rfl ?_
  refine ei_aload_n X dX2_becomes_101 rfl rfl ?_
  refine ei_aload_n X dX2_becomes_102 rfl rfl ?_
  refine ei_getf X fl_RX2_49 dX2_becomes_103 rfl rfl ?_
  refine ei_puti X fp_RX2_49 dX2_becomes_106 rfl (Nat.le_of_ble_eq_true rfl) rfl ?_
  refine ei_vreturn X F dX2_becomes_109 ?_
  exact ⟨rfl, rfl⟩
/-! ===== how many bits ===== -/
def bcF (v : Int32) : Int32 :=
  let sh (a b : Int32) : Int32 := (a.toUInt32 >>> (b.toUInt32 &&& Int32.toUInt32 31)).toInt32
  let a := v - (sh v 1 &&& 1431655765)
  let b := (a &&& 858993459) + (sh a 2 &&& 858993459)
  let c := (b + sh b 4) &&& 252645135
  let d := c + sh c 8
  (d + sh d 16) &&& 63
theorem bc_pop : ∀ k, k < 1024 → bcF (nI k) = popF (nI k) := by decide +kernel
set_option maxRecDepth 100000 in
set_option maxHeartbeats 1000000 in
theorem ct_J6_bitCount_0f7a4 (h : List eC) (v : Int32) (h_v : Gd1 v 1023) : e_Ct yJ6_bitCount_0f7a4 cJ6_bitCount_0f7a4 1 (some .int) 1 [.int v] h (e_eq (some (.int (popF v))) h) := by
  refine e_open RJ6 rfl (by decide +kernel) rfl (fun _ => Nat.le_of_ble_eq_true rfl) (fun x X F => ?_)
  obtain ⟨k, hk, rfl⟩ := i32_of (m := 1023) (by decide) h_v
  refine ei_iload_n X dJ6_bitCount_0f7a4_0 rfl rfl ?_
  refine ei_iload_n X dJ6_bitCount_0f7a4_1 rfl rfl ?_
  refine ei_iconst (v := 1) X dJ6_bitCount_0f7a4_2 rfl ?_
  refine ei_iushr X dJ6_bitCount_0f7a4_3 rfl ?_
  refine ei_ldc_w X cw_RJ6_265 dJ6_bitCount_0f7a4_4 ?_
  refine ei_iand X dJ6_bitCount_0f7a4_7 ?_
  refine ei_isub X dJ6_bitCount_0f7a4_8 ?_
  refine ei_istore_n X dJ6_bitCount_0f7a4_9 rfl (Nat.le_of_ble_eq_true rfl) rfl ?_
  refine ei_iload_n X dJ6_bitCount_0f7a4_10 rfl rfl ?_
  refine ei_ldc_w X cw_RJ6_266 dJ6_bitCount_0f7a4_11 ?_
  refine ei_iand X dJ6_bitCount_0f7a4_14 ?_
  refine ei_iload_n X dJ6_bitCount_0f7a4_15 rfl rfl ?_
  refine ei_iconst (v := 2) X dJ6_bitCount_0f7a4_16 rfl ?_
  refine ei_iushr X dJ6_bitCount_0f7a4_17 rfl ?_
  refine ei_ldc_w X cw_RJ6_266 dJ6_bitCount_0f7a4_18 ?_
  refine ei_iand X dJ6_bitCount_0f7a4_21 ?_
  refine ei_iadd X dJ6_bitCount_0f7a4_22 ?_
  refine ei_istore_n X dJ6_bitCount_0f7a4_23 rfl (Nat.le_of_ble_eq_true rfl) rfl ?_
  refine ei_iload_n X dJ6_bitCount_0f7a4_24 rfl rfl ?_
  refine ei_iload_n X dJ6_bitCount_0f7a4_25 rfl rfl ?_
  refine ei_iconst (v := 4) X dJ6_bitCount_0f7a4_26 rfl ?_
  refine ei_iushr X dJ6_bitCount_0f7a4_27 rfl ?_
  refine ei_iadd X dJ6_bitCount_0f7a4_28 ?_
  refine ei_ldc_w X cw_RJ6_267 dJ6_bitCount_0f7a4_29 ?_
  refine ei_iand X dJ6_bitCount_0f7a4_32 ?_
  refine ei_istore_n X dJ6_bitCount_0f7a4_33 rfl (Nat.le_of_ble_eq_true rfl) rfl ?_
  refine ei_iload_n X dJ6_bitCount_0f7a4_34 rfl rfl ?_
  refine ei_iload_n X dJ6_bitCount_0f7a4_35 rfl rfl ?_
  refine ei_bipush (v := 8) X dJ6_bitCount_0f7a4_36 rfl ?_
  refine ei_iushr X dJ6_bitCount_0f7a4_38 rfl ?_
  refine ei_iadd X dJ6_bitCount_0f7a4_39 ?_
  refine ei_istore_n X dJ6_bitCount_0f7a4_40 rfl (Nat.le_of_ble_eq_true rfl) rfl ?_
  refine ei_iload_n X dJ6_bitCount_0f7a4_41 rfl rfl ?_
  refine ei_iload_n X dJ6_bitCount_0f7a4_42 rfl rfl ?_
  refine ei_bipush (v := 16) X dJ6_bitCount_0f7a4_43 rfl ?_
  refine ei_iushr X dJ6_bitCount_0f7a4_45 rfl ?_
  refine ei_iadd X dJ6_bitCount_0f7a4_46 ?_
  refine ei_istore_n X dJ6_bitCount_0f7a4_47 rfl (Nat.le_of_ble_eq_true rfl) rfl ?_
  refine ei_iload_n X dJ6_bitCount_0f7a4_48 rfl rfl ?_
  refine ei_bipush (v := 63) X dJ6_bitCount_0f7a4_49 rfl ?_
  refine ei_iand X dJ6_bitCount_0f7a4_51 ?_
  refine ei_ireturn X F dJ6_bitCount_0f7a4_52 ?_
  exact ⟨by rw [← bc_pop k (by omega)]; rfl, rfl⟩
/-! ===== fractions ===== -/
set_option maxRecDepth 100000 in
set_option maxHeartbeats 1000000 in
theorem ct_X3_power (h : List eC) (t m : Nat) (h_m : m < 1000) : e_Ct yX3_power cX3_power 6 (some .long) 1 [.long (lN t), .int (nI m)] h (e_eq (some (.long (lN (t ^ m)))) h) := by
  refine e_open RX3 rfl (by decide +kernel) rfl (fun _ => Nat.le_of_ble_eq_true rfl) (fun x X F => ?_)
  have L : ∀ (c k : Nat), m - k < c → k ≤ m → e_E x 5 [some (.long (lN t)), none, some (.int (nI m)), some (.long (lN (t ^ k))), none, some (.int (nI k))] [] h := by
    intro c
    induction c with
    | zero => intro k hc; exact absurd hc (Nat.not_lt_zero _)
    | succ c ih =>
      intro k hc hk
      refine ei_iload X dX3_power_5 rfl ?_
      refine ei_iload_n X dX3_power_7 rfl rfl ?_
      refine ei_icmpn_ge (tgt := 21) X dX3_power_8 (by decide) (by first | omega | assumption) (by first | omega | assumption) (fun cq8 => ?_) (fun cq8 => ?_)
      · refine ei_lload_n X dX3_power_21 rfl rfl ?_
        refine ei_lreturn X F dX3_power_22 ?_
        exact ⟨by rw [show k = m by omega], rfl⟩
      · refine ei_lload_n X dX3_power_11 rfl rfl ?_
        refine ei_lload_n X dX3_power_12 rfl rfl ?_
        refine ei_lmul X dX3_power_13 ?_
        rw [lN_mul, ← Nat.pow_succ]
        refine ei_lstore_n X dX3_power_14 rfl (Nat.le_of_ble_eq_true rfl) rfl ?_
        refine ei_iinc_n X dX3_power_15 rfl rfl ?_
        refine ei_goto (tgt := 5) X dX3_power_18 (by decide) ?_
        exact ih (k + 1) (by omega) (by omega)
  refine ei_lconst (v := 1) X dX3_power_0 rfl ?_
  refine ei_lstore_n X dX3_power_1 rfl (Nat.le_of_ble_eq_true rfl) rfl ?_
  refine ei_iconst (v := nI 0) X dX3_power_2 rfl ?_
  refine ei_istore X dX3_power_3 (Nat.le_of_ble_eq_true rfl) rfl ?_
  exact L (m + 1) 0 (by omega) (by omega)
theorem half_rem {a b : Nat} (h : b ≤ a) (hb : 0 < b) : 2 * (b * (a % b)) ≤ a * b := by
  have h1 := Nat.mod_lt a hb
  have h2 := Nat.div_add_mod a b
  have h3 : 1 ≤ a / b := Nat.div_pos h hb
  have h4 : b * 1 ≤ b * (a / b) := Nat.mul_le_mul_left b h3
  have h5 : 2 * (a % b) ≤ a := by omega
  have h6 := Nat.mul_le_mul_left b h5
  rw [Nat.mul_comm a b]
  rw [Nat.mul_left_comm] at h6
  exact h6
set_option maxRecDepth 100000 in
set_option maxHeartbeats 1000000 in
theorem ct_X3_commonDivisor (h : List eC) (a b : Nat) (h_a : a < 2 ^ 45) (h_b : b < 2 ^ 45) : e_Ct yX3_commonDivisor cX3_commonDivisor 11 (some .long) 1 [.long (lN a), .long (lN b)] h (e_eq (some (.long (lN (Nat.gcd a b)))) h) := by
  refine e_open RX3 rfl (by decide +kernel) rfl (fun _ => Nat.le_of_ble_eq_true rfl) (fun x X F => ?_)
  have L : ∀ (c k u v : Nat), 100 - k < c → k ≤ 100 → u < 2 ^ 45 → v < 2 ^ 45 → Nat.gcd u v = Nat.gcd a b → ((k = 0 ∧ u * v < 2 ^ 90) ∨ (v ≤ u ∧ u * v < 2 ^ (100 - k))) → e_E x 9 [some (.long (lN a)), none, some (.long (lN b)), none, some (.long (lN u)), none, some (.long (lN v)), none, some (.int (nI k)), none, none] [] h := by
    intro c
    induction c with
    | zero => intro k u v hc; exact absurd hc (Nat.not_lt_zero _)
    | succ c ih =>
      intro k u v hc hk hu hv hg hp
      refine ei_iload X dX3_commonDivisor_9 rfl ?_
      refine ei_bipush (v := nI 100) X dX3_commonDivisor_11 rfl ?_
      refine ei_icmpn_ge (tgt := 44) X dX3_commonDivisor_13 (by decide) (by first | omega | assumption) (by first | omega | assumption) (fun cq13 => ?_) (fun cq13 => ?_)
      · refine ei_lload X dX3_commonDivisor_44 rfl ?_
        refine ei_lreturn X F dX3_commonDivisor_46 ?_
        exact ⟨by have hk2 : k = 100 := (by omega); rcases hp with ⟨z, -⟩ | ⟨hle, hp⟩; (· omega); (· rw [hk2] at hp; have hz : u * v = 0 := (by omega); rcases Nat.mul_eq_zero.mp hz with z | z; (· rw [show v = 0 by omega] at hg; rw [← hg, Nat.gcd_zero_right]); (· rw [z] at hg; rw [← hg, Nat.gcd_zero_right])), rfl⟩
      · refine ei_lload X dX3_commonDivisor_16 rfl ?_
        refine ei_lconst (v := 0) X dX3_commonDivisor_18 rfl ?_
        refine ei_lcmp X dX3_commonDivisor_19 ?_
        refine ei_ifc_eq (tgt := 44) X dX3_commonDivisor_20 (by decide) (fun cq20 => ?_) (fun cq20 => ?_)
        · refine ei_lload X dX3_commonDivisor_44 rfl ?_
          refine ei_lreturn X F dX3_commonDivisor_46 ?_
          exact ⟨by have v0 : v = 0 := (lN_0 (by omega)).mp cq20; rw [← hg, v0, Nat.gcd_zero_right], rfl⟩
        · refine ei_lload X dX3_commonDivisor_23 rfl ?_
          refine ei_lload X dX3_commonDivisor_25 rfl ?_
          refine ei_lrem X dX3_commonDivisor_27 cq20 ?_
          have v0 : 0 < v := Nat.pos_of_ne_zero (fun z => cq20 (by rw [z]; rfl))
          rw [pk_lRem (by omega) v0 (by omega)]
          refine ei_lstore X dX3_commonDivisor_28 (Nat.le_of_ble_eq_true rfl) rfl ?_
          refine ei_lload X dX3_commonDivisor_30 rfl ?_
          refine ei_lstore X dX3_commonDivisor_32 (Nat.le_of_ble_eq_true rfl) rfl ?_
          refine ei_lload X dX3_commonDivisor_34 rfl ?_
          refine ei_lstore X dX3_commonDivisor_36 (Nat.le_of_ble_eq_true rfl) rfl ?_
          refine ei_iinc_n X dX3_commonDivisor_38 rfl rfl ?_
          refine ei_goto (tgt := 9) X dX3_commonDivisor_41 (by decide) ?_
          have hlt := Nat.mod_lt u v0
          refine ei_drop 9 ?_
          refine ih (k + 1) v (u % v) (by omega) (by omega) hv (by omega) (by rw [← hg, Nat.gcd_comm u v, Nat.gcd_comm v (u % v)]; exact (Nat.gcd_rec v u).symm) (Or.inr ⟨by omega, ?_⟩)
          rcases hp with ⟨rfl, hp⟩ | ⟨hle, hp⟩
          · have h7 : u % v ≤ u := Nat.mod_le u v; have h8 := Nat.mul_le_mul_left v h7; rw [Nat.mul_comm v u] at h8; exact Nat.lt_of_le_of_lt h8 (Nat.lt_trans hp (by decide))
          · have h7 := half_rem hle v0; have h8 : 2 ^ (100 - k) = 2 * 2 ^ (100 - (k + 1)) := (by rw [show 100 - k = (100 - (k + 1)) + 1 by omega, Nat.pow_succ, Nat.mul_comm]); rw [h8] at hp; omega
  refine ei_lload_n X dX3_commonDivisor_0 rfl rfl ?_
  refine ei_lstore X dX3_commonDivisor_1 (Nat.le_of_ble_eq_true rfl) rfl ?_
  refine ei_lload_n X dX3_commonDivisor_3 rfl rfl ?_
  refine ei_lstore X dX3_commonDivisor_4 (Nat.le_of_ble_eq_true rfl) rfl ?_
  refine ei_iconst (v := nI 0) X dX3_commonDivisor_6 rfl ?_
  refine ei_istore X dX3_commonDivisor_7 (Nat.le_of_ble_eq_true rfl) rfl ?_
  exact L 101 0 a b (by omega) (by omega) h_a h_b rfl (Or.inl ⟨rfl, by have h7 := Nat.mul_lt_mul'' h_a h_b; rw [← Nat.pow_add] at h7; exact h7⟩)
set_option maxRecDepth 100000 in
set_option maxHeartbeats 1000000 in
theorem ct_X3_leastTerms (h : List eC) (a b : Nat) (part : Int32) (h_a : a < 2 ^ 45) (h_b : b < 2 ^ 45) (h_p : part = 0 ∨ part = 1) (h_0 : b = 0 → a = 0) : e_Ct yX3_leastTerms cX3_leastTerms 7 (some .long) 2 [.long (lN a), .long (lN b), .int part] h (e_eq (some (.long (partF a b part))) h) := by
  refine e_open RX3 rfl (by decide +kernel) rfl (fun _ => Nat.le_of_ble_eq_true rfl) (fun x X F => ?_)
  have g1 : Nat.gcd a b ≤ a + b := by
    rcases Nat.eq_zero_or_pos a with z | z
    · rw [z, Nat.gcd_zero_left]; omega
    · have := Nat.gcd_le_left b z; omega
  refine ei_lload_n X dX3_leastTerms_0 rfl rfl ?_
  refine ei_lload_n X dX3_leastTerms_1 rfl rfl ?_
  refine ei_callT1 X ml_RX3_9 dX3_leastTerms_2 (ct_X3_commonDivisor _ a b h_a h_b) rfl rfl (by decide) (by decide) (Nat.le_of_ble_eq_true rfl) ?_
  refine ei_lstore X dX3_leastTerms_5 (Nat.le_of_ble_eq_true rfl) rfl ?_
  refine ei_lload_n X dX3_leastTerms_7 rfl rfl ?_
  refine ei_lconst (v := 0) X dX3_leastTerms_8 rfl ?_
  refine ei_lcmp X dX3_leastTerms_9 ?_
  refine ei_ifc_eq (tgt := 20) X dX3_leastTerms_10 (by decide) (fun cq10 => ?_) (fun cq10 => ?_)
  · refine ei_iload X dX3_leastTerms_20 rfl ?_
    refine ei_i2l X dX3_leastTerms_22 ?_
    refine ei_lreturn X F dX3_leastTerms_23 ?_
    exact ⟨by have b0 := (lN_0 (by omega)).mp cq10; unfold partF; rw [if_pos (h_0 b0)], rfl⟩
  · have b0 : ¬ b = 0 := (fun z => cq10 (by rw [z]; rfl))
    have g0 : 0 < Nat.gcd a b := Nat.gcd_pos_of_pos_right _ (Nat.pos_of_ne_zero b0)
    refine ei_lload X dX3_leastTerms_13 rfl ?_
    refine ei_lconst (v := 0) X dX3_leastTerms_15 rfl ?_
    refine ei_lcmp X dX3_leastTerms_16 ?_
    refine ei_ifc_ne (tgt := 24) X dX3_leastTerms_17 (by decide) (fun cq17 => ?_) (fun cq17 => ?_)
    · refine ei_iload X dX3_leastTerms_24 rfl ?_
      refine ei_if_ne (tgt := 36) X dX3_leastTerms_26 (by decide) (fun cq26 => ?_) (fun cq26 => ?_)
      · refine ei_lload_n X dX3_leastTerms_36 rfl rfl ?_
        refine ei_lload X dX3_leastTerms_37 rfl ?_
        refine ei_ldiv X dX3_leastTerms_39 cq17 ?_
        refine ei_lreturn X F dX3_leastTerms_40 ?_
        exact ⟨by unfold partF; by_cases a0 : a = 0; (· rw [if_pos a0]; rcases h_p with p | p; (· exact absurd p cq26); (· subst a0; rw [p, pk_lDiv (by omega) g0 (by omega), Nat.gcd_zero_left, Nat.div_self (Nat.pos_of_ne_zero b0)]; rfl)); (· rw [if_neg a0, if_neg cq26, pk_lDiv (by omega) g0 (by omega)]), rfl⟩
      · refine ei_lload_n X dX3_leastTerms_29 rfl rfl ?_
        refine ei_lload X dX3_leastTerms_30 rfl ?_
        refine ei_ldiv X dX3_leastTerms_32 cq17 ?_
        refine ei_goto (tgt := 40) X dX3_leastTerms_33 (by decide) ?_
        refine ei_lreturn X F dX3_leastTerms_40 ?_
        exact ⟨by unfold partF; by_cases a0 : a = 0; (· rw [if_pos a0, cq26]; subst a0; rw [pk_lDiv (by omega) g0 (by omega), Nat.zero_div]; rfl); (· rw [if_neg a0, if_pos cq26, pk_lDiv (by omega) g0 (by omega)]), rfl⟩
    · exact absurd cq17 (fun z => by have := (lN_0 (by omega)).mp z; omega)

