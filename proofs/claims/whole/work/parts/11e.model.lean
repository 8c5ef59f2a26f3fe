theorem updB_off {B : Nat → Nat → Int64} {c j : Nat} {f : Nat → Int64} (h : j ≠ c) : updB B c f j = B j := by simp [updB, h]
theorem cp_ex {N : Nat} (hN : N ≤ 100) {m i : Int32} (h1 : 0 ≤ m) (h2 : 0 ≤ i) (h : i ≤ nI N - m) : ∃ a c, i = nI a ∧ m = nI c ∧ a + c ≤ N := by
  obtain ⟨a, ha, rfl⟩ := nI_of (x := i) (Int32.not_lt.mpr h2)
  obtain ⟨c, hc, rfl⟩ := nI_of (x := m) (Int32.not_lt.mpr h1)
  refine ⟨a, c, rfl, rfl, ?_⟩
  rw [Int32.le_iff_toInt_le, Int32.toInt_sub, nI_toInt ha, nI_toInt hc, nI_toInt (by omega), Int.bmod_eq_of_le (by omega) (by omega)] at h
  omega
set_option maxRecDepth 100000 in
set_option maxHeartbeats 1000000 in
theorem ct_X10_copy (n : Nat) (w se sp hr lt hd sc : Int32) (so fi wo : Nat → Int32) (I : Nat → Int32) (A : Nat → Nat → Int32) (B : Nat → Nat → Int64) (K : Value) (Z : Nat → Sh) (d i e j m : Int32) (h_R : RS Z (I, A, B, K)) : e_Ct yX10_copy cX10_copy 7 (some .int) 2 [.ref 0, .int d, .int i, .int e, .int j, .int m] (mH (n, w, se, sp, hr, lt, hd, sc, so, fi, wo) (I, A, B, K)) (mZ (some (.int (copyF Z d i e j m))) (n, w, se, sp, hr, lt, hd, sc, so, fi, wo) (copyZ Z d i e j m) (I, A, B, K)) := by
  refine e_open RX10 rfl (by decide +kernel) rfl (fun _ => Nat.le_of_ble_eq_true rfl) (fun x X F => ?_)
  have B0 : ∀ v : Int32, copyF Z d i e j m = v → ¬ (inI d 0 7 = true ∧ inI e 0 7 = true ∧ zH (Z (nc d)) = 2 ∧ zH (Z (nc e)) = 2 ∧ zK (Z (nc d)) = zK (Z (nc e)) ∧ copyC Z d i e j m = true) → mZ (some (.int (copyF Z d i e j m))) (n, w, se, sp, hr, lt, hd, sc, so, fi, wo) (copyZ Z d i e j m) (I, A, B, K) (some (.int v)) (mH (n, w, se, sp, hr, lt, hd, sc, so, fi, wo) (upd I 20 0, A, B, K)) := by
    intro v h1 h2
    exact ⟨by rw [h1], _, kX_20 _ _ _ _ _ _ 0 rfl, by unfold copyZ; rw [if_neg h2]; exact RS_20 _ _ _ _ h_R 0, rfl⟩
  have L2 : ∀ (k l a b q0 : Nat), k < 8 → l < 8 → zH (Z k) = 2 → zH (Z l) = 2 → a + q0 ≤ 100 → b + q0 ≤ 100 → d = nI k → i = nI a → e = nI l → j = nI b → m = nI q0 → copyF Z d i e j m = m → copyZ Z d i e j m = setZ Z l (zH (Z l), zS (Z l), zF (Z l), zK (Z l), zN (Z l), fun q => if b ≤ q ∧ q < b + q0 then zC (Z k) (a + (q - b)) else zC (Z l) q) → ∀ f : Nat → Int64, (∀ q, q < q0 → f q = B 9 (100 * k + a + q)) → ∀ (c q : Nat) (g : Nat → Int64), q0 - q < c → q ≤ q0 → (∀ t, t < q → g (100 * l + b + t) = f t) → (∀ t, t < 100 * l + b ∨ 100 * l + b + q ≤ t → g t = B 9 t) → e_E x 174 [some (.ref 0), some (.int (nI k)), some (.int (nI a)), some (.int (nI l)), some (.int (nI b)), some (.int (nI q0)), some (.int (nI q))] [] (mH (n, w, se, sp, hr, lt, hd, sc, so, fi, wo) (upd I 20 0, A, updB (updB B 20 f) 9 g, K)) := by
    intro k l a b q0 hk hl hzk hzl ha hb ed ei ee ej em hF hZ f hf c
    induction c with
    | zero => intro q g hc; exact absurd hc (Nat.not_lt_zero _)
    | succ c ih =>
      intro q g hc hq hg ho
      refine ei_iload X dX10_copy_174 rfl ?_
      refine ei_iload X dX10_copy_176 rfl ?_
      refine ei_icmpn_ge (tgt := 209) X dX10_copy_178 (by decide) (by first | omega | assumption) (by first | omega | assumption) (fun cq178 => ?_) (fun cq178 => ?_)
      · refine ei_iload X dX10_copy_209 rfl ?_
        refine ei_ireturn X F dX10_copy_211 ?_
        refine ⟨by rw [hF, em], _, kX_20 _ _ _ _ _ _ 0 rfl, ?_, rfl⟩
        rw [hZ]
        obtain ⟨o1, o2, o3, o4⟩ := h_R l hl
        obtain ⟨z7, z8, z9⟩ := o4 hzl
        obtain ⟨p1, p2, p3, p4⟩ := h_R k hk
        obtain ⟨y7, y8, y9⟩ := p4 hzk
        refine RS_set h_R o1 o2 o3 (fun _ => ⟨z7, z8, fun t ht => ?_⟩) (fun e' he hne => ⟨fun c hc => rfl, fun t ht => ?_⟩)
        · rw [updB_on]; show g (100 * l + t) = (if b ≤ t ∧ t < b + q0 then zC (Z k) (a + (t - b)) else zC (Z l) t).toInt64; by_cases y : b ≤ t ∧ t < b + q0; (· rw [if_pos y]; have h5 := hg (t - b) (by omega); rw [show 100 * l + b + (t - b) = 100 * l + t by omega] at h5; rw [h5, hf _ (by omega), show 100 * k + a + (t - b) = 100 * k + (a + (t - b)) by omega]; exact y9 _ (by omega)); (· rw [if_neg y, ho _ (by omega)]; exact z9 t ht)
        · rw [updB_on]; exact ho _ (by omega)
      · refine ei_aload_n X dX10_copy_181 rfl rfl ?_
        refine ei_getf X fl_RX10_41 dX10_copy_182 rfl rfl ?_
        refine ei_bipush (v := nI 100) X dX10_copy_185 rfl ?_
        refine ei_iload_n X dX10_copy_187 rfl rfl ?_
        refine ei_imul X dX10_copy_188 ?_
        rw [nI_mul]
        refine ei_iload X dX10_copy_189 rfl ?_
        refine ei_iadd X dX10_copy_191 ?_
        rw [nI_add]
        refine ei_iload X dX10_copy_192 rfl ?_
        refine ei_iadd X dX10_copy_194 ?_
        rw [nI_add]
        refine ei_aload_n X dX10_copy_195 rfl rfl ?_
        refine ei_getf X fl_RX10_75 dX10_copy_196 rfl rfl ?_
        refine ei_iload X dX10_copy_199 rfl ?_
        refine ei_laload_n X dX10_copy_201 rfl (by first | omega | assumption) (by decide) ?_
        rw [updB_off (show (20 : Nat) ≠ 9 by decide), updB_on]
        refine ei_lastore_n X dX10_copy_202 rfl (by first | omega | assumption) (by decide) (pm_r9 _ _ _ _ _ _ _ _ _ _ _ _ _ _ _ _) ?_
        rw [updB_2, updB_on]
        refine ei_iinc_n X dX10_copy_203 rfl rfl ?_
        refine ei_goto (tgt := 174) X dX10_copy_206 (by decide) ?_
        exact ih (q + 1) _ (by omega) (by omega) (fun t ht => by unfold vp_updL; by_cases y : t = q; (· rw [y, if_pos rfl]); (· rw [if_neg (by omega)]; exact hg t (by omega))) (fun t ht => by unfold vp_updL; rw [if_neg (by omega)]; exact ho t (by omega))
  have L1 : ∀ (k l a b q0 : Nat), k < 8 → l < 8 → zH (Z k) = 2 → zH (Z l) = 2 → a + q0 ≤ 100 → b + q0 ≤ 100 → d = nI k → i = nI a → e = nI l → j = nI b → m = nI q0 → copyF Z d i e j m = m → copyZ Z d i e j m = setZ Z l (zH (Z l), zS (Z l), zF (Z l), zK (Z l), zN (Z l), fun q => if b ≤ q ∧ q < b + q0 then zC (Z k) (a + (q - b)) else zC (Z l) q) → ∀ (c q : Nat) (f : Nat → Int64), q0 - q < c → q ≤ q0 → (∀ t, t < q → f t = B 9 (100 * k + a + t)) → e_E x 137 [some (.ref 0), some (.int (nI k)), some (.int (nI a)), some (.int (nI l)), some (.int (nI b)), some (.int (nI q0)), some (.int (nI q))] [] (mH (n, w, se, sp, hr, lt, hd, sc, so, fi, wo) (upd I 20 0, A, updB B 20 f, K)) := by
    intro k l a b q0 hk hl hzk hzl ha hb ed ei ee ej em hF hZ c
    induction c with
    | zero => intro q f hc; exact absurd hc (Nat.not_lt_zero _)
    | succ c ih =>
      intro q f hc hq hf
      refine ei_iload X dX10_copy_137 rfl ?_
      refine ei_iload X dX10_copy_139 rfl ?_
      refine ei_icmpn_ge (tgt := 171) X dX10_copy_141 (by decide) (by first | omega | assumption) (by first | omega | assumption) (fun cq141 => ?_) (fun cq141 => ?_)
      · refine ei_iconst (v := nI 0) X dX10_copy_171 rfl ?_
        refine ei_istore X dX10_copy_172 (Nat.le_of_ble_eq_true rfl) rfl ?_
        have h0 := L2 k l a b q0 hk hl hzk hzl ha hb ed ei ee ej em hF hZ f (fun t ht => hf t (by omega)) (q0 + 1) 0 ((updB B 20 f) 9) (by omega) (by omega) (fun t ht => absurd ht (Nat.not_lt_zero _)) (fun t _ => by rw [updB_off (by decide)])
        rw [updB_id] at h0
        exact h0
      · refine ei_aload_n X dX10_copy_144 rfl rfl ?_
        refine ei_getf X fl_RX10_75 dX10_copy_145 rfl rfl ?_
        refine ei_iload X dX10_copy_148 rfl ?_
        refine ei_aload_n X dX10_copy_150 rfl rfl ?_
        refine ei_getf X fl_RX10_41 dX10_copy_151 rfl rfl ?_
        refine ei_bipush (v := nI 100) X dX10_copy_154 rfl ?_
        refine ei_iload_n X dX10_copy_156 rfl rfl ?_
        refine ei_imul X dX10_copy_157 ?_
        rw [nI_mul]
        refine ei_iload_n X dX10_copy_158 rfl rfl ?_
        refine ei_iadd X dX10_copy_159 ?_
        rw [nI_add]
        refine ei_iload X dX10_copy_160 rfl ?_
        refine ei_iadd X dX10_copy_162 ?_
        rw [nI_add]
        refine ei_laload_n X dX10_copy_163 rfl (by first | omega | assumption) (by decide) ?_
        rw [updB_off (show (9 : Nat) ≠ 20 by decide)]
        refine ei_lastore_n X dX10_copy_164 rfl (by first | omega | assumption) (by decide) (pm_r20 _ _ _ _ _ _ _ _ _ _ _ _ _ _ _ _) ?_
        rw [updB_2, updB_on]
        refine ei_iinc_n X dX10_copy_165 rfl rfl ?_
        refine ei_goto (tgt := 137) X dX10_copy_168 (by decide) ?_
        exact ih (q + 1) _ (by omega) (by omega) (fun t ht => by unfold vp_updL; by_cases y : t = q; (· rw [y, if_pos rfl]); (· rw [if_neg y]; exact hf t (by omega)))
  refine ei_aload_n X dX10_copy_0 rfl rfl ?_
  refine ei_iconst (v := 0) X dX10_copy_1 rfl ?_
  refine ei_puti X fp_RX10_78 dX10_copy_2 rfl (Nat.le_of_ble_eq_true rfl) (pm_20 _ _ _ _ _ _ _ _ _ _ _ _ _ _ _ _) ?_
  refine ei_iload_n X dX10_copy_5 rfl rfl ?_
  refine ei_i2l X dX10_copy_6 ?_
  refine ei_lconst (v := 0) X dX10_copy_7 rfl ?_
  refine ei_ldc2 X cw_RX10_253 dX10_copy_8 ?_
  refine ei_callT1 X ml_RX10_84 dX10_copy_11 (ct_X10_in _ _ _ _) rfl rfl (by decide) (by decide) (Nat.le_of_ble_eq_true rfl) ?_
  rw [in_0_7]
  refine ei_ifz_eq (tgt := 29) X dX10_copy_14 (by decide) (fun cq14 => ?_) (fun cq14 => ?_)
  · refine ei_iconst (v := -1) X dX10_copy_29 rfl ?_
    refine ei_ireturn X F dX10_copy_30 ?_
    exact B0 _ (by unfold copyF; rw [if_neg (fun z => Bool.false_ne_true (cq14.symm.trans z.1))]) (fun z => Bool.false_ne_true (cq14.symm.trans z.1))
  · refine ei_iload_n X dX10_copy_17 rfl rfl ?_
    refine ei_i2l X dX10_copy_18 ?_
    refine ei_lconst (v := 0) X dX10_copy_19 rfl ?_
    refine ei_ldc2 X cw_RX10_253 dX10_copy_20 ?_
    refine ei_callT1 X ml_RX10_84 dX10_copy_23 (ct_X10_in _ _ _ _) rfl rfl (by decide) (by decide) (Nat.le_of_ble_eq_true rfl) ?_
    rw [in_0_7]
    refine ei_ifz_ne (tgt := 31) X dX10_copy_26 (by decide) (fun cq26 => ?_) (fun cq26 => ?_)
    · obtain ⟨k, -, hk, ed⟩ := (inI_iff (lo := 0) (hi := 7) (by decide) (by decide)).mp cq14
      obtain ⟨l, -, hl, ee⟩ := (inI_iff (lo := 0) (hi := 7) (by decide) (by decide)).mp cq26
      have nk : nc d = k := (by rw [ed]; exact nc_nI (by omega))
      have nl : nc e = l := (by rw [ee]; exact nc_nI (by omega))
      obtain ⟨p1, p2, p3, p4⟩ := h_R k (by omega)
      obtain ⟨o1, o2, o3, o4⟩ := h_R l (by omega)
      simp only at p2 o2 p4 o4
      rw [ed, ee]
      refine ei_aload_n X dX10_copy_31 rfl rfl ?_
      refine ei_getf X fl_RX10_26 dX10_copy_32 rfl rfl ?_
      refine ei_iload_n X dX10_copy_35 rfl rfl ?_
      refine ei_iaload_n X dX10_copy_36 rfl (by first | omega | assumption) (by decide) ?_
      rw [p2]
      refine ei_if_eq (tgt := 49) X dX10_copy_37 (by decide) (fun cq37 => ?_) (fun cq37 => ?_)
      · refine ei_bipush (v := -11) X dX10_copy_49 rfl ?_
        refine ei_ireturn X F dX10_copy_51 ?_
        exact B0 _ (by unfold copyF; rw [if_pos ⟨cq14, cq26⟩, nk, nl, if_pos (Or.inl cq37)]) (fun z => by have y := z.2.2.1; rw [nk, cq37] at y; exact absurd y (by decide))
      · refine ei_aload_n X dX10_copy_40 rfl rfl ?_
        refine ei_getf X fl_RX10_26 dX10_copy_41 rfl rfl ?_
        refine ei_iload_n X dX10_copy_44 rfl rfl ?_
        refine ei_iaload_n X dX10_copy_45 rfl (by first | omega | assumption) (by decide) ?_
        rw [o2]
        refine ei_if_ne (tgt := 52) X dX10_copy_46 (by decide) (fun cq46 => ?_) (fun cq46 => ?_)
        · refine ei_aload_n X dX10_copy_52 rfl rfl ?_
          refine ei_getf X fl_RX10_26 dX10_copy_53 rfl rfl ?_
          refine ei_iload_n X dX10_copy_56 rfl rfl ?_
          refine ei_iaload_n X dX10_copy_57 rfl (by first | omega | assumption) (by decide) ?_
          rw [p2]
          refine ei_iconst (v := 2) X dX10_copy_58 rfl ?_
          refine ei_icmp_ne (tgt := 87) X dX10_copy_59 (by decide) (fun cq59 => ?_) (fun cq59 => ?_)
          · refine ei_bipush (v := -12) X dX10_copy_87 rfl ?_
            refine ei_ireturn X F dX10_copy_89 ?_
            exact B0 _ (by unfold copyF; rw [if_pos ⟨cq14, cq26⟩, nk, nl, if_neg (fun z => z.elim cq37 cq46), if_pos (Or.inl cq59)]) (fun z => by have y := z.2.2.1; rw [nk] at y; exact cq59 y)
          · refine ei_aload_n X dX10_copy_62 rfl rfl ?_
            refine ei_getf X fl_RX10_26 dX10_copy_63 rfl rfl ?_
            refine ei_iload_n X dX10_copy_66 rfl rfl ?_
            refine ei_iaload_n X dX10_copy_67 rfl (by first | omega | assumption) (by decide) ?_
            rw [o2]
            refine ei_iconst (v := 2) X dX10_copy_68 rfl ?_
            refine ei_icmp_ne (tgt := 87) X dX10_copy_69 (by decide) (fun cq69 => ?_) (fun cq69 => ?_)
            · refine ei_bipush (v := -12) X dX10_copy_87 rfl ?_
              refine ei_ireturn X F dX10_copy_89 ?_
              exact B0 _ (by unfold copyF; rw [if_pos ⟨cq14, cq26⟩, nk, nl, if_neg (fun z => z.elim cq37 cq46), if_pos (Or.inr (Or.inl cq69))]) (fun z => by have y := z.2.2.2.1; rw [nl] at y; exact cq69 y)
            · obtain ⟨y7, y8, y9⟩ := p4 cq59
              obtain ⟨z7, z8, z9⟩ := o4 cq69
              have sk := (p1.2.2 cq59).2
              have sl := (o1.2.2 cq69).2
              refine ei_aload_n X dX10_copy_72 rfl rfl ?_
              refine ei_getf X fl_RX10_35 dX10_copy_73 rfl rfl ?_
              refine ei_iload_n X dX10_copy_76 rfl rfl ?_
              refine ei_iaload_n X dX10_copy_77 rfl (by first | omega | assumption) (by decide) ?_
              rw [y7]
              refine ei_aload_n X dX10_copy_78 rfl rfl ?_
              refine ei_getf X fl_RX10_35 dX10_copy_79 rfl rfl ?_
              refine ei_iload_n X dX10_copy_82 rfl rfl ?_
              refine ei_iaload_n X dX10_copy_83 rfl (by first | omega | assumption) (by decide) ?_
              rw [z7]
              refine ei_icmp_eq (tgt := 90) X dX10_copy_84 (by decide) (fun cq84 => ?_) (fun cq84 => ?_)
              · refine ei_iload X dX10_copy_90 rfl ?_
                refine ei_if_lt (tgt := 131) X dX10_copy_92 (by decide) (fun cq92 => ?_) (fun cq92 => ?_)
                · refine ei_bipush (v := -13) X dX10_copy_131 rfl ?_
                  refine ei_ireturn X F dX10_copy_133 ?_
                  have hC : ¬ copyC Z d i e j m = true := (by unfold copyC; rw [decide_eq_false (Int32.not_le.mpr cq92)]; simp)
                  exact B0 _ (by unfold copyF; rw [if_pos ⟨cq14, cq26⟩, nk, nl, if_neg (fun z => z.elim cq37 cq46), if_neg (fun z => z.elim (fun z => z cq59) (fun z => z.elim (fun z => z cq69) (fun z => z cq84))), if_neg hC]) (fun z => hC z.2.2.2.2.2)
                · refine ei_iload_n X dX10_copy_95 rfl rfl ?_
                  refine ei_if_lt (tgt := 131) X dX10_copy_96 (by decide) (fun cq96 => ?_) (fun cq96 => ?_)
                  · refine ei_bipush (v := -13) X dX10_copy_131 rfl ?_
                    refine ei_ireturn X F dX10_copy_133 ?_
                    have hC : ¬ copyC Z d i e j m = true := (by unfold copyC; rw [decide_eq_false (Int32.not_le.mpr cq96)]; simp)
                    exact B0 _ (by unfold copyF; rw [if_pos ⟨cq14, cq26⟩, nk, nl, if_neg (fun z => z.elim cq37 cq46), if_neg (fun z => z.elim (fun z => z cq59) (fun z => z.elim (fun z => z cq69) (fun z => z cq84))), if_neg hC]) (fun z => hC z.2.2.2.2.2)
                  · refine ei_iload X dX10_copy_99 rfl ?_
                    refine ei_if_lt (tgt := 131) X dX10_copy_101 (by decide) (fun cq101 => ?_) (fun cq101 => ?_)
                    · refine ei_bipush (v := -13) X dX10_copy_131 rfl ?_
                      refine ei_ireturn X F dX10_copy_133 ?_
                      have hC : ¬ copyC Z d i e j m = true := (by unfold copyC; rw [decide_eq_false (Int32.not_le.mpr cq101)]; simp)
                      exact B0 _ (by unfold copyF; rw [if_pos ⟨cq14, cq26⟩, nk, nl, if_neg (fun z => z.elim cq37 cq46), if_neg (fun z => z.elim (fun z => z cq59) (fun z => z.elim (fun z => z cq69) (fun z => z cq84))), if_neg hC]) (fun z => hC z.2.2.2.2.2)
                    · refine ei_iload_n X dX10_copy_104 rfl rfl ?_
                      refine ei_aload_n X dX10_copy_105 rfl rfl ?_
                      refine ei_getf X fl_RX10_38 dX10_copy_106 rfl rfl ?_
                      refine ei_iload_n X dX10_copy_109 rfl rfl ?_
                      refine ei_iaload_n X dX10_copy_110 rfl (by first | omega | assumption) (by decide) ?_
                      rw [y8]
                      refine ei_iload X dX10_copy_111 rfl ?_
                      refine ei_isub X dX10_copy_113 ?_
                      refine ei_icmp_gt (tgt := 131) X dX10_copy_114 (by decide) (fun cq114 => ?_) (fun cq114 => ?_)
                      · refine ei_bipush (v := -13) X dX10_copy_131 rfl ?_
                        refine ei_ireturn X F dX10_copy_133 ?_
                        have hC : ¬ copyC Z d i e j m = true := (by unfold copyC; rw [nk, decide_eq_false (Int32.not_le.mpr cq114)]; simp)
                        exact B0 _ (by unfold copyF; rw [if_pos ⟨cq14, cq26⟩, nk, nl, if_neg (fun z => z.elim cq37 cq46), if_neg (fun z => z.elim (fun z => z cq59) (fun z => z.elim (fun z => z cq69) (fun z => z cq84))), if_neg hC]) (fun z => hC z.2.2.2.2.2)
                      · refine ei_iload X dX10_copy_117 rfl ?_
                        refine ei_aload_n X dX10_copy_119 rfl rfl ?_
                        refine ei_getf X fl_RX10_38 dX10_copy_120 rfl rfl ?_
                        refine ei_iload_n X dX10_copy_123 rfl rfl ?_
                        refine ei_iaload_n X dX10_copy_124 rfl (by first | omega | assumption) (by decide) ?_
                        rw [z8]
                        refine ei_iload X dX10_copy_125 rfl ?_
                        refine ei_isub X dX10_copy_127 ?_
                        refine ei_icmp_le (tgt := 134) X dX10_copy_128 (by decide) (fun cq128 => ?_) (fun cq128 => ?_)
                        · refine ei_iconst (v := nI 0) X dX10_copy_134 rfl ?_
                          refine ei_istore X dX10_copy_135 (Nat.le_of_ble_eq_true rfl) rfl ?_
                          obtain ⟨a, q0, ei, em, h1⟩ := cp_ex sk (Int32.not_lt.mp cq92) (Int32.not_lt.mp cq96) (Int32.not_lt.mp cq114)
                          obtain ⟨b, q1, ej, em1, h2⟩ := cp_ex sl (Int32.not_lt.mp cq92) (Int32.not_lt.mp cq101) cq128
                          have hq0 := congrArg nc em
                          have hq1 := congrArg nc em1
                          rw [nc_nI (by omega)] at hq0 hq1
                          have hqq : q1 = q0 := (by omega)
                          have na : nc i = a := (by rw [ei]; exact nc_nI (by omega))
                          have nb : nc j = b := (by rw [ej]; exact nc_nI (by omega))
                          have hC : copyC Z d i e j m = true := (by unfold copyC; rw [nk, nl, decide_eq_true (Int32.not_lt.mp cq92), decide_eq_true (Int32.not_lt.mp cq96), decide_eq_true (Int32.not_lt.mp cq101), decide_eq_true (Int32.not_lt.mp cq114), decide_eq_true cq128]; rfl)
                          have h9 := L1 k l a b q0 (by omega) (by omega) cq59 cq69 (by omega) (by omega) ed ei ee ej em (by unfold copyF; rw [if_pos ⟨cq14, cq26⟩, nk, nl, if_neg (fun z => z.elim cq37 cq46), if_neg (fun z => z.elim (fun z => z cq59) (fun z => z.elim (fun z => z cq69) (fun z => z cq84))), if_pos hC]) (by unfold copyZ; rw [nk, nl, if_pos ⟨cq14, cq26, cq59, cq69, cq84, hC⟩, na, nb, hq0]) (q0 + 1) 0 (B 20) (by omega) (by omega) (fun t ht => absurd ht (Nat.not_lt_zero _))
                          rw [updB_id, ← ei, ← ej, ← em] at h9
                          exact h9
                        · refine ei_bipush (v := -13) X dX10_copy_131 rfl ?_
                          refine ei_ireturn X F dX10_copy_133 ?_
                          have hC : ¬ copyC Z d i e j m = true := (by unfold copyC; rw [nl, decide_eq_false cq128]; simp)
                          exact B0 _ (by unfold copyF; rw [if_pos ⟨cq14, cq26⟩, nk, nl, if_neg (fun z => z.elim cq37 cq46), if_neg (fun z => z.elim (fun z => z cq59) (fun z => z.elim (fun z => z cq69) (fun z => z cq84))), if_neg hC]) (fun z => hC z.2.2.2.2.2)
              · refine ei_bipush (v := -12) X dX10_copy_87 rfl ?_
                refine ei_ireturn X F dX10_copy_89 ?_
                exact B0 _ (by unfold copyF; rw [if_pos ⟨cq14, cq26⟩, nk, nl, if_neg (fun z => z.elim cq37 cq46), if_pos (Or.inr (Or.inr cq84))]) (fun z => by have y := z.2.2.2.2.1; rw [nk, nl] at y; exact cq84 y)
        · refine ei_bipush (v := -11) X dX10_copy_49 rfl ?_
          refine ei_ireturn X F dX10_copy_51 ?_
          exact B0 _ (by unfold copyF; rw [if_pos ⟨cq14, cq26⟩, nk, nl, if_pos (Or.inr cq46)]) (fun z => by have y := z.2.2.2.1; rw [nl, cq46] at y; exact absurd y (by decide))
    · refine ei_iconst (v := -1) X dX10_copy_29 rfl ?_
      refine ei_ireturn X F dX10_copy_30 ?_
      exact B0 _ (by unfold copyF; rw [if_neg (fun z => Bool.false_ne_true (cq26.symm.trans z.2))]) (fun z => Bool.false_ne_true (cq26.symm.trans z.2.1))

