/-! ===== suspects: the sums ===== -/
def ones1 (z : Sh) (a : Int32) (i : Nat) : Int32 := if suspF z i i = true then a ||| bitI i else a
def twos1 (z : Sh) (i : Nat) (a : Int32) (j : Nat) : Int32 := if suspF z i j = true then a + 1 else a
def twosI (n : Nat) (z : Sh) (a : Int32) (i : Nat) : Int32 := itr (twos1 z i) a (i + 1) (n - (i + 1))
def suspectsF (n : Nat) (Z : Nat → Sh) (d what : Int32) : Int32 := if inI what 0 1 = true then (if threesF n Z d = 0 then (if what = 0 then itr (ones1 (Z (nc d))) 0 0 n else itr (twosI n (Z (nc d))) 0 0 n) else threesF n Z d) else -1
theorem threes_n {n : Nat} {Z : Nat → Sh} {d : Int32} (h : 0 ≤ threesF n Z d) : threesF n Z d = 0 ∧ wrongRowF Z d = 0 ∧ toldF n (Z (nc d)) = true := by
  unfold threesF at h ⊢
  by_cases w : wrongRowF Z d = 0
  · rw [if_pos w] at h ⊢
    by_cases t : toldF n (Z (nc d)) = true
    · rw [if_pos t]; exact ⟨rfl, w, t⟩
    · rw [if_neg t] at h; exact absurd h (by decide)
  · rw [if_neg w] at h; exact absurd (wrongRow_ge.mp h) w
set_option maxRecDepth 100000 in
set_option maxHeartbeats 4000000 in
theorem ct_X10_suspects (n : Nat) (w se sp hr lt hd sc : Int32) (so fi wo : Nat → Int32) (I : Nat → Int32) (A : Nat → Nat → Int32) (B : Nat → Nat → Int64) (K : Value) (Z : Nat → Sh) (d what : Int32) (h_R : RS Z (I, A, B, K)) (h_n : n ≤ 10) : e_Ct yX10_suspects cX10_suspects 8 (some .int) 4 [.ref 0, .int d, .int what] (mH (n, w, se, sp, hr, lt, hd, sc, so, fi, wo) (I, A, B, K)) (mP (some (.int (suspectsF n Z d what))) (n, w, se, sp, hr, lt, hd, sc, so, fi, wo) (I, A, B, K)) := by
  refine e_open RX10 rfl (by decide +kernel) rfl (fun _ => Nat.le_of_ble_eq_true rfl) (fun x X F => ?_)
  have hR := RS_20 _ _ _ _ h_R 0
  have L : ∀ (k : Nat) (u : Int32), k < 8 → zH (Z k) = 2 → toldF n (Z k) = true → suspectsF n Z d what = (if what = 0 then itr (ones1 (Z k)) 0 0 n else itr (twosI n (Z k)) 0 0 n) → ∀ (c i : Nat) (a b : Int32), n - i < c → i ≤ 10 → itr (ones1 (Z k)) 0 0 n = itr (ones1 (Z k)) a i (n - i) → itr (twosI n (Z k)) 0 0 n = itr (twosI n (Z k)) b i (n - i) → e_E x 40 [some (.ref 0), some (.int (nI k)), some (.int what), some (.int u), some (.int a), some (.int b), some (.int (nI i)), none] [] (mH (n, w, se, sp, hr, lt, hd, sc, so, fi, wo) (upd I 20 0, A, B, K)) := by
    intro k u hk hz ht hF c
    induction c with
    | zero => intro i a b hc; exact absurd hc (Nat.not_lt_zero _)
    | succ c ih =>
      intro i a b hc hi ha hb
      have LI : i < n → ∀ (a2 : Int32), itr (ones1 (Z k)) 0 0 n = itr (ones1 (Z k)) a2 (i + 1) (n - (i + 1)) → ∀ (cq2 j : Nat) (b2 : Int32), n - j < cq2 → i < j → j ≤ 10 → twosI n (Z k) b i = itr (twos1 (Z k) i) b2 j (n - j) → e_E x 80 [some (.ref 0), some (.int (nI k)), some (.int what), some (.int u), some (.int a2), some (.int b2), some (.int (nI i)), some (.int (nI j))] [] (mH (n, w, se, sp, hr, lt, hd, sc, so, fi, wo) (upd I 20 0, A, B, K)) := by
        intro hin a2 ha2 cq2
        induction cq2 with
        | zero => intro j b2 hc2; exact absurd hc2 (Nat.not_lt_zero _)
        | succ cq2 ih2 =>
          intro j b2 hc2 hij hj hb2
          refine ei_iload X dX10_suspects_80 rfl ?_
          refine ei_aload_n X dX10_suspects_82 rfl rfl ?_
          refine ei_getf X fl_RX10_81 dX10_suspects_83 rfl rfl ?_
          refine ei_icmpn_ge (tgt := 122) X dX10_suspects_86 (by decide) (by first | omega | assumption) (by first | omega | assumption) (fun cq86 => ?_) (fun cq86 => ?_)
          · refine ei_iinc_n X dX10_suspects_122 rfl rfl ?_
            refine ei_goto (tgt := 40) X dX10_suspects_125 (by decide) ?_
            refine ei_drop 7 ?_
            exact ih (i + 1) a2 b2 (by omega) (by omega) ha2 (by rw [hb, itr_lt _ _ hin, hb2, itr_ge _ _ cq86])
          · refine ei_iload X dX10_suspects_89 rfl ?_
            refine ei_aload_n X dX10_suspects_91 rfl rfl ?_
            refine ei_iload_n X dX10_suspects_92 rfl rfl ?_
            refine ei_iconst (v := 1) X dX10_suspects_93 rfl ?_
            refine ei_iload X dX10_suspects_94 rfl ?_
            refine ei_ishl X dX10_suspects_96 ?_
            refine ei_iconst (v := 1) X dX10_suspects_97 rfl ?_
            refine ei_iload X dX10_suspects_98 rfl ?_
            refine ei_ishl X dX10_suspects_100 ?_
            refine ei_ior X dX10_suspects_101 ?_
            refine ei_callI1 X ml_RX10_326 dX10_suspects_102 (ct_X10_isSuspect _ _ _ _ _ _ _ _ _ _ _ _ _ _ _ Z k i j _ hk hz hR h_n ht (by omega) (by omega) rfl) rfl rfl (by decide) (by decide) rfl (Nat.le_of_ble_eq_true rfl) ?_
            refine ei_ifz_eq (tgt := 112) X dX10_suspects_105 (by decide) (fun cq105 => ?_) (fun cq105 => ?_)
            · refine ei_iconst (v := 0) X dX10_suspects_112 rfl ?_
              refine ei_iadd X dX10_suspects_113 ?_
              refine ei_istore X dX10_suspects_114 (Nat.le_of_ble_eq_true rfl) rfl ?_
              refine ei_iinc_n X dX10_suspects_116 rfl rfl ?_
              refine ei_goto (tgt := 80) X dX10_suspects_119 (by decide) ?_
              rw [Int32.add_zero]
              exact ih2 (j + 1) b2 (by omega) (by omega) (by omega) (by rw [hb2, itr_lt _ _ (by omega)]; congr 1; unfold twos1; rw [if_neg (by rw [cq105]; exact Bool.false_ne_true)])
            · refine ei_iconst (v := 1) X dX10_suspects_108 rfl ?_
              refine ei_goto (tgt := 113) X dX10_suspects_109 (by decide) ?_
              refine ei_iadd X dX10_suspects_113 ?_
              refine ei_istore X dX10_suspects_114 (Nat.le_of_ble_eq_true rfl) rfl ?_
              refine ei_iinc_n X dX10_suspects_116 rfl rfl ?_
              refine ei_goto (tgt := 80) X dX10_suspects_119 (by decide) ?_
              exact ih2 (j + 1) (b2 + 1) (by omega) (by omega) (by omega) (by rw [hb2, itr_lt _ _ (by omega)]; congr 1; unfold twos1; rw [if_pos cq105])
      refine ei_iload X dX10_suspects_40 rfl ?_
      refine ei_aload_n X dX10_suspects_42 rfl rfl ?_
      refine ei_getf X fl_RX10_81 dX10_suspects_43 rfl rfl ?_
      refine ei_icmpn_ge (tgt := 128) X dX10_suspects_46 (by decide) (by first | omega | assumption) (by first | omega | assumption) (fun cq46 => ?_) (fun cq46 => ?_)
      · refine ei_iload_n X dX10_suspects_128 rfl rfl ?_
        refine ei_if_ne (tgt := 137) X dX10_suspects_129 (by decide) (fun cq129 => ?_) (fun cq129 => ?_)
        · refine ei_iload X dX10_suspects_137 rfl ?_
          refine ei_ireturn X F dX10_suspects_139 ?_
          exact ⟨by rw [hF, if_neg cq129, hb, itr_ge _ _ cq46], _, kM_20 _ _ _ _ 0, rfl⟩
        · refine ei_iload X dX10_suspects_132 rfl ?_
          refine ei_goto (tgt := 139) X dX10_suspects_134 (by decide) ?_
          refine ei_ireturn X F dX10_suspects_139 ?_
          exact ⟨by rw [hF, if_pos cq129, ha, itr_ge _ _ cq46], _, kM_20 _ _ _ _ 0, rfl⟩
      · refine ei_iload X dX10_suspects_49 rfl ?_
        refine ei_aload_n X dX10_suspects_51 rfl rfl ?_
        refine ei_iload_n X dX10_suspects_52 rfl rfl ?_
        refine ei_iconst (v := 1) X dX10_suspects_53 rfl ?_
        refine ei_iload X dX10_suspects_54 rfl ?_
        refine ei_ishl X dX10_suspects_56 ?_
        refine ei_callI1 X ml_RX10_326 dX10_suspects_57 (ct_X10_isSuspect _ _ _ _ _ _ _ _ _ _ _ _ _ _ _ Z k i i _ hk hz hR h_n ht (by omega) (by omega) Int32.or_self.symm) rfl rfl (by decide) (by decide) rfl (Nat.le_of_ble_eq_true rfl) ?_
        refine ei_ifz_eq (tgt := 70) X dX10_suspects_60 (by decide) (fun cq60 => ?_) (fun cq60 => ?_)
        · refine ei_iconst (v := 0) X dX10_suspects_70 rfl ?_
          refine ei_ior X dX10_suspects_71 ?_
          refine ei_istore X dX10_suspects_72 (Nat.le_of_ble_eq_true rfl) rfl ?_
          refine ei_iload X dX10_suspects_74 rfl ?_
          refine ei_iconst (v := nI 1) X dX10_suspects_76 rfl ?_
          refine ei_iadd X dX10_suspects_77 ?_
          rw [nI_add]
          refine ei_istore X dX10_suspects_78 (Nat.le_of_ble_eq_true rfl) rfl ?_
          rw [Int32.or_zero]
          exact LI (by omega) a (by rw [ha, itr_lt _ _ (by omega)]; congr 1; unfold ones1; rw [if_neg (by rw [cq60]; exact Bool.false_ne_true)]) 11 (i + 1) b (by omega) (by omega) (by omega) rfl
        · refine ei_iconst (v := 1) X dX10_suspects_63 rfl ?_
          refine ei_iload X dX10_suspects_64 rfl ?_
          refine ei_ishl X dX10_suspects_66 ?_
          refine ei_goto (tgt := 71) X dX10_suspects_67 (by decide) ?_
          refine ei_ior X dX10_suspects_71 ?_
          refine ei_istore X dX10_suspects_72 (Nat.le_of_ble_eq_true rfl) rfl ?_
          refine ei_iload X dX10_suspects_74 rfl ?_
          refine ei_iconst (v := nI 1) X dX10_suspects_76 rfl ?_
          refine ei_iadd X dX10_suspects_77 ?_
          rw [nI_add]
          refine ei_istore X dX10_suspects_78 (Nat.le_of_ble_eq_true rfl) rfl ?_
          exact LI (by omega) (a ||| bitI i) (by rw [ha, itr_lt _ _ (by omega)]; congr 1; unfold ones1; rw [if_pos cq60]) 11 (i + 1) b (by omega) (by omega) (by omega) rfl
  refine ei_aload_n X dX10_suspects_0 rfl rfl ?_
  refine ei_iconst (v := 0) X dX10_suspects_1 rfl ?_
  refine ei_puti X fp_RX10_78 dX10_suspects_2 rfl (Nat.le_of_ble_eq_true rfl) (pm_20 _ _ _ _ _ _ _ _ _ _ _ _ _ _ _ _) ?_
  refine ei_iload_n X dX10_suspects_5 rfl rfl ?_
  refine ei_i2l X dX10_suspects_6 ?_
  refine ei_lconst (v := 0) X dX10_suspects_7 rfl ?_
  refine ei_lconst (v := 1) X dX10_suspects_8 rfl ?_
  refine ei_callT1 X ml_RX10_84 dX10_suspects_9 (ct_X10_in _ _ _ _) rfl rfl (by decide) (by decide) (Nat.le_of_ble_eq_true rfl) ?_
  rw [in_0_1]
  refine ei_ifz_eq (tgt := 23) X dX10_suspects_12 (by decide) (fun cq12 => ?_) (fun cq12 => ?_)
  · refine ei_iconst (v := -1) X dX10_suspects_23 rfl ?_
    refine ei_istore_n X dX10_suspects_24 rfl (Nat.le_of_ble_eq_true rfl) rfl ?_
    refine ei_iload_n X dX10_suspects_25 rfl rfl ?_
    refine ei_if_ge (tgt := 31) X dX10_suspects_26 (by decide) (fun cq26 => ?_) (fun cq26 => ?_)
    · first | exact absurd cq26 (by decide) | exact absurd (by decide) cq26
    · refine ei_iload_n X dX10_suspects_29 rfl rfl ?_
      refine ei_ireturn X F dX10_suspects_30 ?_
      exact ⟨by unfold suspectsF; rw [if_neg (by rw [cq12]; exact Bool.false_ne_true)], _, kM_20 _ _ _ _ 0, rfl⟩
  · refine ei_aload_n X dX10_suspects_15 rfl rfl ?_
    refine ei_iload_n X dX10_suspects_16 rfl rfl ?_
    refine ei_callI1 X ml_RX10_323 dX10_suspects_17 (ct_X10_wrongThrees _ _ _ _ _ _ _ _ _ _ _ _ _ _ _ Z _ hR h_n) rfl rfl (by decide) (by decide) rfl (Nat.le_of_ble_eq_true rfl) ?_
    refine ei_goto (tgt := 24) X dX10_suspects_20 (by decide) ?_
    refine ei_istore_n X dX10_suspects_24 rfl (Nat.le_of_ble_eq_true rfl) rfl ?_
    refine ei_iload_n X dX10_suspects_25 rfl rfl ?_
    refine ei_if_ge (tgt := 31) X dX10_suspects_26 (by decide) (fun cq26 => ?_) (fun cq26 => ?_)
    · refine ei_iconst (v := 0) X dX10_suspects_31 rfl ?_
      refine ei_istore X dX10_suspects_32 (Nat.le_of_ble_eq_true rfl) rfl ?_
      refine ei_iconst (v := 0) X dX10_suspects_34 rfl ?_
      refine ei_istore X dX10_suspects_35 (Nat.le_of_ble_eq_true rfl) rfl ?_
      refine ei_iconst (v := 0) X dX10_suspects_37 rfl ?_
      refine ei_istore X dX10_suspects_38 (Nat.le_of_ble_eq_true rfl) rfl ?_
      obtain ⟨t0, w0, tt⟩ := threes_n cq26
      obtain ⟨k, hk, e5, hz⟩ := wrongRow_0 w0
      have hnc : nc d = k := (by rw [e5]; exact nc_nI (by omega))
      rw [hnc] at tt
      have h7 := L k (threesF n Z d) hk hz tt (by unfold suspectsF; rw [if_pos cq12, if_pos t0, hnc]) 11 0 0 0 (by omega) (by omega) rfl rfl
      rw [← e5] at h7
      exact h7
    · refine ei_iload_n X dX10_suspects_29 rfl rfl ?_
      refine ei_ireturn X F dX10_suspects_30 ?_
      exact ⟨by unfold suspectsF; rw [if_pos cq12, if_neg (fun z => cq26 (by rw [z]; exact Int32.le_refl 0))], _, kM_20 _ _ _ _ 0, rfl⟩

