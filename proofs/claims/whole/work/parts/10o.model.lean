/-! ===== suspects ===== -/
def told3 (n : Nat) (z : Sh) (t : Nat) : Bool := strF n (zC z (3 * t)) (zC z (3 * t + 1))
def toldF (n : Nat) (z : Sh) : Bool := decide (zN z % 3 = 0) && allF (told3 n z) 0 (zN z / 3)
def threesF (n : Nat) (Z : Nat → Sh) (d : Int32) : Int32 := if wrongRowF Z d = 0 then (if toldF n (Z (nc d)) = true then 0 else -13) else wrongRowF Z d
def susp1 (z : Sh) (i j t : Nat) : Bool := (decide (zC z (3 * t) ≤ nI i) && decide (nI j ≤ zC z (3 * t + 1))) == decide (zC z (3 * t + 2) = 1)
def suspF (z : Sh) (i j : Nat) : Bool := allF (susp1 z i j) 0 (zN z / 3)
theorem rem3 : ∀ m, m ≤ 100 → (nI m - nI m / 3 * 3 = 0 ↔ m % 3 = 0) := by
  have kk : ∀ m, m < 101 → (nI m - nI m / 3 * 3 = 0 ↔ m % 3 = 0) := by decide +kernel
  exact fun m h => kk m (by omega)
theorem str_in {n : Nat} (hn : n ≤ 10) {x y : Int32} (hx : hasF n x = true) : inI y x (nI n - 1) = strF n x y := by
  have hy := inI_has (n := n) (by omega) y
  have h0 : 0 ≤ x := by unfold hasF at hx; exact of_decide_eq_true (Bool.and_eq_true _ _ |>.mp hx).1
  unfold strF
  rw [hx, Bool.true_and, ← hy]
  unfold inI
  by_cases h1 : x ≤ y
  · rw [decide_eq_true h1, decide_eq_true (Int32.le_trans h0 h1), Bool.true_and, Bool.and_true]
  · rw [decide_eq_false h1, Bool.false_and, Bool.and_false]
theorem str_nn {n : Nat} {x y : Int32} (hx : hasF n x = false) : strF n x y = false := by unfold strF; rw [hx, Bool.false_and]
set_option maxRecDepth 100000 in
set_option maxHeartbeats 4000000 in
theorem ct_X10_wrongThrees (n : Nat) (w se sp hr lt hd sc : Int32) (so fi wo : Nat → Int32) (I : Nat → Int32) (A : Nat → Nat → Int32) (B : Nat → Nat → Int64) (K : Value) (Z : Nat → Sh) (d : Int32) (h_R : RS Z (I, A, B, K)) (h_n : n ≤ 10) : e_Ct yX10_wrongThrees cX10_wrongThrees 9 (some .int) 3 [.ref 0, .int d] (mH (n, w, se, sp, hr, lt, hd, sc, so, fi, wo) (I, A, B, K)) (e_eq (some (.int (threesF n Z d))) (mH (n, w, se, sp, hr, lt, hd, sc, so, fi, wo) (I, A, B, K))) := by
  refine e_open RX10 rfl (by decide +kernel) rfl (fun _ => Nat.le_of_ble_eq_true rfl) (fun x X F => ?_)
  have L : ∀ (k : Nat) (u : Int32), k < 8 → zN (Z k) ≤ 100 → A 8 k = nI (zN (Z k)) → (∀ j, j < 100 → B 9 (100 * k + j) = (zC (Z k) j).toInt64) → threesF n Z d = (if toldF n (Z k) = true then 0 else -13) → ∀ (c t : Nat) (a : Bool), 50 - t < c → t ≤ 50 → (a = true → zN (Z k) % 3 = 0) → toldF n (Z k) = (a && allF (told3 n (Z k)) t (zN (Z k) / 3)) → e_E x 32 [some (.ref 0), some (.int (nI k)), some (.int u), some (.int (bz a)), some (.int (nI (3 * t))), none, none, none, none] [] (mH (n, w, se, sp, hr, lt, hd, sc, so, fi, wo) (I, A, B, K)) := by
    intro k u hk hs z8 z9 hF c
    induction c with
    | zero => intro t a hc; exact absurd hc (Nat.not_lt_zero _)
    | succ c ih =>
      intro t a hc ht ha hv
      refine ei_iload X dX10_wrongThrees_32 rfl ?_
      refine ei_iconst (v := nI 2) X dX10_wrongThrees_34 rfl ?_
      refine ei_iadd X dX10_wrongThrees_35 ?_
      rw [nI_add]
      refine ei_aload_n X dX10_wrongThrees_36 rfl rfl ?_
      refine ei_getf X fl_RX10_38 dX10_wrongThrees_37 rfl rfl ?_
      refine ei_iload_n X dX10_wrongThrees_40 rfl rfl ?_
      refine ei_iaload_n X dX10_wrongThrees_41 rfl (by first | omega | assumption) (by decide) ?_
      rw [z8]
      refine ei_icmpn_ge (tgt := 124) X dX10_wrongThrees_42 (by decide) (by first | omega | assumption) (by first | omega | assumption) (fun cq42 => ?_) (fun cq42 => ?_)
      · refine ei_iload_n X dX10_wrongThrees_124 rfl rfl ?_
        refine ei_ifz_eq (tgt := 132) X dX10_wrongThrees_125 (by decide) (fun cq125 => ?_) (fun cq125 => ?_)
        · refine ei_bipush (v := -13) X dX10_wrongThrees_132 rfl ?_
          refine ei_ireturn X F dX10_wrongThrees_134 ?_
          exact ⟨by rw [hF, hv, cq125, Bool.false_and, if_neg Bool.false_ne_true], rfl⟩
        · refine ei_iconst (v := 0) X dX10_wrongThrees_128 rfl ?_
          refine ei_goto (tgt := 134) X dX10_wrongThrees_129 (by decide) ?_
          refine ei_ireturn X F dX10_wrongThrees_134 ?_
          exact ⟨by rw [hF, hv, cq125, Bool.true_and, allF_ge (by have := ha cq125; omega), if_pos rfl], rfl⟩
      · refine ei_iload_n X dX10_wrongThrees_45 rfl rfl ?_
        refine ei_ifz_eq (tgt := 124) X dX10_wrongThrees_46 (by decide) (fun cq46 => ?_) (fun cq46 => ?_)
        · refine ei_iload_n X dX10_wrongThrees_124 rfl rfl ?_
          refine ei_ifz_eq (tgt := 132) X dX10_wrongThrees_125 (by decide) (fun cq125 => ?_) (fun cq125 => ?_)
          · refine ei_bipush (v := -13) X dX10_wrongThrees_132 rfl ?_
            refine ei_ireturn X F dX10_wrongThrees_134 ?_
            exact ⟨by rw [hF, hv, cq125, Bool.false_and, if_neg Bool.false_ne_true], rfl⟩
          · refine ei_iconst (v := 0) X dX10_wrongThrees_128 rfl ?_
            refine ei_goto (tgt := 134) X dX10_wrongThrees_129 (by decide) ?_
            refine ei_ireturn X F dX10_wrongThrees_134 ?_
            exact absurd (cq125.symm.trans cq46) Bool.false_ne_true.symm
        · refine ei_aload_n X dX10_wrongThrees_49 rfl rfl ?_
          refine ei_getf X fl_RX10_41 dX10_wrongThrees_50 rfl rfl ?_
          refine ei_bipush (v := nI 100) X dX10_wrongThrees_53 rfl ?_
          refine ei_iload_n X dX10_wrongThrees_55 rfl rfl ?_
          refine ei_imul X dX10_wrongThrees_56 ?_
          rw [nI_mul]
          refine ei_iload X dX10_wrongThrees_57 rfl ?_
          refine ei_iadd X dX10_wrongThrees_59 ?_
          rw [nI_add]
          refine ei_laload_n X dX10_wrongThrees_60 rfl (by first | omega | assumption) (by decide) ?_
          rw [z9 (3 * t) (by omega)]
          refine ei_lstore X dX10_wrongThrees_61 (Nat.le_of_ble_eq_true rfl) rfl ?_
          refine ei_aload_n X dX10_wrongThrees_63 rfl rfl ?_
          refine ei_getf X fl_RX10_41 dX10_wrongThrees_64 rfl rfl ?_
          refine ei_bipush (v := nI 100) X dX10_wrongThrees_67 rfl ?_
          refine ei_iload_n X dX10_wrongThrees_69 rfl rfl ?_
          refine ei_imul X dX10_wrongThrees_70 ?_
          rw [nI_mul]
          refine ei_iload X dX10_wrongThrees_71 rfl ?_
          refine ei_iadd X dX10_wrongThrees_73 ?_
          rw [nI_add]
          refine ei_iconst (v := nI 1) X dX10_wrongThrees_74 rfl ?_
          refine ei_iadd X dX10_wrongThrees_75 ?_
          rw [nI_add]
          refine ei_laload_n X dX10_wrongThrees_76 rfl (by first | omega | assumption) (by decide) ?_
          rw [show 100 * k + 3 * t + 1 = 100 * k + (3 * t + 1) from rfl, z9 (3 * t + 1) (by omega)]
          refine ei_lstore X dX10_wrongThrees_77 (Nat.le_of_ble_eq_true rfl) rfl ?_
          refine ei_lload X dX10_wrongThrees_79 rfl ?_
          refine ei_lconst (v := 0) X dX10_wrongThrees_81 rfl ?_
          refine ei_aload_n X dX10_wrongThrees_82 rfl rfl ?_
          refine ei_getf X fl_RX10_81 dX10_wrongThrees_83 rfl rfl ?_
          refine ei_iconst (v := 1) X dX10_wrongThrees_86 rfl ?_
          refine ei_isub X dX10_wrongThrees_87 ?_
          refine ei_i2l X dX10_wrongThrees_88 ?_
          refine ei_callT1 X ml_RX10_84 dX10_wrongThrees_89 (ct_X10_in _ _ _ _) rfl rfl (by decide) (by decide) (Nat.le_of_ble_eq_true rfl) ?_
          rw [show inF (zC (Z k) (3 * t)).toInt64 0 (nI n - 1).toInt64 = hasF n (zC (Z k) (3 * t)) from (inF_I _ 0 _).trans (inI_has (by omega) _)]
          refine ei_ifz_eq (tgt := 116) X dX10_wrongThrees_92 (by decide) (fun cq92 => ?_) (fun cq92 => ?_)
          · refine ei_iconst (v := 0) X dX10_wrongThrees_116 rfl ?_
            refine ei_istore_n X dX10_wrongThrees_117 rfl (Nat.le_of_ble_eq_true rfl) rfl ?_
            refine ei_iinc (v := _ + 3) X dX10_wrongThrees_118 rfl rfl rfl ?_
            refine ei_goto (tgt := 32) X dX10_wrongThrees_121 (by decide) ?_
            have ha2 := ha cq46
            refine ei_drop 5 ?_
            refine ei_drop 7 ?_
            rw [show nI (3 * t) + 3 = nI (3 * (t + 1)) from nI_add (3 * t) 3]
            exact ih (t + 1) false (by omega) (by omega) (fun z => absurd z Bool.false_ne_true) (by rw [hv, cq46, allF_lt (by omega), show told3 n (Z k) t = false from str_nn cq92]; rfl)
          · refine ei_lload X dX10_wrongThrees_95 rfl ?_
            refine ei_lload X dX10_wrongThrees_97 rfl ?_
            refine ei_aload_n X dX10_wrongThrees_99 rfl rfl ?_
            refine ei_getf X fl_RX10_81 dX10_wrongThrees_100 rfl rfl ?_
            refine ei_iconst (v := 1) X dX10_wrongThrees_103 rfl ?_
            refine ei_isub X dX10_wrongThrees_104 ?_
            refine ei_i2l X dX10_wrongThrees_105 ?_
            refine ei_callT1 X ml_RX10_84 dX10_wrongThrees_106 (ct_X10_in _ _ _ _) rfl rfl (by decide) (by decide) (Nat.le_of_ble_eq_true rfl) ?_
            rw [inF_I, str_in h_n cq92]
            refine ei_ifz_eq (tgt := 116) X dX10_wrongThrees_109 (by decide) (fun cq109 => ?_) (fun cq109 => ?_)
            · refine ei_iconst (v := 0) X dX10_wrongThrees_116 rfl ?_
              refine ei_istore_n X dX10_wrongThrees_117 rfl (Nat.le_of_ble_eq_true rfl) rfl ?_
              refine ei_iinc (v := _ + 3) X dX10_wrongThrees_118 rfl rfl rfl ?_
              refine ei_goto (tgt := 32) X dX10_wrongThrees_121 (by decide) ?_
              have ha2 := ha cq46
              refine ei_drop 5 ?_
              refine ei_drop 7 ?_
              rw [show nI (3 * t) + 3 = nI (3 * (t + 1)) from nI_add (3 * t) 3]
              exact ih (t + 1) false (by omega) (by omega) (fun z => absurd z Bool.false_ne_true) (by rw [hv, cq46, allF_lt (by omega), show told3 n (Z k) t = false from cq109]; rfl)
            · refine ei_iconst (v := 1) X dX10_wrongThrees_112 rfl ?_
              refine ei_goto (tgt := 117) X dX10_wrongThrees_113 (by decide) ?_
              refine ei_istore_n X dX10_wrongThrees_117 rfl (Nat.le_of_ble_eq_true rfl) rfl ?_
              refine ei_iinc (v := _ + 3) X dX10_wrongThrees_118 rfl rfl rfl ?_
              refine ei_goto (tgt := 32) X dX10_wrongThrees_121 (by decide) ?_
              have ha2 := ha cq46
              refine ei_drop 5 ?_
              refine ei_drop 7 ?_
              rw [show nI (3 * t) + 3 = nI (3 * (t + 1)) from nI_add (3 * t) 3]
              exact ih (t + 1) true (by omega) (by omega) (fun _ => ha2) (by rw [hv, cq46, allF_lt (by omega), show told3 n (Z k) t = true from cq109, Bool.true_and])
  refine ei_aload_n X dX10_wrongThrees_0 rfl rfl ?_
  refine ei_iload_n X dX10_wrongThrees_1 rfl rfl ?_
  refine ei_callI1 X ml_RX10_219 dX10_wrongThrees_2 (ct_X10_wrongRow _ _ _ _ _ _ _ _ _ _ _ _ _ _ _ Z _ h_R) rfl rfl (by decide) (by decide) rfl (Nat.le_of_ble_eq_true rfl) ?_
  refine ei_istore_n X dX10_wrongThrees_5 rfl (Nat.le_of_ble_eq_true rfl) rfl ?_
  refine ei_iload_n X dX10_wrongThrees_6 rfl rfl ?_
  refine ei_if_ge (tgt := 12) X dX10_wrongThrees_7 (by decide) (fun cq7 => ?_) (fun cq7 => ?_)
  · have w0 := wrongRow_ge.mp cq7
    obtain ⟨k, hk, rfl, hz⟩ := wrongRow_0 w0
    have hnc : nc (nI k) = k := nc_nI (by omega)
    obtain ⟨o1, o2, o3, o4⟩ := h_R k hk
    obtain ⟨z7, z8, z9⟩ := o4 hz
    obtain ⟨hkk, hs⟩ := o1.2.2 hz
    simp only at z7 z8 z9
    refine ei_aload_n X dX10_wrongThrees_12 rfl rfl ?_
    refine ei_getf X fl_RX10_38 dX10_wrongThrees_13 rfl rfl ?_
    refine ei_iload_n X dX10_wrongThrees_16 rfl rfl ?_
    refine ei_iaload_n X dX10_wrongThrees_17 rfl (by first | omega | assumption) (by decide) ?_
    rw [z8]
    refine ei_iconst (v := 3) X dX10_wrongThrees_18 rfl ?_
    refine ei_irem X dX10_wrongThrees_19 (by decide) ?_
    refine ei_if_ne (tgt := 27) X dX10_wrongThrees_20 (by decide) (fun cq20 => ?_) (fun cq20 => ?_)
    · refine ei_iconst (v := 0) X dX10_wrongThrees_27 rfl ?_
      refine ei_istore_n X dX10_wrongThrees_28 rfl (Nat.le_of_ble_eq_true rfl) rfl ?_
      refine ei_iconst (v := 0) X dX10_wrongThrees_29 rfl ?_
      refine ei_istore X dX10_wrongThrees_30 (Nat.le_of_ble_eq_true rfl) rfl ?_
      exact L k _ hk hs z8 z9 (by unfold threesF; rw [if_pos w0, hnc]) 51 0 false (by omega) (by omega) (fun z => absurd z Bool.false_ne_true) (by unfold toldF; rw [decide_eq_false (fun z => cq20 ((rem3 _ hs).mpr z))])
    · refine ei_iconst (v := 1) X dX10_wrongThrees_23 rfl ?_
      refine ei_goto (tgt := 28) X dX10_wrongThrees_24 (by decide) ?_
      refine ei_istore_n X dX10_wrongThrees_28 rfl (Nat.le_of_ble_eq_true rfl) rfl ?_
      refine ei_iconst (v := 0) X dX10_wrongThrees_29 rfl ?_
      refine ei_istore X dX10_wrongThrees_30 (Nat.le_of_ble_eq_true rfl) rfl ?_
      exact L k _ hk hs z8 z9 (by unfold threesF; rw [if_pos w0, hnc]) 51 0 true (by omega) (by omega) (fun _ => (rem3 _ hs).mp cq20) (by unfold toldF; rw [decide_eq_true ((rem3 _ hs).mp cq20)])
  · refine ei_iload_n X dX10_wrongThrees_10 rfl rfl ?_
    refine ei_ireturn X F dX10_wrongThrees_11 ?_
    exact ⟨by unfold threesF; rw [if_neg (fun z => cq7 (wrongRow_ge.mpr z))], rfl⟩

