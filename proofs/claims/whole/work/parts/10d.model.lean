theorem row_lt {k i : Nat} (hk : k < 8) (hi : i < 100) : 100 * k + i < 800 := by omega
theorem inRow_iff {z : Sh} (h : zN z ≤ 100) {i : Int32} : inF i.toInt64 0 (nI (zN z) - 1).toInt64 = inRow z i := (inF_I i 0 _).trans (inI_has (by omega) i)
set_option maxRecDepth 100000 in
set_option maxHeartbeats 4000000 in
theorem ct_X10_narrowed (h : List eC) (v s : Int32) : e_Ct yX10_narrowed cX10_narrowed 2 (some .long) 1 [.int v, .int s] h (e_eq (some (.long (narI v s).toInt64)) h) := by
  refine e_open RX10 rfl (by decide +kernel) rfl (fun _ => Nat.le_of_ble_eq_true rfl) (fun x X F => ?_)
  refine ei_iload_n X dX10_narrowed_0 rfl rfl ?_
  refine ei_if_ne (tgt := 10) X dX10_narrowed_1 (by decide) (fun cq1 => ?_) (fun cq1 => ?_)
  · refine ei_iload_n X dX10_narrowed_10 rfl rfl ?_
    refine ei_iconst (v := 1) X dX10_narrowed_11 rfl ?_
    refine ei_icmp_ne (tgt := 21) X dX10_narrowed_12 (by decide) (fun cq12 => ?_) (fun cq12 => ?_)
    · refine ei_iload_n X dX10_narrowed_21 rfl rfl ?_
      refine ei_i2l X dX10_narrowed_22 ?_
      refine ei_lreturn X F dX10_narrowed_23 ?_
      exact ⟨by simp [narI, cq1, cq12], rfl⟩
    · refine ei_iload_n X dX10_narrowed_15 rfl rfl ?_
      refine ei_i2s X dX10_narrowed_16 ?_
      refine ei_i2l X dX10_narrowed_17 ?_
      refine ei_goto (tgt := 23) X dX10_narrowed_18 (by decide) ?_
      refine ei_lreturn X F dX10_narrowed_23 ?_
      exact ⟨by simp [narI, cq1, cq12], rfl⟩
  · refine ei_iload_n X dX10_narrowed_4 rfl rfl ?_
    refine ei_i2b X dX10_narrowed_5 ?_
    refine ei_i2l X dX10_narrowed_6 ?_
    refine ei_goto (tgt := 23) X dX10_narrowed_7 (by decide) ?_
    refine ei_lreturn X F dX10_narrowed_23 ?_
    exact ⟨by simp [narI, cq1], rfl⟩
set_option maxRecDepth 100000 in
set_option maxHeartbeats 4000000 in
theorem ct_X10_put (n : Nat) (w se sp hr lt hd sc : Int32) (so fi wo : Nat → Int32) (I : Nat → Int32) (A : Nat → Nat → Int32) (B : Nat → Nat → Int64) (K : Value) (Z : Nat → Sh) (d i v : Int32) (h_R : RS Z (I, A, B, K)) : e_Ct yX10_put cX10_put 5 (some .int) 3 [.ref 0, .int d, .int i, .int v] (mH (n, w, se, sp, hr, lt, hd, sc, so, fi, wo) (I, A, B, K)) (mZ (some (.int (putF Z d i))) (n, w, se, sp, hr, lt, hd, sc, so, fi, wo) (putZ Z d i v) (I, A, B, K)) := by
  refine e_open RX10 rfl (by decide +kernel) rfl (fun _ => Nat.le_of_ble_eq_true rfl) (fun x X F => ?_)
  have hR := RS_20 _ _ _ _ h_R 0
  refine ei_aload_n X dX10_put_0 rfl rfl ?_
  refine ei_iconst (v := 0) X dX10_put_1 rfl ?_
  refine ei_puti X fp_RX10_78 dX10_put_2 rfl (Nat.le_of_ble_eq_true rfl) (pm_20 _ _ _ _ _ _ _ _ _ _ _ _ _ _ _ _) ?_
  refine ei_aload_n X dX10_put_5 rfl rfl ?_
  refine ei_iload_n X dX10_put_6 rfl rfl ?_
  refine ei_callI1 X ml_RX10_219 dX10_put_7 (ct_X10_wrongRow _ _ _ _ _ _ _ _ _ _ _ _ _ _ _ Z _ hR) rfl rfl (by decide) (by decide) rfl (Nat.le_of_ble_eq_true rfl) ?_
  refine ei_istore X dX10_put_10 (Nat.le_of_ble_eq_true rfl) rfl ?_
  refine ei_iload X dX10_put_12 rfl ?_
  refine ei_if_ge (tgt := 20) X dX10_put_14 (by decide) (fun cq14 => ?_) (fun cq14 => ?_)
  · have w0 := wrongRow_ge.mp cq14
    obtain ⟨k, hk, rfl, hz⟩ := wrongRow_0 w0
    have hnc : nc (nI k) = k := nc_nI (by omega)
    obtain ⟨o1, o2, o3, o4⟩ := h_R k hk
    obtain ⟨z7, z8, z9⟩ := o4 hz
    obtain ⟨hkk, hs⟩ := o1.2.2 hz
    simp only at z7 z8 z9
    refine ei_iload_n X dX10_put_20 rfl rfl ?_
    refine ei_i2l X dX10_put_21 ?_
    refine ei_lconst (v := 0) X dX10_put_22 rfl ?_
    refine ei_aload_n X dX10_put_23 rfl rfl ?_
    refine ei_getf X fl_RX10_38 dX10_put_24 rfl rfl ?_
    refine ei_iload_n X dX10_put_27 rfl rfl ?_
    refine ei_iaload_n X dX10_put_28 rfl (by first | omega | assumption) (by decide) ?_
    rw [z8]
    refine ei_iconst (v := 1) X dX10_put_29 rfl ?_
    refine ei_isub X dX10_put_30 ?_
    refine ei_i2l X dX10_put_31 ?_
    refine ei_callT1 X ml_RX10_84 dX10_put_32 (ct_X10_in _ _ _ _) rfl rfl (by decide) (by decide) (Nat.le_of_ble_eq_true rfl) ?_
    rw [inRow_iff hs]
    refine ei_ifz_ne (tgt := 41) X dX10_put_35 (by decide) (fun cq35 => ?_) (fun cq35 => ?_)
    · obtain ⟨a, ha, rfl⟩ := (hasF_iff (by omega)).mp cq35
      have hna : nc (nI a) = a := nc_nI (by omega)
      refine ei_aload_n X dX10_put_41 rfl rfl ?_
      refine ei_getf X fl_RX10_41 dX10_put_42 rfl rfl ?_
      refine ei_bipush (v := nI 100) X dX10_put_45 rfl ?_
      refine ei_iload_n X dX10_put_47 rfl rfl ?_
      refine ei_imul X dX10_put_48 ?_
      rw [nI_mul]
      refine ei_iload_n X dX10_put_49 rfl rfl ?_
      refine ei_iadd X dX10_put_50 ?_
      rw [nI_add]
      refine ei_iload_n X dX10_put_51 rfl rfl ?_
      refine ei_aload_n X dX10_put_52 rfl rfl ?_
      refine ei_getf X fl_RX10_35 dX10_put_53 rfl rfl ?_
      refine ei_iload_n X dX10_put_56 rfl rfl ?_
      refine ei_iaload_n X dX10_put_57 rfl (by first | omega | assumption) (by decide) ?_
      rw [z7]
      refine ei_callT1 X ml_RX10_364 dX10_put_58 (ct_X10_narrowed _ _ _) rfl rfl (by decide) (by decide) (Nat.le_of_ble_eq_true rfl) ?_
      refine ei_lastore_n X dX10_put_61 rfl (by first | omega | assumption) (by decide) (pm_r9 _ _ _ _ _ _ _ _ _ _ _ _ _ _ _ _) ?_
      refine ei_iconst (v := 0) X dX10_put_62 rfl ?_
      refine ei_ireturn X F dX10_put_63 ?_
      refine ⟨by simp only [putF, if_pos w0, hnc, cq35, if_true], _, kX_20 _ _ _ _ _ _ 0 rfl, ?_, rfl⟩
      simp only [putZ, w0, hnc, hna, cq35, and_self, if_true]
      refine RS_set h_R ⟨o1.1, o1.2.1, o1.2.2⟩ o2 o3 (fun _ => ⟨z7, z8, fun j hj => ?_⟩) (fun e he hne => ⟨fun c _ => rfl, fun j hj => ?_⟩)
      · rw [updB_on]; unfold vp_updL; by_cases q : j = a; (· subst q; rw [if_pos rfl]; show _ = (upd _ _ _ _).toInt64; rw [pk_us]); (· rw [if_neg (by omega)]; show _ = (upd _ _ _ _).toInt64; rw [pk_un q]; exact z9 j hj)
      · rw [updB_on]; unfold vp_updL; rw [if_neg (by omega)]
    · refine ei_bipush (v := -13) X dX10_put_38 rfl ?_
      refine ei_ireturn X F dX10_put_40 ?_
      exact ⟨by simp only [putF, if_pos w0, hnc, cq35, Bool.false_eq_true, if_false], _, kX_20 _ _ _ _ _ _ 0 rfl, by simp only [putZ, w0, hnc, cq35, Bool.false_eq_true, and_false, if_false]; exact RS_20 _ _ _ _ h_R 0, rfl⟩
  · refine ei_iload X dX10_put_17 rfl ?_
    refine ei_ireturn X F dX10_put_19 ?_
    exact ⟨by simp only [putF, if_neg (fun z => cq14 (wrongRow_ge.mpr z))], _, kX_20 _ _ _ _ _ _ 0 rfl, by simp only [putZ, if_neg (fun z => cq14 (wrongRow_ge.mpr (And.left z)))]; exact RS_20 _ _ _ _ h_R 0, rfl⟩
def elemE (Z : Nat → Sh) (d i : Int32) : Int32 := if wrongRowF Z d = -1 then 1 else if wrongRowF Z d = 0 ∧ inRow (Z (nc d)) i = true then 0 else 2
def elemF (Z : Nat → Sh) (d i : Int32) : Int64 := if elemE Z d i = 0 then (zC (Z (nc d)) (nc i)).toInt64 else 0
set_option maxRecDepth 100000 in
set_option maxHeartbeats 4000000 in
theorem ct_X10_element (n : Nat) (w se sp hr lt hd sc : Int32) (so fi wo : Nat → Int32) (I : Nat → Int32) (A : Nat → Nat → Int32) (B : Nat → Nat → Int64) (K : Value) (Z : Nat → Sh) (d i : Int32) (h_R : RS Z (I, A, B, K)) : e_Ct yX10_element cX10_element 4 (some .long) 3 [.ref 0, .int d, .int i] (mH (n, w, se, sp, hr, lt, hd, sc, so, fi, wo) (I, A, B, K)) (e_eq (some (.long (elemF Z d i))) (mH (n, w, se, sp, hr, lt, hd, sc, so, fi, wo) (upd I 20 (elemE Z d i), A, B, K))) := by
  refine e_open RX10 rfl (by decide +kernel) rfl (fun _ => Nat.le_of_ble_eq_true rfl) (fun x X F => ?_)
  have E2 : ∀ v, ¬ v = 0 → 0 < v → elemE Z d i = v → e_E x 43 [some (.ref 0), some (.int d), some (.int i), some (.int (wrongRowF Z d))] [.int v, .ref 0] (mH (n, w, se, sp, hr, lt, hd, sc, so, fi, wo) (I, A, B, K)) := by
    intro v hv0 hv he
    refine ei_puti X fp_RX10_78 dX10_element_43 rfl (Nat.le_of_ble_eq_true rfl) (pm_20 _ _ _ _ _ _ _ _ _ _ _ _ _ _ _ _) ?_
    refine ei_aload_n X dX10_element_46 rfl rfl ?_
    refine ei_getf X fl_RX10_78 dX10_element_47 rfl rfl ?_
    rw [pk_us]
    refine ei_if_le (tgt := 57) X dX10_element_50 (by decide) (fun cq50 => ?_) (fun cq50 => ?_)
    · exact absurd hv (Int32.not_lt.mpr cq50)
    · refine ei_lconst (v := 0) X dX10_element_53 rfl ?_
      refine ei_goto (tgt := 68) X dX10_element_54 (by decide) ?_
      refine ei_lreturn X F dX10_element_68 ?_
      exact ⟨by unfold elemF; rw [he, if_neg hv0], by rw [he]⟩
  have E3 : ∀ (k a : Nat), k < 8 → d = nI k → i = nI a → a < zN (Z k) → zN (Z k) ≤ 100 → (∀ j, j < 100 → B 9 (100 * k + j) = (zC (Z k) j).toInt64) → elemE Z (nI k) (nI a) = 0 → nc (nI k) = k → nc (nI a) = a → e_E x 43 [some (.ref 0), some (.int (nI k)), some (.int (nI a)), some (.int (wrongRowF Z (nI k)))] [.int 0, .ref 0] (mH (n, w, se, sp, hr, lt, hd, sc, so, fi, wo) (I, A, B, K)) := by
    intro k a hk hd hi ha hs z9 he hnc hna
    refine ei_puti X fp_RX10_78 dX10_element_43 rfl (Nat.le_of_ble_eq_true rfl) (pm_20 _ _ _ _ _ _ _ _ _ _ _ _ _ _ _ _) ?_
    refine ei_aload_n X dX10_element_46 rfl rfl ?_
    refine ei_getf X fl_RX10_78 dX10_element_47 rfl rfl ?_
    rw [pk_us]
    refine ei_if_le (tgt := 57) X dX10_element_50 (by decide) (fun cq50 => ?_) (fun cq50 => ?_)
    · refine ei_aload_n X dX10_element_57 rfl rfl ?_
      refine ei_getf X fl_RX10_41 dX10_element_58 rfl rfl ?_
      refine ei_bipush (v := nI 100) X dX10_element_61 rfl ?_
      refine ei_iload_n X dX10_element_63 rfl rfl ?_
      refine ei_imul X dX10_element_64 ?_
      rw [nI_mul]
      refine ei_iload_n X dX10_element_65 rfl rfl ?_
      refine ei_iadd X dX10_element_66 ?_
      rw [nI_add]
      refine ei_laload_n X dX10_element_67 rfl (by first | omega | assumption) (by decide) ?_
      refine ei_lreturn X F dX10_element_68 ?_
      exact ⟨by rw [hd, hi]; unfold elemF; rw [if_pos he, hnc, hna, z9 a (by omega)], by rw [hd, hi, he]⟩
    · exact absurd (by decide) cq50
  refine ei_aload_n X dX10_element_0 rfl rfl ?_
  refine ei_iload_n X dX10_element_1 rfl rfl ?_
  refine ei_callI1 X ml_RX10_219 dX10_element_2 (ct_X10_wrongRow _ _ _ _ _ _ _ _ _ _ _ _ _ _ _ Z _ h_R) rfl rfl (by decide) (by decide) rfl (Nat.le_of_ble_eq_true rfl) ?_
  refine ei_istore_n X dX10_element_5 rfl (Nat.le_of_ble_eq_true rfl) rfl ?_
  refine ei_aload_n X dX10_element_6 rfl rfl ?_
  refine ei_iload_n X dX10_element_7 rfl rfl ?_
  refine ei_iconst (v := -1) X dX10_element_8 rfl ?_
  refine ei_icmp_ne (tgt := 16) X dX10_element_9 (by decide) (fun cq9 => ?_) (fun cq9 => ?_)
  · refine ei_iload_n X dX10_element_16 rfl rfl ?_
    refine ei_if_lt (tgt := 38) X dX10_element_17 (by decide) (fun cq17 => ?_) (fun cq17 => ?_)
    · refine ei_iconst (v := 2) X dX10_element_38 rfl ?_
      refine ei_goto (tgt := 43) X dX10_element_39 (by decide) ?_
      exact E2 2 (by decide) (by decide) (by unfold elemE; rw [if_neg cq9, if_neg (fun z => wrongRow_n.mp cq17 z.1)])
    · have w0 := wrongRow_ge.mp (Int32.not_lt.mp cq17)
      obtain ⟨k, hk, rfl, hz⟩ := wrongRow_0 w0
      have hnc : nc (nI k) = k := nc_nI (by omega)
      obtain ⟨o1, o2, o3, o4⟩ := h_R k hk
      obtain ⟨z7, z8, z9⟩ := o4 hz
      obtain ⟨hkk, hs⟩ := o1.2.2 hz
      simp only at z7 z8 z9
      refine ei_iload_n X dX10_element_20 rfl rfl ?_
      refine ei_i2l X dX10_element_21 ?_
      refine ei_lconst (v := 0) X dX10_element_22 rfl ?_
      refine ei_aload_n X dX10_element_23 rfl rfl ?_
      refine ei_getf X fl_RX10_38 dX10_element_24 rfl rfl ?_
      refine ei_iload_n X dX10_element_27 rfl rfl ?_
      refine ei_iaload_n X dX10_element_28 rfl (by first | omega | assumption) (by decide) ?_
      rw [z8]
      refine ei_iconst (v := 1) X dX10_element_29 rfl ?_
      refine ei_isub X dX10_element_30 ?_
      refine ei_i2l X dX10_element_31 ?_
      refine ei_callT1 X ml_RX10_84 dX10_element_32 (ct_X10_in _ _ _ _) rfl rfl (by decide) (by decide) (Nat.le_of_ble_eq_true rfl) ?_
      rw [inRow_iff hs]
      refine ei_ifz_ne (tgt := 42) X dX10_element_35 (by decide) (fun cq35 => ?_) (fun cq35 => ?_)
      · refine ei_iconst (v := 0) X dX10_element_42 rfl ?_
        have he : elemE Z (nI k) i = 0 := by unfold elemE; rw [if_neg cq9, hnc, if_pos ⟨w0, cq35⟩]
        obtain ⟨a, ha, rfl⟩ := (hasF_iff (by omega)).mp cq35
        have hna : nc (nI a) = a := nc_nI (by omega)
        exact E3 k a hk rfl rfl ha hs z9 he hnc hna
      · refine ei_iconst (v := 2) X dX10_element_38 rfl ?_
        refine ei_goto (tgt := 43) X dX10_element_39 (by decide) ?_
        exact E2 2 (by decide) (by decide) (by unfold elemE; rw [if_neg cq9, hnc, cq35, if_neg (fun z => absurd z.2 Bool.false_ne_true)])
  · refine ei_iconst (v := 1) X dX10_element_12 rfl ?_
    refine ei_goto (tgt := 43) X dX10_element_13 (by decide) ?_
    exact E2 1 (by decide) (by decide) (by unfold elemE; rw [if_pos cq9])

