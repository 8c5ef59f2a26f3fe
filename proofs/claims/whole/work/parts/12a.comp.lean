/-! ===== worlds of more than one object; a call over some of their cells ===== -/
section EL
variable {x : e_T} {own : String} {cc : ByteArray} {d pc : Nat} {ls : List (Option Value)} {st st0 : List Value} {h : List eC}
variable {y : MethodName} {cq2 : ByteArray} {L2 idx ci n : Nat} {ret : Option FieldType} {d2 : Nat} {As : List Value} {h1 h1' h' : List eC}
theorem ei_iushr {a b v : Int32} (X : e_X x own cc d) (hd : decode cc pc = .ok (.iushr, 1)) (hv : (a.toUInt32 >>> (b.toUInt32 &&& Int32.toUInt32 31)).toInt32 = v) (k : e_E x (pc + 1) ls (.int v :: st) h) : e_E x pc ls (.int b :: .int a :: st) h := by
  obtain ⟨p, l, e, R, s, m, args, below, meth, c, dC, dI, dA, ad, A, N, nL, cells, slots, Q⟩ := x
  intro hL hN H locs la hP hS hl
  exact lv_iushr X.1 X.2.1 hd hv (k hL hN H locs la hP hS hl)
theorem ei_cv0 (rho : List Nat) (hget : rho.map (fun k => h[k]?) = h1.map (fun c => some (e_rn (e_rf rho) c))) (hput : e_put h rho (h1'.map (e_rn (e_rf rho))) = h') (X : e_X x own cc d) (ml : e_MV own idx ci y cq2 L2 ret n) (hd : decode cc pc = .ok (.invokevirtual idx, 3)) {b : Nat} (ct : e_Ct y cq2 L2 ret d2 (.ref b :: As) h1 (e_eq none h1'))
    (hst : st0 = List.reverseAux ((Value.ref b :: As).map (e_mv (e_rf rho))) st) (hn : As.length = n) (hd2 : d2 < d) (hL2 : L2 ≤ 21) {fs : List Value} (hrc : h[e_rf rho b]? = some (.inr (ci, fs)))
    (hcat : (st.map fun v => v.category).sum ≤ 8) (hnd : rho.Nodup) (kk : e_E x (pc + 3) ls st h') : e_E x pc ls st0 h :=
  ei_callV X ml hd ct rho hst hn hd2 hL2 hrc hcat hnd hget (fun r h2 _ hp => by obtain ⟨rfl, rfl⟩ := hp; rw [hput]; exact kk)
theorem ei_cv1 {a : Int32} (rho : List Nat) (hget : rho.map (fun k => h[k]?) = h1.map (fun c => some (e_rn (e_rf rho) c))) (hput : e_put h rho (h1'.map (e_rn (e_rf rho))) = h') (X : e_X x own cc d) (ml : e_MV own idx ci y cq2 L2 ret n) (hd : decode cc pc = .ok (.invokevirtual idx, 3)) {b : Nat} (ct : e_Ct y cq2 L2 ret d2 (.ref b :: As) h1 (e_eq (some (.int a)) h1'))
    (hst : st0 = List.reverseAux ((Value.ref b :: As).map (e_mv (e_rf rho))) st) (hn : As.length = n) (hd2 : d2 < d) (hL2 : L2 ≤ 21) {fs : List Value} (hrc : h[e_rf rho b]? = some (.inr (ci, fs)))
    (hcat : (st.map fun v => v.category).sum ≤ 8) (hnd : rho.Nodup) (kk : e_E x (pc + 3) ls (.int a :: st) h') : e_E x pc ls st0 h :=
  ei_callV X ml hd ct rho hst hn hd2 hL2 hrc hcat hnd hget (fun r h2 _ hp => by obtain ⟨rfl, rfl⟩ := hp; rw [hput]; exact kk)
theorem ei_cs0 (rho : List Nat) (hget : rho.map (fun k => h[k]?) = h1.map (fun c => some (e_rn (e_rf rho) c))) (hput : e_put h rho (h1'.map (e_rn (e_rf rho))) = h') (X : e_X x own cc d) (ml : e_MS own idx y cq2 L2 ret n) (hd : decode cc pc = .ok (.invokestatic idx, 3)) (ct : e_Ct y cq2 L2 ret d2 As h1 (e_eq none h1'))
    (hst : st0 = List.reverseAux (As.map (e_mv (e_rf rho))) st) (hn : As.length = n) (hd2 : d2 < d) (hL2 : L2 ≤ 21)
    (hcat : (st.map fun v => v.category).sum ≤ 8) (hnd : rho.Nodup) (kk : e_E x (pc + 3) ls st h') : e_E x pc ls st0 h :=
  ei_callS X ml hd ct rho hst hn hd2 hL2 hcat hnd hget (fun r h2 _ hp => by obtain ⟨rfl, rfl⟩ := hp; rw [hput]; exact kk)
theorem ei_cs1 {a : Int32} (rho : List Nat) (hget : rho.map (fun k => h[k]?) = h1.map (fun c => some (e_rn (e_rf rho) c))) (hput : e_put h rho (h1'.map (e_rn (e_rf rho))) = h') (X : e_X x own cc d) (ml : e_MS own idx y cq2 L2 ret n) (hd : decode cc pc = .ok (.invokestatic idx, 3)) (ct : e_Ct y cq2 L2 ret d2 As h1 (e_eq (some (.int a)) h1'))
    (hst : st0 = List.reverseAux (As.map (e_mv (e_rf rho))) st) (hn : As.length = n) (hd2 : d2 < d) (hL2 : L2 ≤ 21)
    (hcat : (st.map fun v => v.category).sum ≤ 8) (hnd : rho.Nodup) (kk : e_E x (pc + 3) ls (.int a :: st) h') : e_E x pc ls st0 h :=
  ei_callS X ml hd ct rho hst hn hd2 hL2 hcat hnd hget (fun r h2 _ hp => by obtain ⟨rfl, rfl⟩ := hp; rw [hput]; exact kk)
/-- a call whose end is told by a predicate -/
theorem ei_cvP {P2 : Option Value → List eC → Prop} (rho : List Nat) (hget : rho.map (fun k => h[k]?) = h1.map (fun c => some (e_rn (e_rf rho) c))) (X : e_X x own cc d) (ml : e_MV own idx ci y cq2 L2 ret n) (hd : decode cc pc = .ok (.invokevirtual idx, 3)) {b : Nat} (ct : e_Ct y cq2 L2 ret d2 (.ref b :: As) h1 P2)
    (hst : st0 = List.reverseAux ((Value.ref b :: As).map (e_mv (e_rf rho))) st) (hn : As.length = n) (hd2 : d2 < d) (hL2 : L2 ≤ 21) {fs : List Value} (hrc : h[e_rf rho b]? = some (.inr (ci, fs)))
    (hcat : (st.map fun v => v.category).sum ≤ 8) (hnd : rho.Nodup) (kk : ∀ (r : Option Value) (h2 : List eC), P2 r h2 → e_E x (pc + 3) ls ((r.map (e_mv (e_rf rho))).toList ++ st) (e_put h rho (h2.map (e_rn (e_rf rho))))) : e_E x pc ls st0 h :=
  ei_callV X ml hd ct rho hst hn hd2 hL2 hrc hcat hnd hget (fun r h2 _ hp => kk r h2 hp)
theorem ei_csP {P2 : Option Value → List eC → Prop} (rho : List Nat) (hget : rho.map (fun k => h[k]?) = h1.map (fun c => some (e_rn (e_rf rho) c))) (X : e_X x own cc d) (ml : e_MS own idx y cq2 L2 ret n) (hd : decode cc pc = .ok (.invokestatic idx, 3)) (ct : e_Ct y cq2 L2 ret d2 As h1 P2)
    (hst : st0 = List.reverseAux (As.map (e_mv (e_rf rho))) st) (hn : As.length = n) (hd2 : d2 < d) (hL2 : L2 ≤ 21)
    (hcat : (st.map fun v => v.category).sum ≤ 8) (hnd : rho.Nodup) (kk : ∀ (r : Option Value) (h2 : List eC), P2 r h2 → e_E x (pc + 3) ls ((r.map (e_mv (e_rf rho))).toList ++ st) (e_put h rho (h2.map (e_rn (e_rf rho))))) : e_E x pc ls st0 h :=
  ei_callS X ml hd ct rho hst hn hd2 hL2 hcat hnd hget (fun r h2 _ hp => kk r h2 hp)
end EL
/-- a string's cells from o on; a shelf's -/
def lHp (o : Nat) (S : St) : List eC := [.inr (1, [.ref (o + 1), .ref (o + 2), .ref (o + 3), .int (nI (sN S)), .int (sW S), .int (sE S), .int (sP S), .int (sH S), .int (sL S), .int (sD S), .int (sC S)]), .inl (0, 10, .inl (sO S)), .inl (0, 10, .inl (sG S)), .inl (0, 10, .inl (sR S))]
def shC (o : Nat) (z : Sh) : List eC := [.inr (2, [.int (zH z), .int (zS z), .int (zF z), .int (zK z), .int (nI (zN z)), .ref (o + 1)]), .inl (0, 100, .inl (zC z))]
def lz (S : St) (z : Sh) : List eC := lHp 0 S ++ shC 4 z
def bH (f : Nat → Int32) : List eC := [.inr (0, [.ref 1]), .inl (0, 100, .inl f)]
def bl (f : Nat → Int32) (S : St) : List eC := bH f ++ lHp 2 S
def ll (S T : St) : List eC := lHp 0 S ++ lHp 4 T
theorem lz_gL (S : St) (z : Sh) : [0, 1, 2, 3].map (fun k => (lz S z)[k]?) = (lH S).map (fun c => some (e_rn (e_rf [0, 1, 2, 3]) c)) := rfl
theorem lz_pL (S : St) (z : Sh) (S2 : St) : e_put (lz S z) [0, 1, 2, 3] ((lH S2).map (e_rn (e_rf [0, 1, 2, 3]))) = lz S2 z := rfl
theorem lz_gZ (S : St) (z : Sh) : [4, 5].map (fun k => (lz S z)[k]?) = (shC 0 z).map (fun c => some (e_rn (e_rf [4, 5]) c)) := rfl
theorem lz_pZ (S : St) (z z2 : Sh) : e_put (lz S z) [4, 5] ((shC 0 z2).map (e_rn (e_rf [4, 5]))) = lz S z2 := rfl
theorem bl_gB (f : Nat → Int32) (S : St) : [0, 1].map (fun k => (bl f S)[k]?) = (bH f).map (fun c => some (e_rn (e_rf [0, 1]) c)) := rfl
theorem bl_pB (f : Nat → Int32) (S : St) (g : Nat → Int32) : e_put (bl f S) [0, 1] ((bH g).map (e_rn (e_rf [0, 1]))) = bl g S := rfl
theorem bl_gL (f : Nat → Int32) (S : St) : [2, 3, 4, 5].map (fun k => (bl f S)[k]?) = (lH S).map (fun c => some (e_rn (e_rf [2, 3, 4, 5]) c)) := rfl
theorem bl_pL (f : Nat → Int32) (S S2 : St) : e_put (bl f S) [2, 3, 4, 5] ((lH S2).map (e_rn (e_rf [2, 3, 4, 5]))) = bl f S2 := rfl
abbrev zFl (o : Nat) (z : Sh) : List Value := [.int (zH z), .int (zS z), .int (zF z), .int (zK z), .int (nI (zN z)), .ref (o + 1)]
theorem pz_0 (z : Sh) (v : Int32) : (shC 0 z).set 0 (.inr (2, (zFl 0 z).set 0 (.int v))) = shC 0 (v, zS z, zF z, zK z, zN z, zC z) := rfl
theorem pz_1 (z : Sh) (v : Int32) : (shC 0 z).set 0 (.inr (2, (zFl 0 z).set 1 (.int v))) = shC 0 (zH z, v, zF z, zK z, zN z, zC z) := rfl
theorem pz_2 (z : Sh) (v : Int32) : (shC 0 z).set 0 (.inr (2, (zFl 0 z).set 2 (.int v))) = shC 0 (zH z, zS z, v, zK z, zN z, zC z) := rfl
theorem pz_3 (z : Sh) (v : Int32) : (shC 0 z).set 0 (.inr (2, (zFl 0 z).set 3 (.int v))) = shC 0 (zH z, zS z, zF z, v, zN z, zC z) := rfl
theorem pz_4 (z : Sh) (v : Nat) : (shC 0 z).set 0 (.inr (2, (zFl 0 z).set 4 (.int (nI v)))) = shC 0 (zH z, zS z, zF z, zK z, v, zC z) := rfl
theorem pz_c (z : Sh) (g : Nat → Int32) : (shC 0 z).set 1 (.inl (0, 100, .inl g)) = shC 0 (zH z, zS z, zF z, zK z, zN z, g) := rfl
theorem pb_c (f g : Nat → Int32) : (bH f).set 1 (.inl (0, 100, .inl g)) = bH g := rfl
/-! ===== shelves ===== -/
set_option maxRecDepth 100000 in
set_option maxHeartbeats 1000000 in
theorem ct_X4_getNothing (z : Sh) : e_Ct yX4_getNothing cX4_getNothing 1 none 1 [.ref 0] (shC 0 z) (e_eq none (shC 0 (0, zS z, zF z, zK z, zN z, zC z))) := by
  refine e_open RX4 rfl (by decide +kernel) rfl (fun _ => Nat.le_of_ble_eq_true rfl) (fun x X F => ?_)
  refine ei_aload_n X dX4_getNothing_0 rfl rfl ?_
  refine ei_iconst (v := 0) X dX4_getNothing_1 rfl ?_
  refine ei_puti X fp_RX4_11 dX4_getNothing_2 rfl (Nat.le_of_ble_eq_true rfl) (pz_0 _ _) ?_
  refine ei_vreturn X F dX4_getNothing_5 ?_
  exact ⟨rfl, rfl⟩
set_option maxRecDepth 100000 in
set_option maxHeartbeats 1000000 in
theorem ct_X4_getBulb (z : Sh) (ks fg : Int32) : e_Ct yX4_getBulb cX4_getBulb 3 none 1 [.ref 0, .int ks, .int fg] (shC 0 z) (e_eq none (shC 0 (1, ks, fg, zK z, zN z, zC z))) := by
  refine e_open RX4 rfl (by decide +kernel) rfl (fun _ => Nat.le_of_ble_eq_true rfl) (fun x X F => ?_)
  refine ei_aload_n X dX4_getBulb_0 rfl rfl ?_
  refine ei_iconst (v := 1) X dX4_getBulb_1 rfl ?_
  refine ei_puti X fp_RX4_11 dX4_getBulb_2 rfl (Nat.le_of_ble_eq_true rfl) (pz_0 _ _) ?_
  refine ei_aload_n X dX4_getBulb_5 rfl rfl ?_
  refine ei_iload_n X dX4_getBulb_6 rfl rfl ?_
  refine ei_puti X fp_RX4_19 dX4_getBulb_7 rfl (Nat.le_of_ble_eq_true rfl) (pz_1 _ _) ?_
  refine ei_aload_n X dX4_getBulb_10 rfl rfl ?_
  refine ei_iload_n X dX4_getBulb_11 rfl rfl ?_
  refine ei_puti X fp_RX4_22 dX4_getBulb_12 rfl (Nat.le_of_ble_eq_true rfl) (pz_2 _ _) ?_
  refine ei_vreturn X F dX4_getBulb_15 ?_
  exact ⟨rfl, rfl⟩
set_option maxRecDepth 100000 in
set_option maxHeartbeats 1000000 in
theorem ct_X4_hasPlace (z : Sh) (i : Int32) (h_z : zN z ≤ 100) : e_Ct yX4_hasPlace cX4_hasPlace 2 (some .boolean) 1 [.ref 0, .int i] (shC 0 z) (e_eq (some (.int (bz (inRow z i)))) (shC 0 z)) := by
  refine e_open RX4 rfl (by decide +kernel) rfl (fun _ => Nat.le_of_ble_eq_true rfl) (fun x X F => ?_)
  refine ei_iload_n X dX4_hasPlace_0 rfl rfl ?_
  refine ei_if_lt (tgt := 16) X dX4_hasPlace_1 (by decide) (fun cq1 => ?_) (fun cq1 => ?_)
  · refine ei_iconst (v := 0) X dX4_hasPlace_16 rfl ?_
    refine ei_zreturn X F dX4_hasPlace_17 (by decide) ?_
    exact ⟨by unfold inRow hasF; rw [decide_eq_false (Int32.not_le.mpr cq1)]; rfl, rfl⟩
  · refine ei_iload_n X dX4_hasPlace_4 rfl rfl ?_
    refine ei_aload_n X dX4_hasPlace_5 rfl rfl ?_
    refine ei_getf X fl_RX4_28 dX4_hasPlace_6 rfl rfl ?_
    refine ei_icmp_ge (tgt := 16) X dX4_hasPlace_9 (by decide) (fun cq9 => ?_) (fun cq9 => ?_)
    · refine ei_iconst (v := 0) X dX4_hasPlace_16 rfl ?_
      refine ei_zreturn X F dX4_hasPlace_17 (by decide) ?_
      exact ⟨by unfold inRow hasF; rw [decide_eq_false (Int32.not_lt.mpr cq9), Bool.and_false]; rfl, rfl⟩
    · refine ei_iconst (v := 1) X dX4_hasPlace_12 rfl ?_
      refine ei_goto (tgt := 17) X dX4_hasPlace_13 (by decide) ?_
      refine ei_zreturn X F dX4_hasPlace_17 (by decide) ?_
      exact ⟨by unfold inRow hasF; rw [decide_eq_true (Int32.not_le.mp cq9), decide_eq_true (Int32.not_lt.mp cq1)]; rfl, rfl⟩
def hasSt (z : Sh) (i m : Int32) : Bool := decide (0 ≤ m) && (decide (m ≤ nI (zN z)) && (decide (0 ≤ i) && decide (i ≤ nI (zN z) - m)))
set_option maxRecDepth 100000 in
set_option maxHeartbeats 1000000 in
theorem ct_X4_hasStretch (z : Sh) (i m : Int32) : e_Ct yX4_hasStretch cX4_hasStretch 3 (some .boolean) 1 [.ref 0, .int i, .int m] (shC 0 z) (e_eq (some (.int (bz (hasSt z i m)))) (shC 0 z)) := by
  refine e_open RX4 rfl (by decide +kernel) rfl (fun _ => Nat.le_of_ble_eq_true rfl) (fun x X F => ?_)
  refine ei_iload_n X dX4_hasStretch_0 rfl rfl ?_
  refine ei_if_lt (tgt := 30) X dX4_hasStretch_1 (by decide) (fun cq1 => ?_) (fun cq1 => ?_)
  · refine ei_iconst (v := 0) X dX4_hasStretch_30 rfl ?_
    refine ei_zreturn X F dX4_hasStretch_31 (by decide) ?_
    exact ⟨by unfold hasSt; rw [decide_eq_false (Int32.not_le.mpr cq1)]; rfl, rfl⟩
  · refine ei_iload_n X dX4_hasStretch_4 rfl rfl ?_
    refine ei_aload_n X dX4_hasStretch_5 rfl rfl ?_
    refine ei_getf X fl_RX4_28 dX4_hasStretch_6 rfl rfl ?_
    refine ei_icmp_gt (tgt := 30) X dX4_hasStretch_9 (by decide) (fun cq9 => ?_) (fun cq9 => ?_)
    · refine ei_iconst (v := 0) X dX4_hasStretch_30 rfl ?_
      refine ei_zreturn X F dX4_hasStretch_31 (by decide) ?_
      exact ⟨by unfold hasSt; rw [decide_eq_false (Int32.not_le.mpr cq9), Bool.false_and, Bool.and_false]; rfl, rfl⟩
    · refine ei_iload_n X dX4_hasStretch_12 rfl rfl ?_
      refine ei_if_lt (tgt := 30) X dX4_hasStretch_13 (by decide) (fun cq13 => ?_) (fun cq13 => ?_)
      · refine ei_iconst (v := 0) X dX4_hasStretch_30 rfl ?_
        refine ei_zreturn X F dX4_hasStretch_31 (by decide) ?_
        exact ⟨by unfold hasSt; rw [decide_eq_false (Int32.not_le.mpr cq13), Bool.false_and, Bool.and_false, Bool.and_false]; rfl, rfl⟩
      · refine ei_iload_n X dX4_hasStretch_16 rfl rfl ?_
        refine ei_aload_n X dX4_hasStretch_17 rfl rfl ?_
        refine ei_getf X fl_RX4_28 dX4_hasStretch_18 rfl rfl ?_
        refine ei_iload_n X dX4_hasStretch_21 rfl rfl ?_
        refine ei_isub X dX4_hasStretch_22 ?_
        refine ei_icmp_gt (tgt := 30) X dX4_hasStretch_23 (by decide) (fun cq23 => ?_) (fun cq23 => ?_)
        · refine ei_iconst (v := 0) X dX4_hasStretch_30 rfl ?_
          refine ei_zreturn X F dX4_hasStretch_31 (by decide) ?_
          exact ⟨by unfold hasSt; rw [decide_eq_false (Int32.not_le.mpr cq23), Bool.and_false, Bool.and_false, Bool.and_false]; rfl, rfl⟩
        · refine ei_iconst (v := 1) X dX4_hasStretch_26 rfl ?_
          refine ei_goto (tgt := 31) X dX4_hasStretch_27 (by decide) ?_
          refine ei_zreturn X F dX4_hasStretch_31 (by decide) ?_
          exact ⟨by unfold hasSt; rw [decide_eq_true (Int32.not_lt.mp cq1), decide_eq_true (Int32.not_lt.mp cq9), decide_eq_true (Int32.not_lt.mp cq13), decide_eq_true (Int32.not_lt.mp cq23)]; rfl, rfl⟩
set_option maxRecDepth 100000 in
set_option maxHeartbeats 1000000 in
theorem ct_X4_getRow (z : Sh) (s0 : Int32) (m : Nat) : e_Ct yX4_getRow cX4_getRow 4 none 1 [.ref 0, .int s0, .int (nI m)] (shC 0 z) (e_eq none (shC 0 (2, zS z, zF z, s0, m, fun _ => 0))) := by
  refine e_open RX4 rfl (by decide +kernel) rfl (fun _ => Nat.le_of_ble_eq_true rfl) (fun x X F => ?_)
  have L : ∀ (c i : Nat) (f : Nat → Int32), 100 - i < c → i ≤ 100 → (∀ j, j < i → f j = 0) → e_E x 17 [some (.ref 0), some (.int s0), some (.int (nI m)), some (.int (nI i))] [] (shC 0 (2, zS z, zF z, s0, m, f)) := by
    intro c
    induction c with
    | zero => intro i f hc; exact absurd hc (Nat.not_lt_zero _)
    | succ c ih =>
      intro i f hc hi hf
      refine ei_iload_n X dX4_getRow_17 rfl rfl ?_
      refine ei_bipush (v := nI 100) X dX4_getRow_18 rfl ?_
      refine ei_icmpn_ge (tgt := 36) X dX4_getRow_20 (by decide) (by first | omega | assumption) (by first | omega | assumption) (fun cq20 => ?_) (fun cq20 => ?_)
      · refine ei_exti (k := 1) (fun _ => 0) rfl (fun j hj => hf j (by omega)) (pz_c _ _) ?_
        refine ei_vreturn X F dX4_getRow_36 ?_
        exact ⟨rfl, rfl⟩
      · refine ei_aload_n X dX4_getRow_23 rfl rfl ?_
        refine ei_getf X fl_RX4_15 dX4_getRow_24 rfl rfl ?_
        refine ei_iload_n X dX4_getRow_27 rfl rfl ?_
        refine ei_iconst (v := 0) X dX4_getRow_28 rfl ?_
        refine ei_iastore_n X dX4_getRow_29 rfl (by first | omega | assumption) (by decide) (pz_c _ _) ?_
        refine ei_iinc_n X dX4_getRow_30 rfl rfl ?_
        refine ei_goto (tgt := 17) X dX4_getRow_33 (by decide) ?_
        exact ih (i + 1) _ (by omega) (by omega) (fun j hj => by by_cases e : j = i; (· subst e; exact pk_us); (· rw [pk_un e]; exact hf j (by omega)))
  refine ei_aload_n X dX4_getRow_0 rfl rfl ?_
  refine ei_iconst (v := 2) X dX4_getRow_1 rfl ?_
  refine ei_puti X fp_RX4_11 dX4_getRow_2 rfl (Nat.le_of_ble_eq_true rfl) (pz_0 _ _) ?_
  refine ei_aload_n X dX4_getRow_5 rfl rfl ?_
  refine ei_iload_n X dX4_getRow_6 rfl rfl ?_
  refine ei_puti X fp_RX4_25 dX4_getRow_7 rfl (Nat.le_of_ble_eq_true rfl) (pz_3 _ _) ?_
  refine ei_aload_n X dX4_getRow_10 rfl rfl ?_
  refine ei_iload_n X dX4_getRow_11 rfl rfl ?_
  refine ei_puti X fp_RX4_28 dX4_getRow_12 rfl (Nat.le_of_ble_eq_true rfl) (pz_4 _ _) ?_
  refine ei_iconst (v := nI 0) X dX4_getRow_15 rfl ?_
  refine ei_istore_n X dX4_getRow_16 rfl (Nat.le_of_ble_eq_true rfl) rfl ?_
  exact L 101 0 _ (by omega) (by omega) (fun j hj => absurd hj (Nat.not_lt_zero _))
set_option maxRecDepth 100000 in
set_option maxHeartbeats 1000000 in
theorem ct_X4_set (z : Sh) (i : Nat) (v : Int32) (h_i : i < 100) (h_k : zK z = 0 ∨ zK z = 1 ∨ zK z = 2) : e_Ct yX4_set cX4_set 3 none 1 [.ref 0, .int (nI i), .int v] (shC 0 z) (e_eq none (shC 0 (zH z, zS z, zF z, zK z, zN z, upd (zC z) i (narI v (zK z))))) := by
  refine e_open RX4 rfl (by decide +kernel) rfl (fun _ => Nat.le_of_ble_eq_true rfl) (fun x X F => ?_)
  refine ei_aload_n X dX4_set_0 rfl rfl ?_
  refine ei_getf X fl_RX4_25 dX4_set_1 rfl rfl ?_
  refine ei_if_ne (tgt := 18) X dX4_set_4 (by decide) (fun cq4 => ?_) (fun cq4 => ?_)
  · refine ei_aload_n X dX4_set_18 rfl rfl ?_
    refine ei_getf X fl_RX4_25 dX4_set_19 rfl rfl ?_
    refine ei_iconst (v := 1) X dX4_set_22 rfl ?_
    refine ei_icmp_ne (tgt := 37) X dX4_set_23 (by decide) (fun cq23 => ?_) (fun cq23 => ?_)
    · refine ei_aload_n X dX4_set_37 rfl rfl ?_
      refine ei_getf X fl_RX4_15 dX4_set_38 rfl rfl ?_
      refine ei_iload_n X dX4_set_41 rfl rfl ?_
      refine ei_iload_n X dX4_set_42 rfl rfl ?_
      refine ei_iastore_n X dX4_set_43 rfl (by first | omega | assumption) (by decide) (pz_c _ _) ?_
      refine ei_vreturn X F dX4_set_44 ?_
      exact ⟨rfl, by unfold narI; rw [if_neg cq4, if_neg cq23]⟩
    · refine ei_aload_n X dX4_set_26 rfl rfl ?_
      refine ei_getf X fl_RX4_15 dX4_set_27 rfl rfl ?_
      refine ei_iload_n X dX4_set_30 rfl rfl ?_
      refine ei_iload_n X dX4_set_31 rfl rfl ?_
      refine ei_i2s X dX4_set_32 ?_
      refine ei_iastore_n X dX4_set_33 rfl (by first | omega | assumption) (by decide) (pz_c _ _) ?_
      refine ei_goto (tgt := 44) X dX4_set_34 (by decide) ?_
      refine ei_vreturn X F dX4_set_44 ?_
      exact ⟨rfl, by unfold narI; rw [if_neg cq4, if_pos cq23]⟩
  · refine ei_aload_n X dX4_set_7 rfl rfl ?_
    refine ei_getf X fl_RX4_15 dX4_set_8 rfl rfl ?_
    refine ei_iload_n X dX4_set_11 rfl rfl ?_
    refine ei_iload_n X dX4_set_12 rfl rfl ?_
    refine ei_i2b X dX4_set_13 ?_
    refine ei_iastore_n X dX4_set_14 rfl (by first | omega | assumption) (by decide) (pz_c _ _) ?_
    refine ei_goto (tgt := 44) X dX4_set_15 (by decide) ?_
    refine ei_vreturn X F dX4_set_44 ?_
    exact ⟨rfl, by unfold narI; rw [if_pos cq4]⟩
set_option maxRecDepth 100000 in
set_option maxHeartbeats 1000000 in
theorem ct_X4_isSkipped (z : Sh) (i : Nat) (h_i : i < 100) : e_Ct yX4_isSkipped cX4_isSkipped 2 (some .boolean) 1 [.ref 0, .int (nI i)] (shC 0 z) (e_eq (some (.int (bz (skipF z i)))) (shC 0 z)) := by
  refine e_open RX4 rfl (by decide +kernel) rfl (fun _ => Nat.le_of_ble_eq_true rfl) (fun x X F => ?_)
  refine ei_aload_n X dX4_isSkipped_0 rfl rfl ?_
  refine ei_getf X fl_RX4_25 dX4_isSkipped_1 rfl rfl ?_
  refine ei_if_ne (tgt := 24) X dX4_isSkipped_4 (by decide) (fun cq4 => ?_) (fun cq4 => ?_)
  · refine ei_aload_n X dX4_isSkipped_24 rfl rfl ?_
    refine ei_getf X fl_RX4_15 dX4_isSkipped_25 rfl rfl ?_
    refine ei_iload_n X dX4_isSkipped_28 rfl rfl ?_
    refine ei_iaload_n X dX4_isSkipped_29 rfl (by first | omega | assumption) (by decide) ?_
    refine ei_aload_n X dX4_isSkipped_30 rfl rfl ?_
    refine ei_getf X fl_RX4_25 dX4_isSkipped_31 rfl rfl ?_
    refine ei_iconst (v := 1) X dX4_isSkipped_34 rfl ?_
    refine ei_icmp_ne (tgt := 44) X dX4_isSkipped_35 (by decide) (fun cq35 => ?_) (fun cq35 => ?_)
    · refine ei_ldc X cw_RX4_31 dX4_isSkipped_44 ?_
      refine ei_icmp_ne (tgt := 53) X dX4_isSkipped_46 (by decide) (fun cq46 => ?_) (fun cq46 => ?_)
      · refine ei_iconst (v := 0) X dX4_isSkipped_53 rfl ?_
        refine ei_zreturn X F dX4_isSkipped_54 (by decide) ?_
        exact ⟨by simp_all [skipF, leastI, bz], rfl⟩
      · refine ei_iconst (v := 1) X dX4_isSkipped_49 rfl ?_
        refine ei_goto (tgt := 54) X dX4_isSkipped_50 (by decide) ?_
        refine ei_zreturn X F dX4_isSkipped_54 (by decide) ?_
        exact ⟨by simp_all [skipF, leastI, bz], rfl⟩
    · refine ei_sipush (v := -32768) X dX4_isSkipped_38 rfl ?_
      refine ei_goto (tgt := 46) X dX4_isSkipped_41 (by decide) ?_
      refine ei_icmp_ne (tgt := 53) X dX4_isSkipped_46 (by decide) (fun cq46 => ?_) (fun cq46 => ?_)
      · refine ei_iconst (v := 0) X dX4_isSkipped_53 rfl ?_
        refine ei_zreturn X F dX4_isSkipped_54 (by decide) ?_
        exact ⟨by simp_all [skipF, leastI, bz], rfl⟩
      · refine ei_iconst (v := 1) X dX4_isSkipped_49 rfl ?_
        refine ei_goto (tgt := 54) X dX4_isSkipped_50 (by decide) ?_
        refine ei_zreturn X F dX4_isSkipped_54 (by decide) ?_
        exact ⟨by simp_all [skipF, leastI, bz], rfl⟩
  · refine ei_aload_n X dX4_isSkipped_7 rfl rfl ?_
    refine ei_getf X fl_RX4_15 dX4_isSkipped_8 rfl rfl ?_
    refine ei_iload_n X dX4_isSkipped_11 rfl rfl ?_
    refine ei_iaload_n X dX4_isSkipped_12 rfl (by first | omega | assumption) (by decide) ?_
    refine ei_bipush (v := -128) X dX4_isSkipped_13 rfl ?_
    refine ei_icmp_ne (tgt := 22) X dX4_isSkipped_15 (by decide) (fun cq15 => ?_) (fun cq15 => ?_)
    · refine ei_iconst (v := 0) X dX4_isSkipped_22 rfl ?_
      refine ei_zreturn X F dX4_isSkipped_23 (by decide) ?_
      exact ⟨by simp_all [skipF, leastI, bz], rfl⟩
    · refine ei_iconst (v := 1) X dX4_isSkipped_18 rfl ?_
      refine ei_goto (tgt := 23) X dX4_isSkipped_19 (by decide) ?_
      refine ei_zreturn X F dX4_isSkipped_23 (by decide) ?_
      exact ⟨by simp_all [skipF, leastI, bz], rfl⟩
/-- up to the last that tells something -/
def told1 (z : Sh) (a i : Nat) : Nat := if skipF z i = true then a else i + 1
def toldN (z : Sh) : Nat := itr (told1 z) 0 0 (zN z)
set_option maxRecDepth 100000 in
set_option maxHeartbeats 1000000 in
theorem ct_X4_toldSize (z : Sh) (h_z : zN z ≤ 100) : e_Ct yX4_toldSize cX4_toldSize 3 (some .int) 2 [.ref 0] (shC 0 z) (e_eq (some (.int (nI (toldN z)))) (shC 0 z)) := by
  refine e_open RX4 rfl (by decide +kernel) rfl (fun _ => Nat.le_of_ble_eq_true rfl) (fun x X F => ?_)
  have L : ∀ (c i a : Nat), zN z - i < c → i ≤ 100 → toldN z = itr (told1 z) a i (zN z - i) → e_E x 4 [some (.ref 0), some (.int (nI a)), some (.int (nI i))] [] (shC 0 z) := by
    intro c
    induction c with
    | zero => intro i a hc; exact absurd hc (Nat.not_lt_zero _)
    | succ c ih =>
      intro i a hc hi hv
      refine ei_iload_n X dX4_toldSize_4 rfl rfl ?_
      refine ei_aload_n X dX4_toldSize_5 rfl rfl ?_
      refine ei_getf X fl_RX4_28 dX4_toldSize_6 rfl rfl ?_
      refine ei_icmpn_ge (tgt := 30) X dX4_toldSize_9 (by decide) (by first | omega | assumption) (by first | omega | assumption) (fun cq9 => ?_) (fun cq9 => ?_)
      · refine ei_iload_n X dX4_toldSize_30 rfl rfl ?_
        refine ei_ireturn X F dX4_toldSize_31 ?_
        exact ⟨by rw [hv, itr_ge _ _ (by omega)], rfl⟩
      · refine ei_aload_n X dX4_toldSize_12 rfl rfl ?_
        refine ei_iload_n X dX4_toldSize_13 rfl rfl ?_
        refine ei_callI1 X ml_RX4_32 dX4_toldSize_14 (ct_X4_isSkipped _ _ (by first | omega | assumption)) rfl rfl (by decide) (by decide) rfl (Nat.le_of_ble_eq_true rfl) ?_
        refine ei_ifz_ne (tgt := 24) X dX4_toldSize_17 (by decide) (fun cq17 => ?_) (fun cq17 => ?_)
        · refine ei_iinc_n X dX4_toldSize_24 rfl rfl ?_
          refine ei_goto (tgt := 4) X dX4_toldSize_27 (by decide) ?_
          exact ih (i + 1) a (by omega) (by omega) (by rw [hv, itr_lt _ _ (by omega)]; congr 1; unfold told1; rw [if_pos cq17])
        · refine ei_iload_n X dX4_toldSize_20 rfl rfl ?_
          refine ei_iconst (v := nI 1) X dX4_toldSize_21 rfl ?_
          refine ei_iadd X dX4_toldSize_22 ?_
          rw [nI_add]
          refine ei_istore_n X dX4_toldSize_23 rfl (Nat.le_of_ble_eq_true rfl) rfl ?_
          refine ei_iinc_n X dX4_toldSize_24 rfl rfl ?_
          refine ei_goto (tgt := 4) X dX4_toldSize_27 (by decide) ?_
          exact ih (i + 1) (i + 1) (by omega) (by omega) (by rw [hv, itr_lt _ _ (by omega)]; congr 1; unfold told1; rw [if_neg (by rw [cq17]; exact Bool.false_ne_true)])
  refine ei_iconst (v := nI 0) X dX4_toldSize_0 rfl ?_
  refine ei_istore_n X dX4_toldSize_1 rfl (Nat.le_of_ble_eq_true rfl) rfl ?_
  refine ei_iconst (v := nI 0) X dX4_toldSize_2 rfl ?_
  refine ei_istore_n X dX4_toldSize_3 rfl (Nat.le_of_ble_eq_true rfl) rfl ?_
  exact L (zN z + 1) 0 0 (by omega) (by omega) rfl

