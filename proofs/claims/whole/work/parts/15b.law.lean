/-! ===== the law's frame ===== -/
def l_rm : List Nat := [33, 34, 35, 36, 37, 38, 39, 40, 41, 42, 43, 44, 45, 46, 47, 48, 49, 50, 51, 52, 53]
def lC (N D T : St) (im : Bool) (Z : Nat → Sh) (be : Nat → Int32) (g : Nat → Int64) (S : St) (M : MX) : List eC := oH N D T im Z be ++ (el_o g ++ (mH S M).map (e_rn (e_rf l_rm)))
theorem lC_gM {N D T : St} {im : Bool} {Z : Nat → Sh} {be : Nat → Int32} {g : Nat → Int64} {S : St} {M : MX} : l_rm.map (fun k => (lC N D T im Z be g S M)[k]?) = (mH S M).map (fun c => some (e_rn (e_rf l_rm) c)) := rfl
theorem e_put_tail : ∀ (cs h2 h1 : List eC), cs.length = h2.length → e_put (h1 ++ h2) (List.range' h1.length cs.length) cs = h1 ++ cs
  | [], [], h1, _ => rfl
  | [], _ :: _, _, h => by cases h
  | _ :: _, [], _, h => by cases h
  | c :: cs, b :: h2, h1, h => by
    have h3 : cs.length = h2.length := Nat.succ.inj h
    have ih := e_put_tail cs h2 (h1 ++ [c]) h3
    rw [List.length_append, List.append_assoc, List.append_assoc] at ih
    show e_put ((h1 ++ b :: h2).set h1.length c) (List.range' (h1.length + 1) cs.length) cs = _
    rw [List.set_append_right _ _ (Nat.le_refl _), Nat.sub_self]
    exact ih
theorem lC_pM {N D T : St} {im : Bool} {Z : Nat → Sh} {be : Nat → Int32} {g : Nat → Int64} {S S2 : St} {M M2 : MX} : e_put (lC N D T im Z be g S M) l_rm ((mH S2 M2).map (e_rn (e_rf l_rm))) = lC N D T im Z be g S2 M2 := by
  have h1 : (mH S M).length = 21 := rfl
  have h2 : (mH S2 M2).length = 21 := rfl
  have h := e_put_tail ((mH S2 M2).map (e_rn (e_rf l_rm))) ((mH S M).map (e_rn (e_rf l_rm))) (oH N D T im Z be ++ el_o g) (by rw [List.length_map, List.length_map, h1, h2])
  rw [List.length_map, h2, List.append_assoc, List.append_assoc] at h
  exact h
theorem lC_len {N D T : St} {im : Bool} {Z : Nat → Sh} {be : Nat → Int32} {g : Nat → Int64} {S : St} {M : MX} : (lC N D T im Z be g S M).length = 54 := rfl
abbrev l_ls (k : Nat) : List (Option Value) := [some (.ref 1000), some (.ref 0), some (.ref 33), some (.ref 32), some (.int (nI (6 * k))), none, none, none]
def l_S (x : e_T) (L : Nat) (xs : Nat → Int32) : Prop := match x with
  | (_, _, _, _, s, _, _, _, _, _, _, _, _, ad, A, _, _, _, _, _) => va_X (ad 1000) L xs s s.heap ∧ ad 1000 < s.heap.size ∧ ¬ A (ad 1000)
section LK
variable {x : e_T} {own : String} {cc : ByteArray} {d pc : Nat} {ls : List (Option Value)} {st st0 : List Value} {h : List eC} {L : Nat} {xs : Nat → Int32}
variable {y : MethodName} {cq2 : ByteArray} {L2 idx ci n : Nat} {ret : Option FieldType} {d2 : Nat} {As : List Value} {P2 : Option Value → List eC → Prop}
theorem ei_sld {j : Nat} (X : e_X x own cc d) (hSc : l_S x L xs) (hdx : decode cc pc = .ok (.iaload, 1)) (hn : j < L) (hL : L ≤ 3072) (kk : e_E x (pc + 1) ls (.int (xs j) :: st) h) : e_E x pc ls (.int (nI j) :: .ref 1000 :: st) h := by
  obtain ⟨p, l, e, R, s, m, args, below, meth, c, dC, dI, dA, ad, A, N, nL, cells, slots, Q⟩ := x
  intro hL2 hN H locs la hP hS hl
  have h1 := kk hL2 hN H locs la hP hS hl
  have hj : (nI j).toNatClampNeg = j := nI_clamp (by omega)
  refine va_sld X.1 X.2.1 hSc.1 hSc.2.1 hSc.2.2 hS (vp_in_nI hn (by omega)) hdx ?_
  rw [hj]
  exact h1
theorem ei_slen (X : e_X x own cc d) (hSc : l_S x L xs) (hdx : decode cc pc = .ok (.arraylength, 1)) (kk : e_E x (pc + 1) ls (.int (nI L) :: st) h) : e_E x pc ls (.ref 1000 :: st) h := by
  obtain ⟨p, l, e, R, s, m, args, below, meth, c, dC, dI, dA, ad, A, N, nL, cells, slots, Q⟩ := x
  intro hL2 hN H locs la hP hS hl
  exact va_slen X.1 X.2.1 hSc.1 hSc.2.1 hSc.2.2 hS hdx (kk hL2 hN H locs la hP hS hl)
theorem l_arg {k : Nat} (j : Nat) {jc : Int} (X : e_X x own cc d) (hSc : l_S x L xs) (hL : L ≤ 3072) (hk : 6 * k + 6 ≤ L) (hj : j < 6) (hjc : Int32.ofInt jc = nI j) (d0 : decode cc pc = .ok (.aload_n 0, 1)) (d1 : decode cc (pc + 1) = .ok (.iload 4, 2)) (d3 : decode cc (pc + 3) = .ok (.iconst jc, 1)) (d4 : decode cc (pc + 4) = .ok (.iadd, 1)) (d5 : decode cc (pc + 5) = .ok (.iaload, 1))
    (hls0 : ls[0]? = some (some (.ref 1000))) (hls4 : ls[4]? = some (some (.int (nI (6 * k))))) (kk : e_E x (pc + 6) ls (.int (xs (6 * k + j)) :: st) h) : e_E x pc ls st h := by
  refine ei_aload_n (i := 0) X d0 rfl hls0 ?_
  refine ei_iload X d1 hls4 ?_
  refine ei_iconst (v := nI j) X d3 hjc ?_
  refine ei_iadd X d4 ?_
  rw [nI_add]
  exact ei_sld X hSc d5 (by omega) hL kk
theorem el_app2 {D : va_G} {dA : Nat → ClassId} {ad : Nat → Nat} {h h2 h' : List eC} {H H1 : Heap} (hP : va_P D vwCl (e_wd dA ad (h ++ h')) H) (h1 : va_P D vwCl (e_wd dA ad h2) H1) (hlen : h2.length = h.length) (hk : ∀ k, h.length ≤ k → k < (h ++ h').length → H1[ad k]? = H[ad k]?) : va_P D vwCl (e_wd dA ad (h2 ++ h')) H1 := by
  rw [e_wd_P] at hP h1 ⊢
  intro k c hc
  have hl := (List.getElem?_eq_some_iff.mp hc).1
  by_cases hkh : k < h2.length
  · refine h1 k c ?_
    rw [List.getElem?_append_left hkh] at hc
    exact hc
  · have hc2 : (h ++ h')[k]? = some c := by
      rw [List.getElem?_append_right (by omega)] at hc ⊢
      rw [hlen] at hc
      exact hc
    exact va_at.kept (hP k c hc2) (hk k (by omega) (by rw [List.length_append] at hl ⊢; omega))
/-- a call over the first of the cells -/
theorem ei_callP {hr h1 : List eC} (X : e_X x own cc d) (ml : e_MV own idx ci y cq2 L2 ret n) (hdx : decode cc pc = .ok (.invokevirtual idx, 3)) {b : Nat} (ct : e_Ct y cq2 L2 ret d2 (.ref b :: As) h1 P2)
    (hst : st0 = List.reverseAux (Value.ref b :: As) st) (hn : As.length = n) (hd2 : d2 < d) (hL2 : L2 ≤ 21) {fs : List Value} (hrc : h1[b]? = some (.inr (ci, fs)))
    (hcat : (st.map fun v => v.category).sum ≤ 8)
    (kk : ∀ (r : Option Value) (h2 : List eC), P2 r h2 → e_E x (pc + 3) ls (r.toList ++ st) (h2 ++ hr)) : e_E x pc ls st0 (h1 ++ hr) := by
  obtain ⟨p, l, e, R, s, m, args, below, meth, c, dC, dI, dA, ad, A, N, nL, cells, slots, Q⟩ := x
  intro hL hN H locs la hP hS hl
  subst hN
  have hle : h1.length ≤ (h1 ++ hr).length := by rw [List.length_append]; omega
  have hA2 : ∀ q, e_A ad h1.length q → A q := by
    rintro q ⟨k, hk, rfl⟩
    exact X.2.2.2.2.2.2.2.1 _ (Nat.lt_of_lt_of_le hk hle)
  have hR1 := X.2.2.2.2.2.2.2.2.1
  have hR2 := X.2.2.2.2.2.2.2.2.2.1
  have hK := X.2.2.2.2.2.1
  have hinj := X.2.2.2.2.2.2.1
  have hst' : st0.map (e_mv ad) = (As.map (e_mv ad)).reverse ++ .ref (ad b) :: st.map (e_mv ad) := by
    rw [hst, List.reverseAux_eq]
    simp [e_mv]
  obtain ⟨T0, N0, hci⟩ := ml.2.2.2.2.2.2
  have hmeth := ct l dC dI dA ad
  have hsum := e_cats ad st
  have hrc2 : (h1 ++ hr)[b]? = some (.inr (ci, fs)) := by rw [List.getElem?_append_left (List.getElem?_eq_some_iff.mp hrc).1]; exact hrc
  rw [hst']
  refine e_run (va_runV (As := As.map (e_mv ad)) (b := ad b) (rest := st.map (e_mv ad)) (Ts := e_ws) (own := own) (cc := cc) (nL := nL) (index := idx) (n := n) (C := y.cls) (bytes := cq2) (maxL := L2) (ret := ret) ⟨X.1, X.2.1, X.2.2.1, X.2.2.2.1, X.2.2.2.2.1⟩ hmeth (cwV n X.2.2.2.2.1 (e_goodV ml) rfl rfl rfl ⟨rfl, ml.2.2.2.2.2.1⟩ ⟨by show d2 + 1 ≤ _; omega, by show 8 + (L2 + 11) + 40 * d2 ≤ _; omega⟩)
    ⟨e_blind, va_recv hK hP (ci := ci) (q0 := b) hci (e_wd_get hrc2), fun U hU hW => ⟨by simp [e_mv], by rw [hU]; exact el_pre hP, va_K.moved hW.alike hK, fun i j hi hj => hinj i j (Nat.lt_of_lt_of_le hi hle) (Nat.lt_of_lt_of_le hj hle)⟩⟩ rfl (by simpa using hn) hl.1 rfl (lv_room (by rw [hsum]; exact hcat)) hdx ⟨X.2.2.2.2.2.2.2.2.2.2.1, X.2.2.2.2.2.2.2.2.2.2.2⟩) hS hA2 hA2 (fun r h2 H1 locs1 hn2 hp2 hPc hz hkeep hS1 => ?_)
  have hfin := kk r h2 hp2 hL (by rw [List.length_append, List.length_append, hn2]) H1 locs1 la ?_ hS1 hl
  · cases r with
    | none => simpa using hfin
    | some v => simpa using hfin
  · refine el_app2 hP hPc hn2 (fun k h3 h4 => hkeep _ (va_at.lt (e_wd_P.mp hP k _ (List.getElem?_eq_getElem h4))) ?_)
    rintro ⟨j, hj, hj2⟩
    have := hinj _ _ h4 (Nat.lt_of_lt_of_le hj hle) hj2
    omega
variable {N D T : St} {im : Bool} {Z : Nat → Sh} {be : Nat → Int32} {g : Nat → Int64} {S : St} {M : MX}
/-- a call of the face -/
theorem l_callF {v : Value} {N2 T2 : St} {im2 : Bool} {Z2 : Nat → Sh} (X : e_X x own cc d) (ml : e_MV own idx 3 y cq2 L2 ret n) (hdx : decode cc pc = .ok (.invokevirtual idx, 3)) (ct : e_Ct y cq2 L2 ret d2 (.ref 0 :: As) (oH N D T im Z be) (fP v N2 T2 im2 Z2))
    (hst : st0 = List.reverseAux (Value.ref 0 :: As) st) (hn : As.length = n) (hd2 : d2 < d) (hL2 : L2 ≤ 21) (hcat : (st.map fun v => v.category).sum ≤ 8)
    (kk : ∀ (D2 : St) (be2 : Nat → Int32), dg0 be2 → e_E x (pc + 3) ls (v :: st) (lC N2 D2 T2 im2 Z2 be2 g S M)) : e_E x pc ls st0 (lC N D T im Z be g S M) :=
  ei_callP (fs := [.ref 1, .ref 5, .ref 9, .int (bz im), .ref 13, .ref 30]) X ml hdx ct hst hn hd2 hL2 rfl hcat (fun r h2 hp => by
    obtain ⟨rfl, D2, be2, hb, rfl⟩ := hp
    exact kk D2 be2 hb)
/-- a call of the reference -/
theorem l_callM (X : e_X x own cc d) (ml : e_MV own idx 4 y cq2 L2 ret n) (hdx : decode cc pc = .ok (.invokevirtual idx, 3)) (ct : e_Ct y cq2 L2 ret d2 (.ref 0 :: As) (mH S M) P2)
    (hAs : As.map (e_mv (e_rf l_rm)) = As) (hst : st0 = List.reverseAux (Value.ref 33 :: As) st) (hn : As.length = n) (hd2 : d2 < d) (hL2 : L2 ≤ 21) (hcat : (st.map fun v => v.category).sum ≤ 8)
    (kk : ∀ (r : Option Value) (h2 : List eC), P2 r h2 → e_E x (pc + 3) ls ((r.map (e_mv (e_rf l_rm))).toList ++ st) (e_put (lC N D T im Z be g S M) l_rm (h2.map (e_rn (e_rf l_rm))))) : e_E x pc ls st0 (lC N D T im Z be g S M) := by
  obtain ⟨fs, hfs⟩ : ∃ fs, (lC N D T im Z be g S M)[e_rf l_rm 0]? = some (.inr (4, fs)) := ⟨_, rfl⟩
  refine ei_callV X ml hdx ct l_rm ?_ hn hd2 hL2 hfs hcat (by decide) lC_gM (fun r h2 _ hp => kk r h2 hp)
  rw [hst, List.map_cons, hAs]
  rfl
theorem l_callMP {v : Value} {S2 : St} (X : e_X x own cc d) (ml : e_MV own idx 4 y cq2 L2 ret n) (hdx : decode cc pc = .ok (.invokevirtual idx, 3)) (ct : e_Ct y cq2 L2 ret d2 (.ref 0 :: As) (mH S M) (mP (some v) S2 M))
    (hAs : As.map (e_mv (e_rf l_rm)) = As) (hv : e_mv (e_rf l_rm) v = v) (hst : st0 = List.reverseAux (Value.ref 33 :: As) st) (hn : As.length = n) (hd2 : d2 < d) (hL2 : L2 ≤ 21) (hcat : (st.map fun v => v.category).sum ≤ 8)
    (kk : ∀ M2, kM M M2 → e_E x (pc + 3) ls (v :: st) (lC N D T im Z be g S2 M2)) : e_E x pc ls st0 (lC N D T im Z be g S M) :=
  l_callM X ml hdx ct hAs hst hn hd2 hL2 hcat (fun r h2 hp => by
    obtain ⟨rfl, M2, hk, rfl⟩ := hp
    rw [lC_pM]
    show e_E x (pc + 3) ls (e_mv (e_rf l_rm) v :: st) _
    rw [hv]
    exact kk M2 hk)
theorem l_callMZ {v : Value} {S2 : St} {Z2 : Nat → Sh} {Z3 : Nat → Sh} (X : e_X x own cc d) (ml : e_MV own idx 4 y cq2 L2 ret n) (hdx : decode cc pc = .ok (.invokevirtual idx, 3)) (ct : e_Ct y cq2 L2 ret d2 (.ref 0 :: As) (mH S M) (mZ (some v) S2 Z2 M))
    (hAs : As.map (e_mv (e_rf l_rm)) = As) (hv : e_mv (e_rf l_rm) v = v) (hst : st0 = List.reverseAux (Value.ref 33 :: As) st) (hn : As.length = n) (hd2 : d2 < d) (hL2 : L2 ≤ 21) (hcat : (st.map fun v => v.category).sum ≤ 8)
    (kk : ∀ M2, kX M M2 → RS Z2 M2 → e_E x (pc + 3) ls (v :: st) (lC N D T im Z3 be g S2 M2)) : e_E x pc ls st0 (lC N D T im Z3 be g S M) :=
  l_callM X ml hdx ct hAs hst hn hd2 hL2 hcat (fun r h2 hp => by
    obtain ⟨rfl, M2, hk, hR, rfl⟩ := hp
    rw [lC_pM]
    show e_E x (pc + 3) ls (e_mv (e_rf l_rm) v :: st) _
    rw [hv]
    exact kk M2 hk hR)
theorem l_callME {v : Value} {S2 : St} {M2 : MX} (X : e_X x own cc d) (ml : e_MV own idx 4 y cq2 L2 ret n) (hdx : decode cc pc = .ok (.invokevirtual idx, 3)) (ct : e_Ct y cq2 L2 ret d2 (.ref 0 :: As) (mH S M) (e_eq (some v) (mH S2 M2)))
    (hAs : As.map (e_mv (e_rf l_rm)) = As) (hv : e_mv (e_rf l_rm) v = v) (hst : st0 = List.reverseAux (Value.ref 33 :: As) st) (hn : As.length = n) (hd2 : d2 < d) (hL2 : L2 ≤ 21) (hcat : (st.map fun v => v.category).sum ≤ 8)
    (kk : e_E x (pc + 3) ls (v :: st) (lC N D T im Z be g S2 M2)) : e_E x pc ls st0 (lC N D T im Z be g S M) :=
  l_callM X ml hdx ct hAs hst hn hd2 hL2 hcat (fun r h2 hp => by
    obtain ⟨rfl, rfl⟩ := hp
    rw [lC_pM]
    show e_E x (pc + 3) ls (e_mv (e_rf l_rm) v :: st) _
    rw [hv]
    exact kk)
theorem l_eqI {v : Int32} {off : Int} {tgt : Nat} (X : e_X x own cc d) (hdx : decode cc pc = .ok (.if_icmp .eq off, 3)) (ht : (pc : Int) + off = (tgt : Int)) (kt : e_E x tgt ls st h) : e_E x pc ls (.int v :: .int v :: st) h :=
  ei_icmp_eq X hdx ht (fun _ => kt) (fun q => absurd rfl q)
theorem lcmp_0 (v : Int64) : lg_cmp v v = 0 := by unfold lg_cmp; simp
theorem l_eqL {v : Int64} {off : Int} {tgt : Nat} (X : e_X x own cc d) (hdc : decode cc pc = .ok (.lcmp, 1)) (hdx : decode cc (pc + 1) = .ok (.ifCond .eq off, 3)) (ht : ((pc + 1 : Nat) : Int) + off = (tgt : Int)) (kt : e_E x tgt ls st h) : e_E x pc ls (.long v :: .long v :: st) h := by
  refine ei_lcmp X hdc ?_
  rw [lcmp_0]
  exact ei_if_eq X hdx ht (fun _ => kt) (fun q => absurd rfl q)
end LK

