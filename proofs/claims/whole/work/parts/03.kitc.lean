theorem e_mv_ref (ad : Nat → Nat) (k : Nat) : e_mv ad (.ref k) = .ref (ad k) := rfl
section EC
variable {p : Program} {l : Launch} {e : Env} {R : Room} {s : State} {m : MethodId} {args : Array Value} {below : List Frame} {meth : Method} {c : Code} {H : Heap} {locs : List Loc} {cells slots : Nat} {Q : State → Prop}
variable {dC : Nat → ClassId} {dI : Nat → Nat → Nat} {dA : Nat → ClassId} {ad2 : Nat → Nat} {A A2 : Nat → Prop} {n2 : Nat} {P2 : Option Value → List eC → Prop} {free : Addr → Prop}
theorem e_run {pc : Nat} {la : Array Slot} {rest st0 : List Value} {a : Array Value} (hr : va_Run p l e R s m args below meth c H locs cells slots 0 0 (F0 m pc la st0) rest (e_Q dC dI dA ad2 A2 n2 P2 a) free) {H0 : Heap} (hS : va_S A H0 H locs) (hA : ∀ q, A2 q → A q) (hf : ∀ q, free q → A q)
    (kk : ∀ (r : Option Value) (h2 : List eC) (H1 : Heap) (locs1 : List Loc), h2.length = n2 → P2 r h2 → va_P (dC, dI) vwCl (e_wd dA ad2 h2) H1 → H.size ≤ H1.size → (∀ q : Nat, q < H.size → ¬ A2 q → H1[q]? = H[q]?) → va_S A H0 H1 locs1 → W p l e R s m args below meth c H1 locs1 cells slots Q (F0 m (pc + 3) la ((r.map (e_mv ad2)).toList ++ rest))) : W p l e R s m args below meth c H locs cells slots Q (F0 m pc la st0) := by
  intro T hT X
  obtain ⟨v, st₀, t, T', L, h0, X', hL, e1, e2, ⟨⟨r, h2, hn, hp, hv, hb⟩, hz, hk⟩, st⟩ := hr T hT X
  cases hv
  rw [h0] at hz hk
  obtain ⟨t2, a1, b1⟩ := kk r h2 T'.heap (locs ++ L) hn hp (by rw [e1]; exact hb) (by rw [e1]; exact hz) (fun q h1 h2 => by rw [e1]; exact hk q h1 h2)
    ⟨Nat.le_trans hS.1 (by rw [e1]; exact hz), fun q h1 h2 => by rw [e1, hk q (Nat.lt_of_lt_of_le h1 hS.1) (fun z => h2 (hA q z))]; exact hS.2.1 q h1 h2, fun q hq => by
      rcases List.mem_append.mp hq with h | h
      · exact hS.2.2 q h
      · exact hf _ (hL q h)⟩ T' rfl X'
  exact ⟨t2, st t2 a1, b1⟩
theorem e_blind {ad : Nat → Nat} {As : List Value} {h : List eC} : FrameBlind (e_Pc dC dI dA ad As h) := fun a U g mk q => by
  obtain ⟨q1, q2, q3, q4⟩ := q
  exact ⟨q1, q2, va_K.moved (u := U) (U := U.calling g mk a) (Vm.Alike.refl U.vm) q3, q4⟩
theorem e_goodIn {y : MethodName} {cc : ByteArray} {maxL : Nat} {ret : Option FieldType} (h : Cond.code y cc maxL ret ∈ e_ws) : GoodIn e_ws (Cond.code y cc maxL ret :: e_ws) := by
  intro w hw
  rcases List.mem_cons.mp hw with rfl | hw
  · exact ⟨h, e_good h⟩
  · exact ⟨hw, e_good hw⟩
theorem e_goodV {own : String} {idx ci : Nat} {y : MethodName} {cc : ByteArray} {maxL n : Nat} {ret : Option FieldType} (ml : e_MV own idx ci y cc maxL ret n) : GoodIn e_ws (wsV own idx y.cls y (Cond.code y cc maxL ret :: e_ws)) := by
  obtain ⟨h1, h2, h3, h4, h5, -⟩ := ml
  intro w hw
  unfold wsV at hw
  rcases List.mem_append.mp hw with hw | hw
  · simp only [List.mem_cons, List.not_mem_nil, or_false] at hw
    rcases hw with rfl | rfl | rfl | rfl
    · exact ⟨h1, e_good h1⟩
    · exact ⟨h2, e_good h2⟩
    · exact ⟨h3, e_good h3⟩
    · exact ⟨h4, e_good h4⟩
  · exact e_goodIn h5 w hw
end EC
/-- which cell of the caller a callee's is -/
def e_rf (rho : List Nat) (k : Nat) : Nat := rho.getD k 0
def e_put (h : List eC) : List Nat → List eC → List eC
  | k :: ks, c :: cs => e_put (h.set k c) ks cs
  | _, _ => h
theorem e_put_len : ∀ (ks : List Nat) (cs : List eC) (h : List eC), (e_put h ks cs).length = h.length
  | [], _, h => by simp [e_put]
  | k :: ks, [], h => by simp [e_put]
  | k :: ks, c :: cs, h => by rw [show e_put h (k :: ks) (c :: cs) = e_put (h.set k c) ks cs from rfl, e_put_len ks cs, List.length_set]
theorem e_put_off : ∀ (ks : List Nat) (cs : List eC) (h : List eC) (j : Nat), j ∉ ks → (e_put h ks cs)[j]? = h[j]?
  | [], _, h, j, _ => by simp [e_put]
  | k :: ks, [], h, j, _ => by simp [e_put]
  | k :: ks, c :: cs, h, j, hj => by
    rw [show e_put h (k :: ks) (c :: cs) = e_put (h.set k c) ks cs from rfl, e_put_off ks cs _ j (fun q => hj (List.mem_cons_of_mem _ q)), List.getElem?_set_ne (fun q => hj (by rw [q]; exact List.mem_cons_self))]
theorem e_put_on : ∀ (ks : List Nat) (cs : List eC) (h : List eC), ks.Nodup → (∀ k ∈ ks, k < h.length) → ∀ (i k : Nat) (c : eC), ks[i]? = some k → cs[i]? = some c → (e_put h ks cs)[k]? = some c
  | [], _, h, _, _, i, k, c, hi, _ => by simp at hi
  | k0 :: ks, [], h, _, _, i, k, c, _, hc => by simp at hc
  | k0 :: ks, c0 :: cs, h, hn, hl, i, k, c, hi, hc => by
    rw [show e_put h (k0 :: ks) (c0 :: cs) = e_put (h.set k0 c0) ks cs from rfl]
    cases i with
    | zero =>
      simp only [List.getElem?_cons_zero, Option.some.injEq] at hi hc
      subst hi; subst hc
      rw [e_put_off ks cs _ k0 (List.nodup_cons.mp hn).1, List.getElem?_set_self (hl k0 List.mem_cons_self)]
    | succ i => exact e_put_on ks cs _ (List.nodup_cons.mp hn).2 (fun k hk => by rw [List.length_set]; exact hl k (List.mem_cons_of_mem _ hk)) i k c (by simpa using hi) (by simpa using hc)
section ECALL
variable {x : e_T} {own : String} {cc : ByteArray} {d pc : Nat} {ls : List (Option Value)} {st st0 : List Value} {h : List eC}
variable {y : MethodName} {c2 : ByteArray} {L2 idx ci n : Nat} {ret : Option FieldType} {d2 : Nat} {As : List Value} {h1 : List eC} {P2 : Option Value → List eC → Prop}
theorem e_wd_P {D : va_G} {dA : Nat → ClassId} {ad : Nat → Nat} {H : Heap} : va_P D vwCl (e_wd dA ad h) H ↔ ∀ (k : Nat) (c : eC), h[k]? = some c → va_at D vwCl (ad k, e_rl dA ad c) H := by
  constructor
  · intro hP k c hk
    exact hP k _ (e_wd_get hk)
  · intro hP k q hq
    rw [e_wd_at] at hq
    cases hc : h[k]? with
    | none => rw [hc] at hq; cases hq
    | some c => rw [hc] at hq; cases hq; exact hP k c hc
/-- a call of an instance method, over some of the cells: rho says which -/
theorem ei_callV (X : e_X x own cc d) (ml : e_MV own idx ci y c2 L2 ret n) (hd : decode cc pc = .ok (.invokevirtual idx, 3)) {b : Nat} (ct : e_Ct y c2 L2 ret d2 (.ref b :: As) h1 P2) (rho : List Nat)
    (hst : st0 = List.reverseAux ((Value.ref b :: As).map (e_mv (e_rf rho))) st) (hn : As.length = n) (hd2 : d2 < d) (hL2 : L2 ≤ 21) {fs : List Value} (hrc : h[e_rf rho b]? = some (.inr (ci, fs)))
    (hcat : (st.map fun v => v.category).sum ≤ 8) (hnd : rho.Nodup) (hrl : rho.map (fun k => h[k]?) = h1.map (fun c => some (e_rn (e_rf rho) c)))
    (kk : ∀ (r : Option Value) (h2 : List eC), h2.length = h1.length → P2 r h2 → e_E x (pc + 3) ls ((r.map (e_mv (e_rf rho))).toList ++ st) (e_put h rho (h2.map (e_rn (e_rf rho))))) : e_E x pc ls st0 h := by
  obtain ⟨p, l, e, R, s, m, args, below, meth, c, dC, dI, dA, ad, A, N, nL, cells, slots, Q⟩ := x
  intro hL hN H locs la hP hS hl
  have hlen : rho.length = h1.length := by have := congrArg List.length hrl; simpa using this
  have hrk : ∀ (i : Nat) (c : eC), h1[i]? = some c → ∃ k, rho[i]? = some k ∧ h[k]? = some (e_rn (e_rf rho) c) ∧ e_rf rho i = k := by
    intro i c hi
    have h3 : (rho.map (fun k => h[k]?))[i]? = some (some (e_rn (e_rf rho) c)) := by rw [hrl, List.getElem?_map, hi]; rfl
    rw [List.getElem?_map] at h3
    cases hk : rho[i]? with
    | none => rw [hk] at h3; cases h3
    | some k => rw [hk] at h3; exact ⟨k, rfl, Option.some.inj h3, by simp [e_rf, hk]⟩
  have hlt : ∀ i, i < h1.length → e_rf rho i < N := by
    intro i hi
    obtain ⟨k, h3, h4, h5⟩ := hrk i _ (List.getElem?_eq_getElem hi)
    rw [h5, ← hN]
    exact (List.getElem?_eq_some_iff.mp h4).1
  have hmem : ∀ k ∈ rho, k < h.length := by
    intro k hk
    obtain ⟨i, hi⟩ := List.getElem?_of_mem hk
    have hi2 : i < h1.length := by rw [← hlen]; exact (List.getElem?_eq_some_iff.mp hi).1
    obtain ⟨k', h3, h4, -⟩ := hrk i _ (List.getElem?_eq_getElem hi2)
    rw [hi] at h3
    cases h3
    exact (List.getElem?_eq_some_iff.mp h4).1
  have hinj : ∀ i j, i < h1.length → j < h1.length → e_rf rho i = e_rf rho j → i = j := by
    intro i j hi hj hij
    obtain ⟨k, h3, -, h5⟩ := hrk i _ (List.getElem?_eq_getElem hi)
    obtain ⟨k', h3', -, h5'⟩ := hrk j _ (List.getElem?_eq_getElem hj)
    have hkk : k = k' := by rw [← h5, ← h5', hij]
    subst hkk
    exact (List.getElem?_inj (by rw [hlen]; exact hi) hnd).mp (h3.trans h3'.symm)
  have hP1 : va_P (dC, dI) vwCl (e_wd dA (fun k => ad (e_rf rho k)) h1) H := by
    rw [e_wd_P]
    intro i c hi
    obtain ⟨k, h3, h4, h5⟩ := hrk i c hi
    have h6 := e_wd_P.mp hP k _ h4
    rw [e_rl_rn] at h6
    show va_at (dC, dI) vwCl (ad (e_rf rho i), e_rl dA (fun k => ad (e_rf rho k)) c) H
    rw [h5]
    exact h6
  have hinj2 : ∀ i j, i < h1.length → j < h1.length → ad (e_rf rho i) = ad (e_rf rho j) → i = j := fun i j hi hj hij => hinj i j hi hj (X.2.2.2.2.2.2.1 _ _ (hlt i hi) (hlt j hj) hij)
  have hA2 : ∀ q, e_A (fun k => ad (e_rf rho k)) h1.length q → A q := by
    rintro q ⟨k, hk, rfl⟩
    exact X.2.2.2.2.2.2.2.1 _ (hlt k hk)
  have hR1 := X.2.2.2.2.2.2.2.2.1
  have hR2 := X.2.2.2.2.2.2.2.2.2.1
  have hK := X.2.2.2.2.2.1
  have hst' : st0.map (e_mv ad) = (As.map (e_mv (fun k => ad (e_rf rho k)))).reverse ++ .ref (ad (e_rf rho b)) :: st.map (e_mv ad) := by
    rw [hst, List.reverseAux_eq]
    simp [e_mv_ref, e_mv_comp, Function.comp_def]
  obtain ⟨T0, N0, hci⟩ := ml.2.2.2.2.2.2
  have hmeth := ct l dC dI dA (fun k => ad (e_rf rho k))
  have hsum := e_cats ad st
  rw [hst']
  refine e_run (va_runV (As := As.map (e_mv (fun k => ad (e_rf rho k)))) (b := ad (e_rf rho b)) (rest := st.map (e_mv ad)) (Ts := e_ws) (own := own) (cc := cc) (nL := nL) (index := idx) (n := n) (C := y.cls) (bytes := c2) (maxL := L2) (ret := ret) ⟨X.1, X.2.1, X.2.2.1, X.2.2.2.1, X.2.2.2.2.1⟩ hmeth (cwV n X.2.2.2.2.1 (e_goodV ml) rfl rfl rfl ⟨rfl, ml.2.2.2.2.2.1⟩ ⟨by show d2 + 1 ≤ _; omega, by show 8 + (L2 + 11) + 40 * d2 ≤ _; omega⟩)
    ⟨e_blind, va_recv hK hP (ci := ci) (q0 := e_rf rho b) hci (e_wd_get hrc), fun U hU hW => ⟨by simp [e_mv], by rw [hU]; exact hP1, va_K.moved hW.alike hK, hinj2⟩⟩ rfl (by simpa using hn) hl.1 rfl (lv_room (by rw [hsum]; exact hcat)) hd ⟨X.2.2.2.2.2.2.2.2.2.2.1, X.2.2.2.2.2.2.2.2.2.2.2⟩) hS hA2 hA2 (fun r h2 H1 locs1 hn2 hp2 hPc hz hkeep hS1 => ?_)
  have hfin := kk r h2 hn2 hp2 hL (by rw [e_put_len]; exact hN) H1 locs1 la ?_ hS1 hl
  · cases r with
    | none => simpa using hfin
    | some v => simpa [e_mv_comp] using hfin
  · rw [e_wd_P]
    intro k c hk
    by_cases hkr : k ∈ rho
    · obtain ⟨i, hi⟩ := List.getElem?_of_mem hkr
      have hi2 : i < h2.length := by rw [hn2, ← hlen]; exact (List.getElem?_eq_some_iff.mp hi).1
      have h5 := e_put_on rho (h2.map (e_rn (e_rf rho))) h hnd hmem i k _ hi (by rw [List.getElem?_map, List.getElem?_eq_getElem hi2]; rfl)
      rw [h5] at hk
      cases hk
      rw [e_rl_rn]
      have h6 := e_wd_P.mp hPc i _ (List.getElem?_eq_getElem hi2)
      have h7 : e_rf rho i = k := by simp [e_rf, hi]
      rw [← h7]
      exact h6
    · rw [e_put_off _ _ _ _ hkr] at hk
      have h6 := e_wd_P.mp hP k c hk
      have hkN : k < N := by rw [← hN]; exact (List.getElem?_eq_some_iff.mp hk).1
      refine va_at.kept h6 (hkeep _ (va_at.lt h6) ?_)
      rintro ⟨j, hj, hj2⟩
      have h8 := X.2.2.2.2.2.2.1 _ _ hkN (hlt j hj) hj2
      obtain ⟨k', h3, -, h5⟩ := hrk j _ (List.getElem?_eq_getElem hj)
      exact hkr (by rw [h8, h5]; exact List.mem_of_getElem? h3)
/-- a call of a static method -/
theorem ei_callS (X : e_X x own cc d) (ml : e_MS own idx y c2 L2 ret n) (hd : decode cc pc = .ok (.invokestatic idx, 3)) (ct : e_Ct y c2 L2 ret d2 As h1 P2) (rho : List Nat)
    (hst : st0 = List.reverseAux (As.map (e_mv (e_rf rho))) st) (hn : As.length = n) (hd2 : d2 < d) (hL2 : L2 ≤ 21)
    (hcat : (st.map fun v => v.category).sum ≤ 8) (hnd : rho.Nodup) (hrl : rho.map (fun k => h[k]?) = h1.map (fun c => some (e_rn (e_rf rho) c)))
    (kk : ∀ (r : Option Value) (h2 : List eC), h2.length = h1.length → P2 r h2 → e_E x (pc + 3) ls ((r.map (e_mv (e_rf rho))).toList ++ st) (e_put h rho (h2.map (e_rn (e_rf rho))))) : e_E x pc ls st0 h := by
  obtain ⟨p, l, e, R, s, m, args, below, meth, c, dC, dI, dA, ad, A, N, nL, cells, slots, Q⟩ := x
  intro hL hN H locs la hP hS hl
  have hlen : rho.length = h1.length := by have := congrArg List.length hrl; simpa using this
  have hrk : ∀ (i : Nat) (c : eC), h1[i]? = some c → ∃ k, rho[i]? = some k ∧ h[k]? = some (e_rn (e_rf rho) c) ∧ e_rf rho i = k := by
    intro i c hi
    have h3 : (rho.map (fun k => h[k]?))[i]? = some (some (e_rn (e_rf rho) c)) := by rw [hrl, List.getElem?_map, hi]; rfl
    rw [List.getElem?_map] at h3
    cases hk : rho[i]? with
    | none => rw [hk] at h3; cases h3
    | some k => rw [hk] at h3; exact ⟨k, rfl, Option.some.inj h3, by simp [e_rf, hk]⟩
  have hlt : ∀ i, i < h1.length → e_rf rho i < N := by
    intro i hi
    obtain ⟨k, h3, h4, h5⟩ := hrk i _ (List.getElem?_eq_getElem hi)
    rw [h5, ← hN]
    exact (List.getElem?_eq_some_iff.mp h4).1
  have hmem : ∀ k ∈ rho, k < h.length := by
    intro k hk
    obtain ⟨i, hi⟩ := List.getElem?_of_mem hk
    have hi2 : i < h1.length := by rw [← hlen]; exact (List.getElem?_eq_some_iff.mp hi).1
    obtain ⟨k', h3, h4, -⟩ := hrk i _ (List.getElem?_eq_getElem hi2)
    rw [hi] at h3
    cases h3
    exact (List.getElem?_eq_some_iff.mp h4).1
  have hinj : ∀ i j, i < h1.length → j < h1.length → e_rf rho i = e_rf rho j → i = j := by
    intro i j hi hj hij
    obtain ⟨k, h3, -, h5⟩ := hrk i _ (List.getElem?_eq_getElem hi)
    obtain ⟨k', h3', -, h5'⟩ := hrk j _ (List.getElem?_eq_getElem hj)
    have hkk : k = k' := by rw [← h5, ← h5', hij]
    subst hkk
    exact (List.getElem?_inj (by rw [hlen]; exact hi) hnd).mp (h3.trans h3'.symm)
  have hP1 : va_P (dC, dI) vwCl (e_wd dA (fun k => ad (e_rf rho k)) h1) H := by
    rw [e_wd_P]
    intro i c hi
    obtain ⟨k, h3, h4, h5⟩ := hrk i c hi
    have h6 := e_wd_P.mp hP k _ h4
    rw [e_rl_rn] at h6
    show va_at (dC, dI) vwCl (ad (e_rf rho i), e_rl dA (fun k => ad (e_rf rho k)) c) H
    rw [h5]
    exact h6
  have hinj2 : ∀ i j, i < h1.length → j < h1.length → ad (e_rf rho i) = ad (e_rf rho j) → i = j := fun i j hi hj hij => hinj i j hi hj (X.2.2.2.2.2.2.1 _ _ (hlt i hi) (hlt j hj) hij)
  have hA2 : ∀ q, e_A (fun k => ad (e_rf rho k)) h1.length q → A q := by
    rintro q ⟨k, hk, rfl⟩
    exact X.2.2.2.2.2.2.2.1 _ (hlt k hk)
  have hR1 := X.2.2.2.2.2.2.2.2.1
  have hR2 := X.2.2.2.2.2.2.2.2.2.1
  have hK := X.2.2.2.2.2.1
  have hst' : st0.map (e_mv ad) = (As.map (e_mv (fun k => ad (e_rf rho k)))).reverse ++ st.map (e_mv ad) := by
    rw [hst, List.reverseAux_eq]
    simp [e_mv_comp, Function.comp_def]
  have hmeth := ct l dC dI dA (fun k => ad (e_rf rho k))
  have hsum := e_cats ad st
  have hcb : CallB R s args own idx y c2 L2 ret (Cond.code y c2 L2 ret :: e_ws) { frames := d2, cells := 0, slots := 0, locals := 40 * d2 } 0 0 n := callB_of n X.2.2.2.2.1 (e_goodIn ml.2.2.2.1) rfl rfl rfl (X.2.2.2.2.1 _ ml.2.2.1) (X.2.2.2.2.1 _ ml.1) ml.2.2.2.2 ⟨by show d2 + 1 ≤ _; omega, by show 8 + (L2 + 11) + 40 * d2 ≤ _; omega⟩
  rw [hst']
  refine e_run (va_runS (As := As.map (e_mv (fun k => ad (e_rf rho k)))) (rest := st.map (e_mv ad)) (Ts := e_ws) (own := own) (cc := cc) (nL := nL) (index := idx) (n := n) (bytes := c2) (maxL := L2) (ret := ret) ⟨X.1, X.2.1, X.2.2.1, X.2.2.2.1, X.2.2.2.2.1⟩ hmeth ⟨hcb, X.2.2.2.2.1 _ ml.2.1⟩
    ⟨e_blind, fun U hU hW => ⟨rfl, by rw [hU]; exact hP1, va_K.moved hW.alike hK, hinj2⟩⟩ rfl (by simpa using hn) hl.1 rfl (lv_room (by rw [hsum]; exact hcat)) hd ⟨X.2.2.2.2.2.2.2.2.2.2.1, X.2.2.2.2.2.2.2.2.2.2.2⟩) hS hA2 hA2 (fun r h2 H1 locs1 hn2 hp2 hPc hz hkeep hS1 => ?_)
  have hfin := kk r h2 hn2 hp2 hL (by rw [e_put_len]; exact hN) H1 locs1 la ?_ hS1 hl
  · cases r with
    | none => simpa using hfin
    | some v => simpa [e_mv_comp] using hfin
  · rw [e_wd_P]
    intro k c hk
    by_cases hkr : k ∈ rho
    · obtain ⟨i, hi⟩ := List.getElem?_of_mem hkr
      have hi2 : i < h2.length := by rw [hn2, ← hlen]; exact (List.getElem?_eq_some_iff.mp hi).1
      have h5 := e_put_on rho (h2.map (e_rn (e_rf rho))) h hnd hmem i k _ hi (by rw [List.getElem?_map, List.getElem?_eq_getElem hi2]; rfl)
      rw [h5] at hk
      cases hk
      rw [e_rl_rn]
      have h6 := e_wd_P.mp hPc i _ (List.getElem?_eq_getElem hi2)
      have h7 : e_rf rho i = k := by simp [e_rf, hi]
      rw [← h7]
      exact h6
    · rw [e_put_off _ _ _ _ hkr] at hk
      have h6 := e_wd_P.mp hP k c hk
      have hkN : k < N := by rw [← hN]; exact (List.getElem?_eq_some_iff.mp hk).1
      refine va_at.kept h6 (hkeep _ (va_at.lt h6) ?_)
      rintro ⟨j, hj, hj2⟩
      have h8 := X.2.2.2.2.2.2.1 _ _ hkN (hlt j hj) hj2
      obtain ⟨k', h3, -, h5⟩ := hrk j _ (List.getElem?_eq_getElem hj)
      exact hkr (by rw [h8, h5]; exact List.mem_of_getElem? h3)
/-- a call over all cells, as they are numbered here -/
theorem ei_callI (X : e_X x own cc d) (ml : e_MV own idx ci y c2 L2 ret n) (hd : decode cc pc = .ok (.invokevirtual idx, 3)) {b : Nat} (ct : e_Ct y c2 L2 ret d2 (.ref b :: As) h P2)
    (hst : st0 = List.reverseAux (Value.ref b :: As) st) (hn : As.length = n) (hd2 : d2 < d) (hL2 : L2 ≤ 21) {fs : List Value} (hrc : h[b]? = some (.inr (ci, fs)))
    (hcat : (st.map fun v => v.category).sum ≤ 8)
    (kk : ∀ (r : Option Value) (h2 : List eC), P2 r h2 → e_E x (pc + 3) ls (r.toList ++ st) h2) : e_E x pc ls st0 h := by
  obtain ⟨p, l, e, R, s, m, args, below, meth, c, dC, dI, dA, ad, A, N, nL, cells, slots, Q⟩ := x
  intro hL hN H locs la hP hS hl
  subst hN
  have hA2 : ∀ q, e_A ad h.length q → A q := by
    rintro q ⟨k, hk, rfl⟩
    exact X.2.2.2.2.2.2.2.1 _ hk
  have hR1 := X.2.2.2.2.2.2.2.2.1
  have hR2 := X.2.2.2.2.2.2.2.2.2.1
  have hK := X.2.2.2.2.2.1
  have hst' : st0.map (e_mv ad) = (As.map (e_mv ad)).reverse ++ .ref (ad b) :: st.map (e_mv ad) := by
    rw [hst, List.reverseAux_eq]
    simp [e_mv]
  obtain ⟨T0, N0, hci⟩ := ml.2.2.2.2.2.2
  have hmeth := ct l dC dI dA ad
  have hsum := e_cats ad st
  rw [hst']
  refine e_run (va_runV (As := As.map (e_mv ad)) (b := ad b) (rest := st.map (e_mv ad)) (Ts := e_ws) (own := own) (cc := cc) (nL := nL) (index := idx) (n := n) (C := y.cls) (bytes := c2) (maxL := L2) (ret := ret) ⟨X.1, X.2.1, X.2.2.1, X.2.2.2.1, X.2.2.2.2.1⟩ hmeth (cwV n X.2.2.2.2.1 (e_goodV ml) rfl rfl rfl ⟨rfl, ml.2.2.2.2.2.1⟩ ⟨by show d2 + 1 ≤ _; omega, by show 8 + (L2 + 11) + 40 * d2 ≤ _; omega⟩)
    ⟨e_blind, va_recv hK hP (ci := ci) (q0 := b) hci (e_wd_get hrc), fun U hU hW => ⟨by simp [e_mv], by rw [hU]; exact hP, va_K.moved hW.alike hK, X.2.2.2.2.2.2.1⟩⟩ rfl (by simpa using hn) hl.1 rfl (lv_room (by rw [hsum]; exact hcat)) hd ⟨X.2.2.2.2.2.2.2.2.2.2.1, X.2.2.2.2.2.2.2.2.2.2.2⟩) hS hA2 hA2 (fun r h2 H1 locs1 hn2 hp2 hPc hz hkeep hS1 => ?_)
  have hfin := kk r h2 hp2 hL hn2 H1 locs1 la hPc hS1 hl
  cases r with
  | none => simpa using hfin
  | some v => simpa using hfin
theorem ei_callT (X : e_X x own cc d) (ml : e_MS own idx y c2 L2 ret n) (hd : decode cc pc = .ok (.invokestatic idx, 3)) (ct : e_Ct y c2 L2 ret d2 As h P2)
    (hst : st0 = List.reverseAux As st) (hn : As.length = n) (hd2 : d2 < d) (hL2 : L2 ≤ 21)
    (hcat : (st.map fun v => v.category).sum ≤ 8)
    (kk : ∀ (r : Option Value) (h2 : List eC), P2 r h2 → e_E x (pc + 3) ls (r.toList ++ st) h2) : e_E x pc ls st0 h := by
  obtain ⟨p, l, e, R, s, m, args, below, meth, c, dC, dI, dA, ad, A, N, nL, cells, slots, Q⟩ := x
  intro hL hN H locs la hP hS hl
  subst hN
  have hA2 : ∀ q, e_A ad h.length q → A q := by
    rintro q ⟨k, hk, rfl⟩
    exact X.2.2.2.2.2.2.2.1 _ hk
  have hR1 := X.2.2.2.2.2.2.2.2.1
  have hR2 := X.2.2.2.2.2.2.2.2.2.1
  have hK := X.2.2.2.2.2.1
  have hst' : st0.map (e_mv ad) = (As.map (e_mv ad)).reverse ++ st.map (e_mv ad) := by
    rw [hst, List.reverseAux_eq]
    simp
  have hmeth := ct l dC dI dA ad
  have hsum := e_cats ad st
  have hcb : CallB R s args own idx y c2 L2 ret (Cond.code y c2 L2 ret :: e_ws) { frames := d2, cells := 0, slots := 0, locals := 40 * d2 } 0 0 n := callB_of n X.2.2.2.2.1 (e_goodIn ml.2.2.2.1) rfl rfl rfl (X.2.2.2.2.1 _ ml.2.2.1) (X.2.2.2.2.1 _ ml.1) ml.2.2.2.2 ⟨by show d2 + 1 ≤ _; omega, by show 8 + (L2 + 11) + 40 * d2 ≤ _; omega⟩
  rw [hst']
  refine e_run (va_runS (As := As.map (e_mv ad)) (rest := st.map (e_mv ad)) (Ts := e_ws) (own := own) (cc := cc) (nL := nL) (index := idx) (n := n) (bytes := c2) (maxL := L2) (ret := ret) ⟨X.1, X.2.1, X.2.2.1, X.2.2.2.1, X.2.2.2.2.1⟩ hmeth ⟨hcb, X.2.2.2.2.1 _ ml.2.1⟩
    ⟨e_blind, fun U hU hW => ⟨rfl, by rw [hU]; exact hP, va_K.moved hW.alike hK, X.2.2.2.2.2.2.1⟩⟩ rfl (by simpa using hn) hl.1 rfl (lv_room (by rw [hsum]; exact hcat)) hd ⟨X.2.2.2.2.2.2.2.2.2.2.1, X.2.2.2.2.2.2.2.2.2.2.2⟩) hS hA2 hA2 (fun r h2 H1 locs1 hn2 hp2 hPc hz hkeep hS1 => ?_)
  have hfin := kk r h2 hp2 hL hn2 H1 locs1 la hPc hS1 hl
  cases r with
  | none => simpa using hfin
  | some v => simpa using hfin
end ECALL
/-- a method's contract out of the walk of its body -/
theorem e_open {y : MethodName} {cc : ByteArray} {maxL : Nat} {ret : Option FieldType} {d : Nat} {As : List Value} {h : List eC} {P : Option Value → List eC → Prop} (own : String) (hown : y.cls = own) (hy : plainName y.cls = true) (hlen : (e_ent As maxL).length = maxL) (hfit : ∀ ad : Nat → Nat, (lg_sl (As.map (e_mv ad))).length ≤ maxL)
    (body : ∀ x : e_T, e_X x own cc d → e_F x ret P → e_E x 0 (e_ent As maxL) [] h) : e_Ct y cc maxL ret d As h P := by
  intro l dC dI dA ad
  refine Met.ofW (cc := cc) (maxL := maxL) (ret := ret) hy rfl ?_
  intro p e s m args below meth c s₁ B hml hv
  obtain ⟨rfl, hP, hK, hinj⟩ := hv
  have hts := atoms_spec (ws := Cond.code y cc maxL ret :: e_ws) B.pre
  have hnm := findClass_of_methodNamed B.named
  rw [hown] at hnm
  have hk := body (p, l, e, { frames := d, cells := 0, slots := 0, locals := 40 * d }, s, m, (As.map (e_mv ad)).toArray, below, meth, c, dC, dI, dA, ad, e_A ad h.length, h.length, maxL, 0, 0, MQ below (e_Q dC dI dA ad (e_A ad h.length) h.length P) (As.map (e_mv ad)).toArray s 0 0 (e_A ad h.length))
    ⟨B.exec, B.bytes, hml, hnm, fun w hw => hts w (List.mem_cons_of_mem _ hw), hK, hinj, fun k hk => ⟨k, hk, rfl⟩, Nat.le_refl _, Nat.le_refl _, Nat.le_refl _, Nat.le_refl _⟩ ⟨rfl, B.returns, B.notSynchronized⟩
  have hl := lv_entry (As.map (e_mv ad)) (n := maxL) (hfit ad)
  rw [lg_entry_eq]
  exact hk hlen rfl s.heap [] _ hP va_S.rf (e_has_mono hl fun q hq => e_ent_mem As maxL 0 q hq)
