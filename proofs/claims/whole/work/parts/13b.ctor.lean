/-! ===== constructors: contracts and calls ===== -/
def g_A1 (a0 sz : Nat) : Nat → Prop := fun q => q = a0 ∨ sz ≤ q
def g_post (a0 sz n2 : Nat) (ad2 : Nat → Nat) : Prop := ad2 0 = a0 ∧ (∀ k, 1 ≤ k → k < n2 → sz ≤ ad2 k) ∧ ∀ i j, i < n2 → j < n2 → ad2 i = ad2 j → i = j
def g_Pc (dC : Nat → ClassId) (dI : Nat → Nat → Nat) (dA : Nat → ClassId) (a0 sz : Nat) (c0 : eC) : Array Value → State → Prop :=
  va_Pc [.ref a0] (fun U => U.heap.size = sz ∧ va_P (dC, dI) vwCl (e_wd dA (fun _ => a0) [c0]) U.heap ∧ va_K (dC, dI) vwCl (e_tys dA) U ∧ va_AO RX4 U)
def g_Qc (dC : Nat → ClassId) (dI : Nat → Nat → Nat) (dA : Nat → ClassId) (a0 sz : Nat) (h2 : List eC) : Array Value → State → Outcome → State → Prop :=
  va_Qv (g_post a0 sz h2.length) (fun ad2 t => va_P (dC, dI) vwCl (e_wd dA ad2 h2) t.heap) (g_A1 a0 sz)
/-- THE CONTRACT of a constructor: from the new object c0 to the cells h2, of which the first is the object and the others are new -/
def e_Cg (y : MethodName) (cc : ByteArray) (maxL d mc ms : Nat) (c0 : eC) (h2 : List eC) : Prop :=
  ∀ (l : Launch) (dC : Nat → ClassId) (dI : Nat → Nat → Nat) (dA : Nat → ClassId) (a0 sz : Nat), Met l y (Cond.code y cc maxL none :: e_ws) { frames := d, cells := mc, slots := ms, locals := 40 * d } (g_Pc dC dI dA a0 sz c0) (g_Qc dC dI dA a0 sz h2) mc ms (g_A1 a0 sz)
theorem g_blind {dC : Nat → ClassId} {dI : Nat → Nat → Nat} {dA : Nat → ClassId} {a0 sz : Nat} {c0 : eC} : FrameBlind (g_Pc dC dI dA a0 sz c0) := fun a U g mk q => by
  obtain ⟨q1, q2, q3, q4, q5⟩ := q
  exact ⟨q1, q2, q3, va_K.moved (u := U) (U := U.calling g mk a) (Vm.Alike.refl U.vm) q4, va_AO.moved (u := U) (U := U.calling g mk a) (Vm.Alike.refl U.vm) q5⟩
def e_MI (own : String) (idx : Nat) (y : MethodName) (cc : ByteArray) (maxL : Nat) : Prop :=
  Cond.methodLink own idx y ∈ e_ws ∧ Cond.instanceMethod y ∈ e_ws ∧ Cond.initialized y.cls ∈ e_ws ∧ Cond.code y cc maxL none ∈ e_ws ∧ y.name = "<init>" ∧ (y.cls ≠ "java/lang/invoke/MethodHandle" ∧ y.cls ≠ "java/lang/invoke/VarHandle" ∧ (parseMethodDescriptor y.desc).map (fun d => d.parameters.length) = some 0)
def e_MC (own : String) (idx : Nat) (C : String) (n : Nat) : Prop := Cond.classLink own idx C ∈ e_ws ∧ Cond.instantiable C n ∈ e_ws ∧ Cond.initialized C ∈ e_ws
/-- which cell of the caller's a constructor's is: its first is k, the others are laid behind -/
def g_rf (k N : Nat) : Nat → Nat
  | 0 => k
  | i + 1 => N + i
section GC
variable {y : g_T} {own : String} {cc : ByteArray} {d N cells slots pc : Nat} {ls : List (Option Value)} {st : List Value} {h : List eC} {ad : Nat → Nat}
/-- a final field -/
theorem gi_putF (X : e_X (g_x y ad N cells slots) own cc d) (I : g_I y) {k ci f idx : Nat} {fs : List Value} {v : Value} {ty : FieldType} (fl : e_FL own idx ci f) (hd : decode cc pc = .ok (.putfield idx, 3)) (hh : h[k]? = some (.inr (ci, fs)))
    {C1 : String} {T1 : u_T} {N1 : Nat} (hc1 : vwCl[ci]? = some (C1, T1, N1)) (hf1 : (T1 f).2.2.2 = true) (hf2 : (T1 f).1 = own) (hf3 : parseFieldDescriptor (T1 f).2.2.1 = some ty) (hn : ∀ ad, narrow ty (e_mv ad v) = e_mv ad v) (hfit : ∀ ad, fits ty (e_mv ad v) = true) (hl : f < fs.length) {h2 : List eC} (h2e : h.set k (.inr (ci, fs.set f v)) = h2)
    (kk : e_E (g_x y ad N cells slots) (pc + 3) ls st h2) : e_E (g_x y ad N cells slots) pc ls (v :: .ref k :: st) h := by
  obtain ⟨p, l, e, R, s, m, args, below, meth, c, dC, dI, dA, A, nL, Q, ad0, n0⟩ := y
  intro hL hN H locs la hP hS hla
  subst h2e
  obtain ⟨C, T, N0, ty0, hc, hf, hin, hty, hnm, hlk⟩ := fl
  have hcc := Option.some.inj (hc1.symm.trans hc)
  cases hcc
  refine va_putF (D := (dC, dI)) X.1 X.2.1 X.2.2.2.2.1 hin ty0 hty hnm X.2.2.2.1 X.2.2.2.2.2.1 hP (e_D X.2.2.2.2.2.2.1 X.2.2.2.2.2.2.2.1 hN) hS k (e_wd_get hh) hc f hf (X.2.2.2.2.1 _ hlk) (fun _ q => q) hf1 I hf2 hf3 (v := e_mv ad v) (hn ad) (hfit ad) (by simpa using hl) hd (fun H1 locs1 hP1 hD1 hS1 => ?_)
  refine kk hL (by rw [List.length_set]; exact hN) H1 locs1 la ?_ hS1 hla
  rw [e_wd_set]
  have he : e_rl dA ad (.inr (ci, fs.set f v)) = .inr (ci, (fs.map (e_mv ad)).set f (e_mv ad v)) := by
    show (Sum.inr (ci, (fs.set f v).map (e_mv ad)) : va_E) = _
    rw [List.map_set]
  rw [he]
  exact hP1
/-- the call of a constructor -/
theorem gi_callI (hR : g_R y ad N) (X : e_X (g_x y ad N cells slots) own cc d) (Y : g_Y y) {y2 : MethodName} {c2 : ByteArray} {L2 idx d2 mc ms k : Nat} {c0 b0 : eC} {new : List eC} (ml : e_MI own idx y2 c2 L2) (hd : decode cc pc = .ok (.invokespecial idx, 3)) (ct : e_Cg y2 c2 L2 d2 mc ms c0 (b0 :: new))
    (hk : h[k]? = some c0) (hc0 : g_c 0 c0) (hd2 : d2 < d) (hL2 : L2 ≤ 21) (hcat : (st.map fun v => v.category).sum ≤ 8) (hcs : cells + mc ≤ g_mc y) (hss : slots + ms ≤ g_ms y)
    (hls : ∀ v, some v ∈ ls → g_v N (N + new.length) v) (hst : ∀ v ∈ st, g_b N v) (hh : g_h N h) (hnew : g_h (new.length + 1) (b0 :: new)) {N2 : Nat} (hN2 : N + new.length = N2) {h2 : List eC} (h2e : h.set k (e_rn (g_rf k N) b0) ++ new.map (e_rn (g_rf k N)) = h2)
    (kk : e_G y own cc d N2 (cells + mc) (slots + ms) (pc + 3) ls st h2) : e_E (g_x y ad N cells slots) pc ls (.ref k :: st) h := by
  obtain ⟨p, l, e, R, s, m, args, below, meth, c, dC, dI, dA, A, nL, Q, ad0, n0⟩ := y
  intro hL hN H locs la hP hS hl
  subst hN2
  subst h2e
  obtain ⟨m1, m2, m3, m4, m5, m6⟩ := ml
  have hkN : k < N := by rw [← hN]; exact (List.getElem?_eq_some_iff.mp hk).1
  have hR1 := X.2.2.2.2.2.2.2.2.1
  have hR2 := X.2.2.2.2.2.2.2.2.2.1
  have hK := X.2.2.2.2.2.1
  have hinj := X.2.2.2.2.2.2.1
  have hAll := X.2.2.2.2.2.2.2.1
  have hlt : ∀ j, j < N → ad j < H.size := fun j hj => va_at.lt (e_wd_P.mp hP j _ (List.getElem?_eq_getElem (by omega)))
  have hP1 : va_P (dC, dI) vwCl (e_wd dA (fun _ => ad k) [c0]) H := by
    rw [e_wd_P]
    intro j c hj
    have hj0 : j = 0 := by have := (List.getElem?_eq_some_iff.mp hj).1; simp at this; exact this
    subst hj0
    cases hj
    have h6 := e_wd_P.mp hP k _ hk
    rw [g_rl (ad := ad) (ad' := fun _ => ad k) (N := 0) (fun j hj => absurd hj (Nat.not_lt_zero _)) hc0]
    exact h6
  have hsub : ∀ q, g_A1 (ad k) H.size q → A q := by
    rintro q (rfl | hq)
    · exact hAll k hkN
    · exact (Y.1 q).mpr (Or.inr (Nat.le_trans hS.1 hq))
  refine va_callv (va_runI (As := []) (b := ad k) (rest := st.map (e_mv ad)) (Ts := e_ws) (own := own) (cc := cc) (nL := nL) (index := idx) (n := 0) (bytes := c2) (maxL := L2) ⟨X.1, X.2.1, X.2.2.1, X.2.2.2.1, X.2.2.2.2.1⟩ (ct l dC dI dA (ad k) H.size) (cwI 0 X.2.2.2.2.1 (e_goodIn m4) rfl rfl rfl (X.2.2.2.2.1 _ m3) (X.2.2.2.2.1 _ m1) (X.2.2.2.2.1 _ m2) m5 m6 ⟨by show d2 + 1 ≤ _; omega, by show 8 + (L2 + 11) + 40 * d2 ≤ _; omega⟩)
    ⟨g_blind, fun U hU hW => ⟨rfl, by rw [hU], by rw [hU]; exact hP1, va_K.moved hW.alike hK, va_AO.moved hW.alike Y.2⟩⟩ rfl rfl hl.1 rfl (lv_room (by rw [e_cats]; exact hcat)) hd ⟨hcs, hss⟩) hS (fun q _ => hsub q) hsub (fun ad2 t H1 locs1 ht hvm hpost hB hz hkeep hS1 => ?_)
  rw [ht] at hB
  obtain ⟨p0, p1, p2⟩ := hpost
  let M := new.length
  have hM : (b0 :: new).length = new.length + 1 := rfl
  rw [hM] at p1 p2
  let ad' : Nat → Nat := fun j => if j < N then ad j else if j < N + new.length then ad2 (j - N + 1) else ad j
  have e1 : ∀ j, j < N → ad' j = ad j := fun j hj => by show (if j < N then _ else _) = _; rw [if_pos hj]
  have e2 : ∀ i, i < new.length → ad' (N + i) = ad2 (i + 1) := fun i hi => by
    show (if N + i < N then _ else if N + i < N + new.length then _ else _) = _
    rw [if_neg (by omega), if_pos (by omega), show N + i - N + 1 = i + 1 by omega]
  have e3 : ∀ j, N + new.length ≤ j → ad' j = ad j := fun j hj => by
    show (if j < N then _ else if j < N + new.length then _ else _) = _
    rw [if_neg (by omega), if_neg (by omega)]
  have e4 : ∀ j, j < new.length + 1 → ad' (g_rf k N j) = ad2 j := by
    intro j hj
    cases j with
    | zero => show ad' k = _; rw [e1 k hkN, p0]
    | succ i => exact e2 i (by omega)
  have ha : ∀ j, j < N ∨ N + new.length ≤ j → ad' j = ad j := fun j hj => hj.elim (e1 j) (e3 j)
  have hR' : g_R (p, l, e, R, s, m, args, below, meth, c, dC, dI, dA, A, nL, Q, ad0, n0) ad' (N + new.length) := by
    have hn0 := hR.2.2
    refine ⟨fun j hj => ?_, fun j h1 h2 => ?_, by omega⟩
    · rw [ha j (by omega)]
      exact hR.1 j (by omega)
    · by_cases hj : j < N
      · rw [e1 j hj]; exact hR.2.1 j h1 hj
      · obtain ⟨i, rfl⟩ : ∃ i, j = N + i := ⟨j - N, by omega⟩
        rw [e2 i (by omega)]
        exact Nat.le_trans hS.1 (p1 (i + 1) (by omega) (by omega))
  have X' : e_X (p, l, e, R, s, m, args, below, meth, c, dC, dI, dA, ad', A, N + new.length, nL, cells + mc, slots + ms, Q) own cc d := by
    obtain ⟨x1, x2, x3, x4, x5, x6, x7, x8, x9, x10, -, -⟩ := X
    refine ⟨x1, x2, x3, x4, x5, x6, fun i j hi hj hij => ?_, fun j hj => ?_, x9, x10, hcs, hss⟩
    · by_cases h1 : i < N
      · by_cases h2 : j < N
        · rw [e1 i h1, e1 j h2] at hij; exact x7 i j h1 h2 hij
        · obtain ⟨j', rfl⟩ : ∃ j', j = N + j' := ⟨j - N, by omega⟩
          rw [e1 i h1, e2 j' (by omega)] at hij
          have := p1 (j' + 1) (by omega) (by omega)
          have := hlt i h1
          omega
      · obtain ⟨i', rfl⟩ : ∃ i', i = N + i' := ⟨i - N, by omega⟩
        by_cases h2 : j < N
        · rw [e2 i' (by omega), e1 j h2] at hij
          have := p1 (i' + 1) (by omega) (by omega)
          have := hlt j h2
          omega
        · obtain ⟨j', rfl⟩ : ∃ j', j = N + j' := ⟨j - N, by omega⟩
          rw [e2 i' (by omega), e2 j' (by omega)] at hij
          have := p2 (i' + 1) (j' + 1) (by omega) (by omega) hij
          omega
    · by_cases h1 : j < N
      · rw [e1 j h1]; exact x8 j h1
      · obtain ⟨j', rfl⟩ : ∃ j', j = N + j' := ⟨j - N, by omega⟩
        rw [e2 j' (by omega)]
        exact (Y.1 _).mpr (Or.inr (Nat.le_trans hS.1 (p1 (j' + 1) (by omega) (by omega))))
  have hstm : st.map (e_mv ad') = st.map (e_mv ad) := List.map_congr_left fun v hv => g_mb e1 (hst v hv)
  have hfin := kk ad' hR' X' hL (by simp [hN]) H1 locs1 la ?_ hS1 (by rw [g_ls ha hls]; exact hl)
  · rw [hstm] at hfin
    exact hfin
  · have hnewc : ∀ i c, (b0 :: new)[i]? = some c → va_at (dC, dI) vwCl (ad' (g_rf k N i), e_rl dA ad' (e_rn (g_rf k N) c)) H1 := by
      intro i c hi
      have hil : i < new.length + 1 := (List.getElem?_eq_some_iff.mp hi).1
      have h6 := e_wd_P.mp hB i c hi
      rw [e4 i hil, e_rl_rn, g_rl (ad := ad2) (ad' := fun j => ad' (g_rf k N j)) (N := new.length + 1) e4 (g_h_mem hnew c (List.mem_of_getElem? hi))]
      exact h6
    rw [e_wd_P]
    intro j c hj
    by_cases hjN : j < N
    · rw [List.getElem?_append_left (by rw [List.length_set]; omega)] at hj
      by_cases hjk : j = k
      · subst hjk
        rw [List.getElem?_set_self (by omega)] at hj
        cases hj
        exact hnewc 0 b0 rfl
      · rw [List.getElem?_set_ne (Ne.symm hjk)] at hj
        have h6 := e_wd_P.mp hP j c hj
        rw [e1 j hjN, g_rl (ad := ad) (ad' := ad') (N := N) e1 (g_h_mem hh c (List.mem_of_getElem? hj))]
        refine va_at.kept h6 (hkeep _ (va_at.lt h6) ?_)
        rintro (hq | hq)
        · exact hjk (hinj j k hjN hkN hq)
        · have := hlt j hjN
          omega
    · rw [List.getElem?_append_right (by rw [List.length_set]; omega), List.length_set, hN, List.getElem?_map] at hj
      cases hc : new[j - N]? with
      | none => rw [hc] at hj; cases hj
      | some c' =>
        rw [hc] at hj
        cases hj
        have h7 := hnewc (j - N + 1) c' (by simpa using hc)
        rw [show g_rf k N (j - N + 1) = j from by show N + (j - N) = j; omega] at h7
        exact h7
end GC
/-- what a constructor's end owes -/
def g_F : g_T → List eC → Nat → Nat → Prop
  | (_, _, _, _, s, _, args, below, meth, _, dC, dI, dA, A, _, Q, ad0, n0), h2, mc, ms => Q = MQ below (g_Qc dC dI dA (ad0 0) s.heap.size h2) args s mc ms (g_A1 (ad0 0) s.heap.size) ∧ meth.sig.returnType = none ∧ meth.locks = false ∧ n0 = 1 ∧ A = g_A1 (ad0 0) s.heap.size
theorem e_rho {h h2 : List eC} {rho : List Nat} (hnd : rho.Nodup) (hrl : rho.map (fun k => h[k]?) = h2.map (fun c => some (e_rn (e_rf rho) c))) : (∀ i, i < h2.length → e_rf rho i < h.length) ∧ (∀ i j, i < h2.length → j < h2.length → e_rf rho i = e_rf rho j → i = j) ∧ ∀ (i : Nat) (c : eC), h2[i]? = some c → h[e_rf rho i]? = some (e_rn (e_rf rho) c) := by
  have hlen : rho.length = h2.length := by have := congrArg List.length hrl; simpa using this
  have hrk : ∀ (i : Nat) (c : eC), h2[i]? = some c → ∃ k, rho[i]? = some k ∧ h[k]? = some (e_rn (e_rf rho) c) ∧ e_rf rho i = k := by
    intro i c hi
    have h3 : (rho.map (fun k => h[k]?))[i]? = some (some (e_rn (e_rf rho) c)) := by rw [hrl, List.getElem?_map, hi]; rfl
    rw [List.getElem?_map] at h3
    cases hk : rho[i]? with
    | none => rw [hk] at h3; cases h3
    | some k => rw [hk] at h3; exact ⟨k, rfl, Option.some.inj h3, by simp [e_rf, hk]⟩
  refine ⟨fun i hi => ?_, fun i j hi hj hij => ?_, fun i c hi => ?_⟩
  · obtain ⟨k, h3, h4, h5⟩ := hrk i _ (List.getElem?_eq_getElem hi)
    rw [h5]
    exact (List.getElem?_eq_some_iff.mp h4).1
  · obtain ⟨k, h3, -, h5⟩ := hrk i _ (List.getElem?_eq_getElem hi)
    obtain ⟨k', h3', -, h5'⟩ := hrk j _ (List.getElem?_eq_getElem hj)
    have hkk : k = k' := by rw [← h5, ← h5', hij]
    subst hkk
    exact (List.getElem?_inj (by rw [hlen]; exact hi) hnd).mp (h3.trans h3'.symm)
  · obtain ⟨k, h3, h4, h5⟩ := hrk i c hi
    rw [h5]
    exact h4
section GE
variable {y : g_T} {own : String} {cc : ByteArray} {d N cells slots pc : Nat} {ls : List (Option Value)} {st : List Value} {h h2 : List eC} {ad : Nat → Nat}
theorem gi_vreturn (rho : List Nat) {mc ms : Nat} (hR : g_R y ad N) (X : e_X (g_x y ad N cells slots) own cc d) (F : g_F y h2 mc ms) (hd : decode cc pc = .ok (.return_, 1)) (hrl : rho.map (fun k => h[k]?) = h2.map (fun c => some (e_rn (e_rf rho) c))) (hnd : rho.Nodup) (h0 : e_rf rho 0 = 0) (hne : 0 < h2.length) (hcs : cells ≤ mc) (hss : slots ≤ ms) : e_E (g_x y ad N cells slots) pc ls [] h := by
  obtain ⟨p, l, e, R, s, m, args, below, meth, c, dC, dI, dA, A, nL, Q, ad0, n0⟩ := y
  intro hL hN H locs la hP hS hl
  obtain ⟨rfl, hr, hk, rfl, rfl⟩ := F
  obtain ⟨r1, r2, r3⟩ := e_rho hnd hrl
  rw [hN] at r1
  refine W.widen hcs hss ?_
  refine W.vret X.1 X.2.1 hr (fun t ht hW => ⟨⟨fun i => ad (e_rf rho i), rfl, ⟨?_, fun k h1 h4 => ?_, fun i j hi hj hij => ?_⟩, ?_⟩, hS.F ht⟩) hS.2.2 hd hk
  · show ad (e_rf rho 0) = ad0 0
    rw [h0]
    exact hR.1 0 (Or.inl (by omega))
  · refine hR.2.1 _ ?_ (r1 k h4)
    refine Nat.one_le_iff_ne_zero.mpr fun h5 => ?_
    have := r2 k 0 h4 hne (by rw [h5, h0])
    omega
  · exact r2 i j hi hj (X.2.2.2.2.2.2.1 _ _ (r1 i hi) (r1 j hj) hij)
  · show va_P (dC, dI) vwCl (e_wd dA (fun i => ad (e_rf rho i)) h2) t.heap
    rw [ht, e_wd_P]
    intro i c hi
    have h6 := e_wd_P.mp hP _ _ (r3 i c hi)
    rw [e_rl_rn] at h6
    exact h6
end GE
theorem g_open {y2 : MethodName} {cc : ByteArray} {maxL d mc ms : Nat} {c0 : eC} {h2 : List eC} (own : String) (hown : y2.cls = own) (hy : plainName y2.cls = true) (hnm : y2.name = "<init>") (hlen : (e_ent [.ref 0] maxL).length = maxL) (hfit : 1 ≤ maxL) (hc0 : g_c 0 c0)
    (body : ∀ y : g_T, g_Y y → g_I y → g_F y h2 mc ms → g_mc y = mc → g_ms y = ms → e_G y own cc d 1 0 0 0 (e_ent [.ref 0] maxL) [] [c0]) : e_Cg y2 cc maxL d mc ms c0 h2 := by
  intro l dC dI dA a0 sz
  refine Met.ofW (cc := cc) (maxL := maxL) (ret := none) hy rfl ?_
  intro p e s m args below meth c s₁ B hml hv
  obtain ⟨rfl, hsz, hP, hK, hAO⟩ := hv
  subst hsz
  have hts := atoms_spec (ws := Cond.code y2 cc maxL none :: e_ws) B.pre
  have hfc := findClass_of_methodNamed B.named
  rw [hown] at hfc
  have hin := (name_of_methodNamed B.named B.method).1
  have hk := body (p, l, e, { frames := d, cells := mc, slots := ms, locals := 40 * d }, s, m, ([.ref a0] : List Value).toArray, below, meth, c, dC, dI, dA, g_A1 a0 s.heap.size, maxL, MQ below (g_Qc dC dI dA a0 s.heap.size h2) ([.ref a0] : List Value).toArray s mc ms (g_A1 a0 s.heap.size), (fun _ => a0), 1)
    ⟨fun q => ⟨fun h => h.elim (fun h => Or.inl ⟨0, Nat.one_pos, h⟩) Or.inr, fun h => h.elim (fun ⟨_, _, h⟩ => Or.inl h) Or.inr⟩, hAO⟩ (hin.trans hnm) ⟨rfl, B.returns, B.notSynchronized, rfl, rfl⟩ rfl rfl
    (fun _ => a0) ⟨fun _ _ => rfl, fun k h1 h2 => absurd h2 (by omega), Nat.le_refl _⟩
    ⟨B.exec, B.bytes, hml, hfc, fun w hw => hts w (List.mem_cons_of_mem _ hw), hK, fun i j hi hj _ => by omega, fun _ _ => Or.inl rfl, Nat.le_refl _, Nat.le_refl _, Nat.zero_le _, Nat.zero_le _⟩
  have hl := lv_entry ([.ref a0] : List Value) (n := maxL) hfit
  rw [lg_entry_eq]
  refine hk hlen rfl s.heap [] _ hP va_S.rf (e_has_mono hl fun q hq => ?_)
  have := e_ent_mem (ad := fun _ => a0) [.ref 0] maxL 0 q hq
  exact this
