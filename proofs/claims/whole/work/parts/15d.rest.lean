/-! ===== image, restore, element ===== -/
set_option maxHeartbeats 1000000 in
theorem lw_image (n : Nat) (w se sp hr lt hd sc : Int32) (so fi wo : Nat → Int32) (I : Nat → Int32) (A : Nat → Nat → Int32) (B : Nat → Nat → Int64) (K : Value) {x : e_T} {D T : St} {im : Bool} {Z : Nat → Sh} {be : Nat → Int32} {g : Nat → Int64} {k : Nat} (X : e_X x RL cL_law 18) (hR : lwR (n, w, se, sp, hr, lt, hd, sc, so, fi, wo) T im Z be (I, A, B, K)) (kk : l_K x k g) : e_E x 1334 (l_ls k) [] (lC (n, w, se, sp, hr, lt, hd, sc, so, fi, wo) D T im Z be g (n, w, se, sp, hr, lt, hd, sc, so, fi, wo) (I, A, B, K)) := by
  obtain ⟨hG, hM, hRS, h0, h30, -⟩ := hR
  refine ei_aload_n X dL_law_1334 rfl rfl ?_
  refine l_callF X ml_RL_152 dL_law_1335 (ct_X9_image _ _ _ _ _ _ _ _ _ _ _ _ _ _ _ _ h0) rfl rfl (by decide) (by decide) (Nat.le_of_ble_eq_true rfl) (fun D2 be2 hb2 => ?_)
  refine ei_aload_n X dL_law_1338 rfl rfl ?_
  refine l_callM X ml_RL_155 dL_law_1339 (ct_X10_image _ _ _ _ _ _ _ _ _ _ _ _ _ _ _) rfl rfl rfl (by decide) (by decide) (Nat.le_of_ble_eq_true rfl) (fun r h2 hp => ?_)
  obtain ⟨rfl, J, j30, jo, rfl⟩ := hp
  rw [lC_pM]
  refine l_eqI (tgt := 1734) X dL_law_1342 (by decide) ?_
  refine kk _ _ _ _ _ _ _ ⟨hG, ⟨(jo 11 (Or.inl rfl)).trans hM.1, (jo 12 (Or.inr rfl)).trans hM.2⟩, RS_A hRS (fun c h1 h2 => updA_off (by omega)), hb2, j30, fun _ => ⟨?_, hG⟩⟩
  show updA A 14 (encF (n, w, se, sp, hr, lt, hd, sc, so, fi, wo)) 14 = _
  simp [updA]
set_option maxHeartbeats 1000000 in
theorem lw_restore (n : Nat) (w se sp hr lt hd sc : Int32) (so fi wo : Nat → Int32) (n2 : Nat) (w2 se2 sp2 hr2 lt2 hd2 sc2 : Int32) (so2 fi2 wo2 : Nat → Int32) (I : Nat → Int32) (A : Nat → Nat → Int32) (B : Nat → Nat → Int64) (K : Value) {x : e_T} {D : St} {im : Bool} {Z : Nat → Sh} {be : Nat → Int32} {g : Nat → Int64} {k : Nat} (X : e_X x RL cL_law 18) (hR : lwR (n, w, se, sp, hr, lt, hd, sc, so, fi, wo) (n2, w2, se2, sp2, hr2, lt2, hd2, sc2, so2, fi2, wo2) im Z be (I, A, B, K)) (kk : l_K x k g) : e_E x 1347 (l_ls k) [] (lC (n, w, se, sp, hr, lt, hd, sc, so, fi, wo) D (n2, w2, se2, sp2, hr2, lt2, hd2, sc2, so2, fi2, wo2) im Z be g (n, w, se, sp, hr, lt, hd, sc, so, fi, wo) (I, A, B, K)) := by
  have h0 := hR.2.2.2.1
  have h30 : I 30 = bz im := hR.2.2.2.2.1
  have h6 := hR.2.2.2.2.2
  refine ei_aload_n X dL_law_1347 rfl rfl ?_
  refine l_callF X ml_RL_156 dL_law_1348 (ct_X9_restore _ _ _ _ _ _ _ _ _ _ _ _ _ _ _ _ h0) rfl rfl (by decide) (by decide) (Nat.le_of_ble_eq_true rfl) (fun D2 be2 hb2 => ?_)
  refine ei_aload_n X dL_law_1351 rfl rfl ?_
  refine l_callM X ml_RL_159 dL_law_1352 (ct_X10_restore _ _ _ _ _ _ _ _ _ _ _ n2 w2 se2 sp2 hr2 lt2 hd2 sc2 so2 fi2 wo2 _ _ _ _ (fun q => by
    cases im with
    | false => exact absurd h30 q
    | true => exact (h6 rfl).1)) rfl rfl rfl (by decide) (by decide) (Nat.le_of_ble_eq_true rfl) (fun r h2 hp => ?_)
  cases im with
  | false =>
    rw [if_pos (show I 30 = 0 from h30)] at hp
    obtain ⟨rfl, M2, hk2, rfl⟩ := hp
    rw [lC_pM]
    refine l_eqI (tgt := 1734) X dL_law_1355 (by decide) ?_
    exact kk _ _ _ _ _ _ _ (hR.k hR.1 hb2 hk2)
  | true =>
    rw [if_neg (show ¬ I 30 = 0 by rw [h30]; decide)] at hp
    obtain ⟨rfl, M2, hk2, rfl⟩ := hp
    rw [lC_pM]
    refine l_eqI (tgt := 1734) X dL_law_1355 (by decide) ?_
    exact kk _ _ _ _ _ _ _ (hR.k (h6 rfl).2 hb2 hk2)
theorem el_goodS : GoodIn e_ws (va_wsS RL 176 yL_element (Cond.codeWith yL_element cL_element 5 (some .int) el_hh :: e_ws)) := by
  have h1 : Cond.methodLink RL 176 yL_element ∈ e_ws := e_in 798 (by decide +kernel) (by decide +kernel)
  have h2 : Cond.static yL_element ∈ e_ws := e_in 799 (by decide +kernel) (by decide +kernel)
  have h3 : Cond.initialized yL_element.cls ∈ e_ws := e_in 66 (by decide +kernel) (by decide +kernel)
  have h4 : Cond.codeWith yL_element cL_element 5 (some .int) el_hh ∈ e_ws := e_in 800 (by decide +kernel) (by decide +kernel)
  intro w hw
  unfold va_wsS at hw
  rcases List.mem_append.mp hw with hw | hw
  · simp only [List.mem_cons, List.not_mem_nil, or_false] at hw
    rcases hw with rfl | rfl | rfl
    · exact ⟨h1, e_good h1⟩
    · exact ⟨h2, e_good h2⟩
    · exact ⟨h3, e_good h3⟩
  · rcases List.mem_cons.mp hw with rfl | hw
    · exact ⟨h4, e_good h4⟩
    · exact ⟨hw, e_good hw⟩
set_option maxHeartbeats 2000000 in
theorem l_callE (n : Nat) (w se sp hr lt hd sc : Int32) (so fi wo : Nat → Int32) (D T : St) (im : Bool) (Z : Nat → Sh) (be : Nat → Int32) {p : Program} {l : Launch} {e : Env} {R : Room} {s : State} {m : MethodId} {args : Array Value} {below : List Frame} {meth : Method} {c : Code} {dC : Nat → ClassId} {dI : Nat → Nat → Nat} {dA : Nat → ClassId} {ad : Nat → Nat} {A : Nat → Prop} {cells slots : Nat} {Q : State → Prop} {g : Nat → Int64} {S : St} {M : MX} {pc : Nat} {ls : List (Option Value)} {st : List Value} {d i : Int32}
    (hl : l.stackTraces = false) (X : e_X (p, l, e, R, s, m, args, below, meth, c, dC, dI, dA, ad, A, 54, 8, cells, slots, Q) RL cL_law 18) (hF : el_F A s.heap s) (hcs : cells + 1 ≤ R.cells) (hss : slots + 6 ≤ R.slots) (hZ : ∀ k, k < 8 → okZ (Z k)) (hdx : decode cL_law pc = .ok (.invokestatic 176, 3)) (hcat : (st.map fun v => v.category).sum ≤ 8)
    (kk : ∀ g2 : Nat → Int64, (elemE Z d i = 0 → g2 0 = elemF Z d i) → e_E (p, l, e, R, s, m, args, below, meth, c, dC, dI, dA, ad, A, 54, 8, cells + 1, slots + 6, Q) (pc + 3) ls (.int (elemE Z d i) :: st) (lC (n, w, se, sp, hr, lt, hd, sc, so, fi, wo) D T im Z be g2 S M)) :
    e_E (p, l, e, R, s, m, args, below, meth, c, dC, dI, dA, ad, A, 54, 8, cells, slots, Q) pc ls (.ref 32 :: .int i :: .int d :: .ref 0 :: st) (lC (n, w, se, sp, hr, lt, hd, sc, so, fi, wo) D T im Z be g S M) := by
  intro hL hN H locs la hP hS hla
  have hR1 := X.2.2.2.2.2.2.2.2.1
  have hR2 := X.2.2.2.2.2.2.2.2.2.1
  have hK := X.2.2.2.2.2.1
  have hinj := X.2.2.2.2.2.2.1
  have hall := X.2.2.2.2.2.2.2.1
  have hA33 : ∀ q, e_A ad 33 q → A q := by
    rintro q ⟨k, hk, rfl⟩
    exact hall k (by omega)
  have hFH : el_F (e_A ad 33) H s := (hF.kept (fun a h1 h2 => hS.2.1 a h1 h2)).narrow hA33
  have hP3 : va_P (dC, dI) vwCl (e_wd dA ad ((oH (n, w, se, sp, hr, lt, hd, sc, so, fi, wo) D T im Z be ++ el_o g) ++ (mH S M).map (e_rn (e_rf l_rm)))) H := hP
  have hsum := e_cats ad st
  refine vx_calli (vx_runSX (hh := el_hh) (As := ([.ref 0, .int d, .int i, .ref 32] : List Value).map (e_mv ad)) (rest := st.map (e_mv ad)) (Ts := e_ws) (own := RL) (cc := cL_law) (nL := 8) (index := 176) (n := 4) (bytes := cL_element) (maxL := 5) (ret := some .int) ⟨X.1, X.2.1, X.2.2.1, X.2.2.2.1, X.2.2.2.2.1⟩ (ct_L_element n w se sp hr lt hd sc so fi wo D T im Z be g d i hZ l hl dC dI dA ad) (vx_cwSW 4 X.2.2.2.2.1 el_goodS rfl rfl rfl ⟨by decide, by decide, by decide +kernel⟩ ⟨by show 10 + 1 ≤ _; omega, by show 8 + (5 + 11) + 40 * 10 ≤ _; omega⟩)
    ⟨el_blind, fun U hU hW => ⟨rfl, by rw [hU]; exact el_pre hP3, va_K.moved hW.alike hK, fun i j hi hj => hinj i j (Nat.lt_of_lt_of_le hi (Nat.le_of_ble_eq_true rfl)) (Nat.lt_of_lt_of_le hj (Nat.le_of_ble_eq_true rfl)), by rw [hU]; exact hFH.warm hW⟩⟩ rfl rfl hla.1 rfl (lv_room (by rw [hsum]; exact hcat)) hdx ⟨hcs, hss⟩) hS (fun q _ => hA33 q) hA33 (fun q _ => hA33 q) ?_ ?_
  · intro E ce q9 u t H1 locs1 ht hvm hfalse
    exact hfalse.elim
  · intro r g2 t H1 locs1 ht hvm hpost hB hz hkeep hS1
    obtain ⟨rfl, hv⟩ := hpost
    have hB1 : va_P (dC, dI) vwCl (e_wd dA ad (oH (n, w, se, sp, hr, lt, hd, sc, so, fi, wo) D T im Z be ++ el_o g2)) H1 := by rw [← ht]; exact hB
    have hP4 : va_P (dC, dI) vwCl (e_wd dA ad ((oH (n, w, se, sp, hr, lt, hd, sc, so, fi, wo) D T im Z be ++ el_o g2) ++ (mH S M).map (e_rn (e_rf l_rm)))) H1 := by
      refine el_app2 hP3 hB1 rfl (fun k h3 h4 => hkeep _ (va_at.lt (e_wd_P.mp hP3 k _ (List.getElem?_eq_getElem h4))) ?_)
      have h33 : (oH (n, w, se, sp, hr, lt, hd, sc, so, fi, wo) D T im Z be ++ el_o g).length = 33 := rfl
      rintro ⟨j, hj, hj2⟩
      have h54 : ((oH (n, w, se, sp, hr, lt, hd, sc, so, fi, wo) D T im Z be ++ el_o g) ++ (mH S M).map (e_rn (e_rf l_rm))).length = 54 := rfl
      have := hinj _ _ (by omega) (by omega) hj2
      omega
    exact kk g2 hv hL rfl H1 locs1 la hP4 hS1 hla

