/-! ===== element's contracts ===== -/
def el_Q (dC : Nat → ClassId) (dI : Nat → Nat → Nat) (dA : Nat → ClassId) (ad : Nat → Nat) (h : List eC) (v : Int64) (k : Int32) : Array Value → State → Outcome → State → Prop :=
  va_Ql (S := Unit) (fun r _ => r = v ∧ k = 0) (fun _ t => va_P (dC, dI) vwCl (e_wd dA ad h) t.heap) (e_A ad h.length)
def el_X (dC : Nat → ClassId) (dI : Nat → Nat → Nat) (dA : Nat → ClassId) (ad : Nat → Nat) (h : List eC) (k : Int32) : String → State → State → Prop :=
  vx_X (S := Unit) (fun _ => True) (fun E _ t => va_P (dC, dI) vwCl (e_wd dA ad h) t.heap ∧ (E = XA ∧ k = 1 ∨ E = XI ∧ k = 2)) (e_A ad h.length)
def el_R (d : Nat) : Room := { frames := d, cells := 1, slots := 6, locals := 40 * d }
/-- a throw of the face -/
theorem el_throw {p : Program} {l : Launch} {e : Env} {s : State} {m : MethodId} {args : Array Value} {below : List Frame} {meth : Method} {c : Code} {dC : Nat → ClassId} {dI : Nat → Nat → Nat} {dA : Nat → ClassId} {ad : Nat → Nat} {nL : Nat} {cc : ByteArray} {d pc : Nat} {h : List eC} {v : Int64} {k : Int32} {ls : List (Option Value)} {cls text : String} {ik is ic : Nat}
    (hl : l.stackTraces = false) (X : e_X (p, l, e, el_R 8, s, m, args, below, meth, c, dC, dI, dA, ad, e_A ad h.length, h.length, nL, 0, 0, vx_MQ below (el_Q dC dI dA ad h v k) (el_X dC dI dA ad h k) args s 1 6 (e_A ad h.length)) RX9 cc d) (hlk : meth.locks = false) (hout : ∀ x ∈ c.exceptionTable.toList, False) (hF : el_F (e_A ad h.length) s.heap s)
    (hwA : ∀ w ∈ (vx_atS RX9 ic cls el_ch).filter goodWord, w ∈ e_ws) (hoA : ∀ w ∈ Cond.classLink RX9 ik cls :: Cond.initialized cls :: vx_atS RX9 ic cls el_ch, vx_ot w = true) (hbA : ∀ w ∈ (vx_atS RX9 ic cls el_ch).filter (fun w => !goodWord w), w ∈ el_B)
    (hk : Cond.classLink RX9 ik cls ∈ e_ws) (hini : Cond.initialized cls ∈ e_ws) (hcls : Bundle.fit cls = true) (hstr : ∃ a, vk_R RX9 is text a s)
    (d0 : decode cc pc = .ok (.new ik, 3)) (d3 : decode cc (pc + 3) = .ok (.dup, 1)) (d4 : decode cc (pc + 4) = .ok (.ldc_w is, 3)) (d7 : decode cc (pc + 7) = .ok (.invokespecial ic, 3)) (d10 : decode cc (pc + 10) = .ok (.athrow, 1))
    (hx : cls = XA ∧ k = 1 ∨ cls = XI ∧ k = 2) : e_E (p, l, e, el_R 8, s, m, args, below, meth, c, dC, dI, dA, ad, e_A ad h.length, h.length, nL, 0, 0, vx_MQ below (el_Q dC dI dA ad h v k) (el_X dC dI dA ad h k) args s 1 6 (e_A ad h.length)) pc ls [] h := by
  intro hL hN H locs la hP hS hla
  obtain ⟨sa, hstr⟩ := hstr
  have hlen : el_ch.length = 2 := rfl
  refine vx_throwSW (A := e_A ad h.length) (names := el_ch) X.1 X.2.1 hl X.2.2.2.1 hcls (by decide +kernel) (X.2.2.2.2.1 _ hk) (X.2.2.2.2.1 _ hini) hstr (vx_hat (B := el_B) (fun w hw => X.2.2.2.2.1 _ (hwA w hw)) hbA (fun w hw => va_Nw.use (el_otB w hw) (hF.1 w hw))) hoA hF.2.2.2.2.2.1 hF.2.2.2.2.2.2 hS (hla.1.trans X.2.2.1.symm) d0 d3 d4 d7 d10 (fun x hx => (hout x hx).elim) (by rw [hlen]; decide) (by rw [hlen]; show 0 + _ ≤ 320; decide) (by decide) (by decide) hlk (fun t hvm hz hq => ?_) hS.2.2 (Nat.le_refl _) (Nat.le_refl _)
  refine ⟨(), trivial, ⟨va_P.kept hP (fun j q hj => hq q.1 (va_at.lt (hP j q hj))), hx⟩, Nat.le_trans hS.1 hz, fun q h1 h2 => ?_⟩
  rw [hq q (Nat.lt_of_lt_of_le h1 hS.1)]
  exact hS.2.1 q h1 h2
theorem el_len {N D T : St} {im : Bool} {Z : Nat → Sh} {be : Nat → Int32} : (oH N D T im Z be).length = 32 := rfl
set_option maxHeartbeats 1000000 in
/-- element: it returns or throws -/
theorem ct_X9_element (n : Nat) (w se sp hr lt hd sc : Int32) (so fi wo : Nat → Int32) (D T : St) (im : Bool) (Z : Nat → Sh) (be : Nat → Int32) (d i : Int32) (h_Z : ∀ k, k < 8 → okZ (Z k)) (l : Launch) (hl : l.stackTraces = false) (dC : Nat → ClassId) (dI : Nat → Nat → Nat) (dA : Nat → ClassId) (ad : Nat → Nat) :
    vx_Met l yX9_element (Cond.code yX9_element cX9_element 3 (some .long) :: e_ws) (el_R 8) (el_Pc dC dI dA ad [.ref 0, .int d, .int i] (oH (n, w, se, sp, hr, lt, hd, sc, so, fi, wo) D T im Z be)) (el_Q dC dI dA ad (oH (n, w, se, sp, hr, lt, hd, sc, so, fi, wo) D T im Z be) (elemF Z d i) (elemE Z d i)) (el_X dC dI dA ad (oH (n, w, se, sp, hr, lt, hd, sc, so, fi, wo) D T im Z be) (elemE Z d i)) 1 6 (e_A ad (oH (n, w, se, sp, hr, lt, hd, sc, so, fi, wo) D T im Z be).length) := by
  refine vx_ofW (cc := cX9_element) (maxL := 3) (ret := some .long) (by decide +kernel) rfl ?_
  intro p e s m args below meth c s₁ B hml ht hv
  obtain ⟨rfl, hP, hK, hinj, hF⟩ := hv
  have hts := atoms_spec (ws := Cond.code yX9_element cX9_element 3 (some .long) :: e_ws) B.pre
  have hnm : s.vm.findClass RX9 = some m.cls := findClass_of_methodNamed B.named
  have X : e_X (p, l, e, el_R 8, s, m, (([.ref 0, .int d, .int i] : List Value).map (e_mv ad)).toArray, below, meth, c, dC, dI, dA, ad, e_A ad (oH (n, w, se, sp, hr, lt, hd, sc, so, fi, wo) D T im Z be).length, (oH (n, w, se, sp, hr, lt, hd, sc, so, fi, wo) D T im Z be).length, 3, 0, 0, vx_MQ below (el_Q dC dI dA ad (oH (n, w, se, sp, hr, lt, hd, sc, so, fi, wo) D T im Z be) (elemF Z d i) (elemE Z d i)) (el_X dC dI dA ad (oH (n, w, se, sp, hr, lt, hd, sc, so, fi, wo) D T im Z be) (elemE Z d i)) (([.ref 0, .int d, .int i] : List Value).map (e_mv ad)).toArray s 1 6 (e_A ad (oH (n, w, se, sp, hr, lt, hd, sc, so, fi, wo) D T im Z be).length)) RX9 cX9_element 8 :=
    ⟨B.exec, B.bytes, hml, hnm, fun w hw => hts w (List.mem_cons_of_mem _ hw), hK, hinj, fun k hk => ⟨k, hk, rfl⟩, Nat.le_refl _, Nat.le_refl _, Nat.zero_le _, Nat.zero_le _⟩
  have hk := elB9 n w se sp hr lt hd sc so fi wo D T im Z be d i h_Z X
    (fun hq => el_throw (text := "no such shelf") (is := 317) hl X B.notSynchronized ht hF el_wA el_oA el_bA (e_in 807 (by decide +kernel) (by decide +kernel)) (e_in 84 (by decide +kernel) (by decide +kernel)) (by decide +kernel) hF.2.2.1 dX9_element_7 dX9_element_10 dX9_element_11 dX9_element_14 dX9_element_17 (Or.inl ⟨rfl, hq⟩))
    (fun hq => el_throw (text := "no row") (is := 324) hl X B.notSynchronized ht hF el_wI el_oI el_bI (e_in 874 (by decide +kernel) (by decide +kernel)) (e_in 85 (by decide +kernel) (by decide +kernel)) (by decide +kernel) hF.2.2.2.1 dX9_element_26 dX9_element_29 dX9_element_30 dX9_element_33 dX9_element_36 (Or.inr ⟨rfl, hq⟩))
    (fun hq => el_throw (text := "no such place") (is := 327) hl X B.notSynchronized ht hF el_wI el_oI el_bI (e_in 874 (by decide +kernel) (by decide +kernel)) (e_in 85 (by decide +kernel) (by decide +kernel)) (by decide +kernel) hF.2.2.2.2.1 dX9_element_50 dX9_element_53 dX9_element_54 dX9_element_57 dX9_element_60 (Or.inr ⟨rfl, hq⟩))
    (fun hq => by
      intro hL hN H locs la hP hS hla
      refine vx_ret (W.widen (Nat.zero_le 1) (Nat.zero_le 6) ?_)
      exact W.lret X.1 X.2.1 B.returns (fun t ht hW => ⟨⟨_, (), rfl, ⟨rfl, hq⟩, by show va_P (dC, dI) vwCl (e_wd dA ad (oH (n, w, se, sp, hr, lt, hd, sc, so, fi, wo) D T im Z be)) t.heap; rw [ht]; exact hP⟩, hS.F ht⟩) hS.2.2 dX9_element_73 B.notSynchronized)
  have hla := lv_entry (([.ref 0, .int d, .int i] : List Value).map (e_mv ad)) (n := 3) (Nat.le_of_ble_eq_true rfl)
  rw [lg_entry_eq]
  exact hk rfl rfl s.heap [] _ hP va_S.rf (e_has_mono hla fun q hq => e_ent_mem [.ref 0, .int d, .int i] 3 0 q hq)

