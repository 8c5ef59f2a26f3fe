/-! ===== the law's element: it catches ===== -/
def el_hh : List (Nat × Nat × Nat × Nat) := [(0, 9, 12, 13), (0, 9, 16, 15)]
theorem el_pre {D : va_G} {dA : Nat → ClassId} {ad : Nat → Nat} {h h' : List eC} {H : Heap} (hP : va_P D vwCl (e_wd dA ad (h ++ h')) H) : va_P D vwCl (e_wd dA ad h) H := by
  rw [e_wd_P] at hP ⊢
  intro k c hc
  exact hP k c (by rw [List.getElem?_append_left (List.getElem?_eq_some_iff.mp hc).1]; exact hc)
theorem el_app {D : va_G} {dA : Nat → ClassId} {ad : Nat → Nat} {h h' : List eC} {H H1 : Heap} (hP : va_P D vwCl (e_wd dA ad (h ++ h')) H) (h1 : va_P D vwCl (e_wd dA ad h) H1) (hk : ∀ k, h.length ≤ k → k < (h ++ h').length → H1[ad k]? = H[ad k]?) : va_P D vwCl (e_wd dA ad (h ++ h')) H1 := by
  rw [e_wd_P] at hP h1 ⊢
  intro k c hc
  have hl := (List.getElem?_eq_some_iff.mp hc).1
  by_cases hkh : k < h.length
  · refine h1 k c ?_
    rw [List.getElem?_append_left hkh] at hc
    exact hc
  · exact va_at.kept (hP k c hc) (hk k (Nat.le_of_not_lt hkh) hl)
def el_o (g : Nat → Int64) : List eC := [.inl (1, 1, .inr (.inl g))]
def el_QL (dC : Nat → ClassId) (dI : Nat → Nat → Nat) (dA : Nat → ClassId) (ad : Nat → Nat) (h : List eC) (v : Int64) (k : Int32) : Array Value → State → Outcome → State → Prop :=
  va_Qi (S := Nat → Int64) (fun r g => r = k ∧ (k = 0 → g 0 = v)) (fun g t => va_P (dC, dI) vwCl (e_wd dA ad (h ++ el_o g)) t.heap) (e_A ad 33)
def el_XL (ad : Nat → Nat) : String → State → State → Prop := vx_X (S := Unit) (fun _ => False) (fun _ _ _ => True) (e_A ad 33)
theorem el_k {k : Int32} (hk : k = 1 ∨ k = 2) (P : Prop) : k = 0 → P := fun h => by rw [h] at hk; rcases hk with hk | hk <;> exact absurd hk (by decide)
abbrev el_ls (d i : Int32) : List (Option Value) := [some (.ref 0), some (.int d), some (.int i), some (.ref 32), none]
theorem elL0 {x : e_T} {d i : Int32} {h : List eC} (X : e_X x RL cL_element 10) (k : e_E x 5 (el_ls d i) [.int i, .int d, .ref 0, .int 0, .ref 32] h) : e_E x 0 (el_ls d i) [] h := by
  refine ei_aload_n X dL_element_0 rfl rfl ?_
  refine ei_iconst (v := 0) X dL_element_1 (by decide +kernel) ?_
  refine ei_aload_n X dL_element_2 rfl rfl ?_
  refine ei_iload_n X dL_element_3 rfl rfl ?_
  refine ei_iload_n X dL_element_4 rfl rfl ?_
  exact k
theorem elL1 {x : e_T} {d i : Int32} {h : List eC} (X : e_X x RL cL_element 10) (k : e_E x 15 (el_ls d i) [.int 1] h) : e_E x 14 (el_ls d i) [] h := ei_iconst (v := 1) X dL_element_14 (by decide +kernel) k
theorem elL2 {x : e_T} {d i : Int32} {h : List eC} (X : e_X x RL cL_element 10) (k : e_E x 19 (el_ls d i) [.int 2] h) : e_E x 18 (el_ls d i) [] h := ei_iconst (v := 2) X dL_element_18 (by decide +kernel) k
theorem elL3 (n : Nat) (w se sp hr lt hd sc : Int32) (so fi wo : Nat → Int32) (D T : St) (im : Bool) (Z : Nat → Sh) (be : Nat → Int32) (f : Nat → Int64) (v : Int64) {x : e_T} {d i : Int32} (X : e_X x RL cL_element 10) (k : e_E x 21 (el_ls d i) [.int 0] (oH (n, w, se, sp, hr, lt, hd, sc, so, fi, wo) D T im Z be ++ el_o (vp_updL f 0 v))) : e_E x 8 (el_ls d i) [.long v, .int 0, .ref 32] (oH (n, w, se, sp, hr, lt, hd, sc, so, fi, wo) D T im Z be ++ el_o f) := by
  refine ei_lastore (h := oH (n, w, se, sp, hr, lt, hd, sc, so, fi, wo) D T im Z be ++ el_o f) (k := 32) (n := 1) (g := f) (i := 0) (h2 := oH (n, w, se, sp, hr, lt, hd, sc, so, fi, wo) D T im Z be ++ el_o (vp_updL f 0 v)) X dL_element_8 rfl (by unfold vp_in; decide) rfl ?_
  refine ei_goto (tgt := 20) X dL_element_9 (by decide) ?_
  exact ei_iconst (v := 0) X dL_element_20 (by decide +kernel) k
set_option maxHeartbeats 2000000 in
theorem ct_L_element (n : Nat) (w se sp hr lt hd sc : Int32) (so fi wo : Nat → Int32) (D T : St) (im : Bool) (Z : Nat → Sh) (be : Nat → Int32) (f : Nat → Int64) (d i : Int32) (h_Z : ∀ k, k < 8 → okZ (Z k)) (l : Launch) (hl : l.stackTraces = false) (dC : Nat → ClassId) (dI : Nat → Nat → Nat) (dA : Nat → ClassId) (ad : Nat → Nat) :
    vx_Met l yL_element (Cond.codeWith yL_element cL_element 5 (some .int) el_hh :: e_ws) (el_R 10) (el_Pc dC dI dA ad [.ref 0, .int d, .int i, .ref 32] (oH (n, w, se, sp, hr, lt, hd, sc, so, fi, wo) D T im Z be ++ el_o f)) (el_QL dC dI dA ad (oH (n, w, se, sp, hr, lt, hd, sc, so, fi, wo) D T im Z be) (elemF Z d i) (elemE Z d i)) (el_XL ad) 1 6 (e_A ad 33) := by
  refine vx_ofWH (cc := cL_element) (maxL := 5) (ret := some .int) (by decide +kernel) rfl ?_
  intro p e s m args below meth c s₁ B hml hv
  obtain ⟨rfl, hP, hK, hinj, hF⟩ := hv
  have hts := atoms_spec (ws := Cond.codeWith yL_element cL_element 5 (some .int) el_hh :: e_ws) B.pre
  have hnm : s.vm.findClass RL = some m.cls := findClass_of_methodNamed B.named
  have htab : c.exceptionTable.toList = [⟨0, 9, 12, 13⟩, ⟨0, 9, 16, 15⟩] := vx_table (x := yL_element) B (hts _ List.mem_cons_self)
  have hall : ∀ (kx nx : Nat), e_X (p, l, e, el_R 10, s, m, (([.ref 0, .int d, .int i, .ref 32] : List Value).map (e_mv ad)).toArray, below, meth, c, dC, dI, dA, ad, e_A ad 33, 33, 5, min kx 1, min nx 6, vx_MQ below (el_QL dC dI dA ad (oH (n, w, se, sp, hr, lt, hd, sc, so, fi, wo) D T im Z be) (elemF Z d i) (elemE Z d i)) (el_XL ad) (([.ref 0, .int d, .int i, .ref 32] : List Value).map (e_mv ad)).toArray s 1 6 (e_A ad 33)) RL cL_element 10 := fun kx nx =>
    ⟨B.exec, B.bytes, hml, hnm, fun w hw => hts w (List.mem_cons_of_mem _ hw), hK, hinj, fun k hk => ⟨k, hk, rfl⟩, Nat.le_refl _, Nat.le_refl _, Nat.min_le_right _ _, Nat.min_le_right _ _⟩
  have X := hall 0 0
  have Y := hall 1 6
  have ret : ∀ (g : Nat → Int64) (v : Int32) (pc : Nat) (ls : List (Option Value)), decode cL_element pc = .ok (.ireturn, 1) → v = elemE Z d i → (v = 0 → g 0 = elemF Z d i) →
      e_E (p, l, e, el_R 10, s, m, (([.ref 0, .int d, .int i, .ref 32] : List Value).map (e_mv ad)).toArray, below, meth, c, dC, dI, dA, ad, e_A ad 33, 33, 5, min 1 1, min 6 6, vx_MQ below (el_QL dC dI dA ad (oH (n, w, se, sp, hr, lt, hd, sc, so, fi, wo) D T im Z be) (elemF Z d i) (elemE Z d i)) (el_XL ad) (([.ref 0, .int d, .int i, .ref 32] : List Value).map (e_mv ad)).toArray s 1 6 (e_A ad 33)) pc ls [.int v] (oH (n, w, se, sp, hr, lt, hd, sc, so, fi, wo) D T im Z be ++ el_o g) := by
    intro g v pc ls hdx he hgx hL hN H locs la hP hS hla
    refine vx_ret ?_
    exact W.iret Y.1 Y.2.1 B.returns (fun t ht hW => ⟨⟨_, g, rfl, ⟨he, fun h => hgx (he.trans h)⟩, by show va_P (dC, dI) vwCl (e_wd dA ad (oH (n, w, se, sp, hr, lt, hd, sc, so, fi, wo) D T im Z be ++ el_o g)) t.heap; rw [ht]; exact hP⟩, hS.F ht⟩) hS.2.2 hdx B.notSynchronized
  have hk : e_E (p, l, e, el_R 10, s, m, (([.ref 0, .int d, .int i, .ref 32] : List Value).map (e_mv ad)).toArray, below, meth, c, dC, dI, dA, ad, e_A ad 33, 33, 5, min 0 1, min 0 6, vx_MQ below (el_QL dC dI dA ad (oH (n, w, se, sp, hr, lt, hd, sc, so, fi, wo) D T im Z be) (elemF Z d i) (elemE Z d i)) (el_XL ad) (([.ref 0, .int d, .int i, .ref 32] : List Value).map (e_mv ad)).toArray s 1 6 (e_A ad 33)) 0 [some (.ref 0), some (.int d), some (.int i), some (.ref 32), none] [] (oH (n, w, se, sp, hr, lt, hd, sc, so, fi, wo) D T im Z be ++ el_o f) := by
    refine elL0 X ?_
    intro hL hN H locs la hP hS hla
    have hA32 : ∀ q, e_A ad (oH (n, w, se, sp, hr, lt, hd, sc, so, fi, wo) D T im Z be).length q → e_A ad 33 q := fun q ⟨k, hk, hq⟩ => ⟨k, Nat.lt_of_lt_of_le hk (by rw [el_len]; decide), hq⟩
    have hne : ∀ k, (oH (n, w, se, sp, hr, lt, hd, sc, so, fi, wo) D T im Z be).length ≤ k → k < (oH (n, w, se, sp, hr, lt, hd, sc, so, fi, wo) D T im Z be ++ el_o f).length → ¬ e_A ad (oH (n, w, se, sp, hr, lt, hd, sc, so, fi, wo) D T im Z be).length (ad k) := fun k h1 h2 ⟨j, hj, hq⟩ => by
      have := hinj k j h2 (Nat.lt_trans hj (Nat.lt_of_le_of_lt h1 h2)) hq
      omega
    have hlt : ∀ k, k < (oH (n, w, se, sp, hr, lt, hd, sc, so, fi, wo) D T im Z be ++ el_o f).length → ad k < H.size := fun k hk => va_at.lt (e_wd_P.mp hP k _ (List.getElem?_eq_getElem hk))
    have hrc : (oH (n, w, se, sp, hr, lt, hd, sc, so, fi, wo) D T im Z be ++ el_o f)[0]? = some (.inr (3, [.ref 1, .ref 5, .ref 9, .int (bz im), .ref 13, .ref 30])) := rfl
    have hFH : el_F (e_A ad 33) H s := hF.kept (fun a h1 h2 => hS.2.1 a h1 h2)
    refine vx_calll (vx_runV (As := ([.int d, .int i] : List Value).map (e_mv ad)) (b := ad 0) (rest := ([.int 0, .ref 32] : List Value).map (e_mv ad)) (Ts := e_ws) (own := RL) (cc := cL_element) (nL := 5) (index := 7) (n := 2) (C := yX9_element.cls) (bytes := cX9_element) (maxL := 3) (ret := some .long) ⟨X.1, X.2.1, X.2.2.1, X.2.2.2.1, X.2.2.2.2.1⟩ (ct_X9_element n w se sp hr lt hd sc so fi wo D T im Z be d i h_Z l hl dC dI dA ad) (cwV 2 X.2.2.2.2.1 (e_goodV ml_RL_7) rfl rfl rfl ⟨rfl, ml_RL_7.2.2.2.2.2.1⟩ ⟨by decide, by decide⟩)
      ⟨el_blind, va_recv hK hP (ci := 3) (q0 := 0) rfl (e_wd_get hrc), fun U hU hW => ⟨rfl, by rw [hU]; exact el_pre hP, va_K.moved hW.alike hK, fun i j hi hj => hinj i j (Nat.lt_of_lt_of_le hi (Nat.le_of_ble_eq_true rfl)) (Nat.lt_of_lt_of_le hj (Nat.le_of_ble_eq_true rfl)), by rw [hU]; exact (hFH.narrow hA32).warm hW⟩⟩ rfl rfl hla.1 rfl (lv_room (Nat.le_of_ble_eq_true rfl)) dL_element_5 ⟨by decide, by decide⟩) hS (fun q _ => hA32 q) hA32 (fun q _ => hA32 q) ?_ ?_
    · intro E ce q9 u t H1 locs1 ht hvm _ hB hz hkeep hS1 hcell hcv hcl
      obtain ⟨hP1, hE⟩ := hB
      rw [ht] at hP1
      have hP2 : va_P (dC, dI) vwCl (e_wd dA ad (oH (n, w, se, sp, hr, lt, hd, sc, so, fi, wo) D T im Z be ++ el_o f)) H1 := el_app hP hP1 (fun k h1 h2 => hkeep _ (hlt k h2) (hne k h1 h2))
      have hcast : ∀ E, va_Nw (.castable E E) s → (Cond.castable E E).before (([.ref 0, .int d, .int i, .ref 32] : List Value).map (e_mv ad)).toArray s = true := fun E h => va_Nw.use rfl h
      rcases hE with ⟨rfl, hk⟩ | ⟨rfl, hk⟩
      · refine vx_catch (own := RL) (name := XA) (E := XA) X.2.2.2.1 [] ⟨0, 9, 12, 13⟩ [⟨0, 9, 16, 15⟩] htab (fun z hz => nomatch hz) (by decide) (by decide) (X.2.2.2.2.1 _ (e_in 801 (by decide +kernel) (by decide +kernel))) (hcast _ (hF.1 _ (by decide +kernel))) hcell hcv hcl ?_
        refine lv_astore X.1 X.2.1 dL_element_12 hla (by decide) rfl (fun la2 hla2 => ?_)
        refine elL1 (d := d) (i := i) Y ?_ rfl rfl H1 locs1 la2 hP2 hS1 (e_has_mono hla2 fun q hq => List.mem_cons_of_mem _ (List.mem_filter.mpr ⟨hq, ?_⟩))
        · exact ret f 1 15 _ dL_element_15 hk.symm (fun h => absurd h (by decide))
        · simp only [e_ls, List.mem_cons, List.not_mem_nil, or_false] at hq
          rcases hq with rfl | rfl | rfl | rfl <;> rfl
      · refine vx_catch (own := RL) (name := XI) (E := XI) X.2.2.2.1 [⟨0, 9, 12, 13⟩] ⟨0, 9, 16, 15⟩ [] htab (fun z hz => Or.inr ?_) (by decide) (by decide) (X.2.2.2.2.1 _ (e_in 802 (by decide +kernel) (by decide +kernel))) (hcast _ (hF.1 _ (by decide +kernel))) hcell hcv hcl ?_
        · rw [List.mem_singleton.mp hz]
          exact ⟨by decide, XA, X.2.2.2.2.1 _ (e_in 801 (by decide +kernel) (by decide +kernel)), hF.2.1⟩
        refine lv_astore X.1 X.2.1 dL_element_16 hla (by decide) rfl (fun la2 hla2 => ?_)
        refine elL2 (d := d) (i := i) Y ?_ rfl rfl H1 locs1 la2 hP2 hS1 (e_has_mono hla2 fun q hq => List.mem_cons_of_mem _ (List.mem_filter.mpr ⟨hq, ?_⟩))
        · exact ret f 2 19 _ dL_element_19 hk.symm (fun h => absurd h (by decide))
        · simp only [e_ls, List.mem_cons, List.not_mem_nil, or_false] at hq
          rcases hq with rfl | rfl | rfl | rfl <;> rfl
    · intro r u t H1 locs1 ht hvm hpost hB hz hkeep hS1
      obtain ⟨rfl, hk⟩ := hpost
      have hP1 : va_P (dC, dI) vwCl (e_wd dA ad (oH (n, w, se, sp, hr, lt, hd, sc, so, fi, wo) D T im Z be)) H1 := by rw [← ht]; exact hB
      have hP2 : va_P (dC, dI) vwCl (e_wd dA ad (oH (n, w, se, sp, hr, lt, hd, sc, so, fi, wo) D T im Z be ++ el_o f)) H1 := el_app hP hP1 (fun k h1 h2 => hkeep _ (hlt k h2) (hne k h1 h2))
      refine elL3 n w se sp hr lt hd sc so fi wo D T im Z be f (elemF Z d i) (d := d) (i := i) Y ?_ rfl rfl H1 locs1 la hP2 hS1 hla
      exact ret _ 0 21 _ dL_element_21 hk.symm (fun _ => rfl)
  have hla := lv_entry (([.ref 0, .int d, .int i, .ref 32] : List Value).map (e_mv ad)) (n := 5) (Nat.le_of_ble_eq_true rfl)
  rw [lg_entry_eq]
  exact hk rfl rfl s.heap [] _ hP va_S.rf (e_has_mono hla fun q hq => e_ent_mem [.ref 0, .int d, .int i, .ref 32] 5 0 q hq)

