/-! ===== the face's element: it throws ===== -/
set_option maxRecDepth 100000 in
set_option maxHeartbeats 1000000 in
theorem elB9 (n : Nat) (w se sp hr lt hd sc : Int32) (so fi wo : Nat → Int32) (D T : St) (im : Bool) (Z : Nat → Sh) (be : Nat → Int32) (d i : Int32) (h_Z : ∀ k, k < 8 → okZ (Z k)) {x : e_T} (X : e_X x RX9 cX9_element 8)
    (k1 : elemE Z d i = 1 → e_E x 7 [some (.ref 0), some (.int d), some (.int i)] [] (oH (n, w, se, sp, hr, lt, hd, sc, so, fi, wo) D T im Z be))
    (k2 : elemE Z d i = 2 → e_E x 26 [some (.ref 0), some (.int d), some (.int i)] [] (oH (n, w, se, sp, hr, lt, hd, sc, so, fi, wo) D T im Z be))
    (k3 : elemE Z d i = 2 → e_E x 50 [some (.ref 0), some (.int d), some (.int i)] [] (oH (n, w, se, sp, hr, lt, hd, sc, so, fi, wo) D T im Z be))
    (k0 : elemE Z d i = 0 → e_E x 73 [some (.ref 0), some (.int d), some (.int i)] [.long (elemF Z d i)] (oH (n, w, se, sp, hr, lt, hd, sc, so, fi, wo) D T im Z be)) : e_E x 0 [some (.ref 0), some (.int d), some (.int i)] [] (oH (n, w, se, sp, hr, lt, hd, sc, so, fi, wo) D T im Z be) := by
  refine ei_iload_n X dX9_element_0 rfl rfl ?_
  refine ei_callT1 X ml_RX9_228 dX9_element_1 (ct_X9_isShelf _ _) rfl rfl (by decide) (by decide) (Nat.le_of_ble_eq_true rfl) ?_
  refine ei_ifz_ne (tgt := 18) X dX9_element_4 (by decide) (fun cq4 => ?_) (fun cq4 => ?_)
  · refine ei_aload_n X dX9_element_18 rfl rfl ?_
    refine ei_iload_n X dX9_element_19 rfl rfl ?_
    refine ei_callI1 X ml_RX9_36 dX9_element_20 (ct_X9_rowRefusal _ _ _ _ _ _ _ _ _ _ _ _ _ _ _ _ _) rfl rfl (by decide) (by decide) rfl (Nat.le_of_ble_eq_true rfl) ?_
    refine ei_if_eq (tgt := 37) X dX9_element_23 (by decide) (fun cq23 => ?_) (fun cq23 => ?_)
    · obtain ⟨k, hk, rfl, hz⟩ := wrongRow_0 cq23
      have hnc : nc (nI k) = k := nc_nI (by omega)
      obtain ⟨hzn, hzk⟩ := okZ_n h_Z hk hz
      refine ei_aload_n X dX9_element_37 rfl rfl ?_
      refine ei_getf X fl_RX9_24 dX9_element_38 rfl rfl ?_
      refine ei_iload_n X dX9_element_41 rfl rfl ?_
      refine ei_aaload_n X dX9_element_42 rfl (by first | omega | assumption) (by decide) rfl ?_
      refine ei_iload_n X dX9_element_43 rfl rfl ?_
      refine ei_cv1 [14 + 2 * k, 14 + 2 * k + 1] (oH_gZ _ _ _ _ _ _ hk) (oH_pZ0 _ _ _ _ _ _ hk) X ml_RX9_309 dX9_element_44 (ct_X4_hasPlace (Z k) i hzn) rfl rfl (by decide) (by decide) (oH_sO _ _ _ _ _ _ hk) (Nat.le_of_ble_eq_true rfl) (nd2 k) ?_
      refine ei_ifz_ne (tgt := 61) X dX9_element_47 (by decide) (fun cq47 => ?_) (fun cq47 => ?_)
      · obtain ⟨j, hj, rfl⟩ := (hasF_iff (by omega)).mp cq47
        have hnj : nc (nI j) = j := nc_nI (by omega)
        refine ei_aload_n X dX9_element_61 rfl rfl ?_
        refine ei_getf X fl_RX9_24 dX9_element_62 rfl rfl ?_
        refine ei_iload_n X dX9_element_65 rfl rfl ?_
        refine ei_aaload_n X dX9_element_66 rfl (by first | omega | assumption) (by decide) rfl ?_
        refine ei_getf X fl_RX9_281 dX9_element_67 (oH_sO _ _ _ _ _ _ hk) rfl ?_
        refine ei_iload_n X dX9_element_70 rfl rfl ?_
        refine ei_iaload_n X dX9_element_71 (oH_sC _ _ _ _ _ _ hk) (by first | omega | assumption) (by decide) ?_
        refine ei_i2l X dX9_element_72 ?_
        have w : ¬ wrongRowF Z (nI k) = -1 := (by rw [cq23]; decide)
        have he : elemE Z (nI k) (nI j) = 0 := (by unfold elemE; rw [if_neg w, hnc, if_pos ⟨cq23, cq47⟩])
        have hF : elemF Z (nI k) (nI j) = (zC (Z k) j).toInt64 := (by unfold elemF; rw [if_pos he, hnc, hnj])
        have k9 := k0 he
        rw [hF] at k9
        exact k9
      · have w : ¬ wrongRowF Z (nI k) = -1 := (by rw [cq23]; decide)
        exact k3 (by unfold elemE; rw [if_neg w, hnc, if_neg (fun z => Bool.false_ne_true (cq47.symm.trans z.2))])
    · have w : ¬ wrongRowF Z d = -1 := (by unfold wrongRowF; rw [cq4, if_pos rfl]; split <;> (try split) <;> decide)
      exact k2 (by unfold elemE; rw [if_neg w, if_neg (fun z => cq23 z.1)])
  · have w : wrongRowF Z d = -1 := (by unfold wrongRowF; rw [cq4, if_neg Bool.false_ne_true])
    exact k1 (by unfold elemE; rw [if_pos w])
def XA : String := "java/lang/IllegalArgumentException"
def XI : String := "java/lang/IllegalStateException"
def el_ch : List String := ["java/lang/RuntimeException", "java/lang/Exception"]
/-- what a throw stands on and may not be lost on the way -/
def el_B : List Cond := [.castable XA XA, .castable XI XI, .declares (Bundle.initS "java/lang/RuntimeException"), .declares (Bundle.initS "java/lang/Exception"), .declares (Bundle.initS Bundle.tN)]
def el_F (A : Nat → Prop) (H : Heap) (U : State) : Prop :=
  (∀ w ∈ el_B, va_Nw w U) ∧ va_Nc XI XA U ∧ (∃ a, vk_R RX9 317 "no such shelf" a U) ∧ (∃ a, vk_R RX9 324 "no row" a U) ∧ (∃ a, vk_R RX9 327 "no such place" a U) ∧ vx_Zq Bundle.tN "UNASSIGNED_STACK" Bundle.steD A U H ∧ vx_Zq Bundle.tN "SUPPRESSED_SENTINEL" Bundle.listD A U H
theorem el_F.warm {A : Nat → Prop} {H : Heap} {s U : State} (hW : s.WarmedH U.vm) (h : el_F A H s) : el_F A H U := by
  obtain ⟨h1, h2, ⟨a3, h3⟩, ⟨a4, h4⟩, ⟨a5, h5⟩, h6, h7⟩ := h
  refine ⟨fun w hw => ?_, h2.moved hW.alike, ⟨a3, h3.warm hW⟩, ⟨a4, h4.warm hW⟩, ⟨a5, h5.warm hW⟩, h6.moved hW.alike, h7.moved hW.alike⟩
  have h9 := h1 w hw
  simp only [el_B, List.mem_cons, List.not_mem_nil, or_false] at hw
  rcases hw with rfl | rfl | rfl | rfl | rfl
  · exact va_Nw.warmC hW h9
  · exact va_Nw.warmC hW h9
  · exact va_Nw.warmD hW h9
  · exact va_Nw.warmD hW h9
  · exact va_Nw.warmD hW h9
theorem el_F.kept {A : Nat → Prop} {H H1 : Heap} {U : State} (h : el_F A H U) (hq : ∀ a : Nat, a < H.size → ¬ A a → H1[a]? = H[a]?) : el_F A H1 U :=
  ⟨h.1, h.2.1, h.2.2.1, h.2.2.2.1, h.2.2.2.2.1, h.2.2.2.2.2.1.kept hq, h.2.2.2.2.2.2.kept hq⟩
theorem el_F.narrow {A B : Nat → Prop} {H : Heap} {U : State} (h : el_F A H U) (hAB : ∀ q, B q → A q) : el_F B H U :=
  ⟨h.1, h.2.1, h.2.2.1, h.2.2.2.1, h.2.2.2.2.1, h.2.2.2.2.2.1.narrow hAB, h.2.2.2.2.2.2.narrow hAB⟩
def el_Pc (dC : Nat → ClassId) (dI : Nat → Nat → Nat) (dA : Nat → ClassId) (ad : Nat → Nat) (As : List Value) (h : List eC) : Array Value → State → Prop :=
  va_Pc (As.map (e_mv ad)) (fun U => va_P (dC, dI) vwCl (e_wd dA ad h) U.heap ∧ va_K (dC, dI) vwCl (e_tys dA) U ∧ (∀ i j, i < h.length → j < h.length → ad i = ad j → i = j) ∧ el_F (e_A ad h.length) U.heap U)
theorem el_blind {dC : Nat → ClassId} {dI : Nat → Nat → Nat} {dA : Nat → ClassId} {ad : Nat → Nat} {As : List Value} {h : List eC} : FrameBlind (el_Pc dC dI dA ad As h) := fun a U g mk q => by
  obtain ⟨q1, q2, q3, q4, q5⟩ := q
  exact ⟨q1, q2, va_K.moved (u := U) (U := U.calling g mk a) (Vm.Alike.refl U.vm) q3, q4, el_F.warm (s := U) (U := U.calling g mk a) (State.WarmedH.refl U) q5⟩
/-- the words of the two throws, but the four of the heap -/
theorem el_in {L : List Cond} (is : List Nat) (h : L.filter goodWord = is.filterMap (fun i => lw_tbl[i]?)) : ∀ w ∈ L.filter goodWord, w ∈ e_ws := fun w hw => List.mem_filter.mpr ⟨by rw [h] at hw; obtain ⟨i, -, hi⟩ := List.mem_filterMap.mp hw; exact List.mem_of_getElem? hi, (List.mem_filter.mp hw).2⟩
theorem el_wA : ∀ w ∈ (vx_atS RX9 319 XA el_ch).filter goodWord, w ∈ e_ws := el_in [81, 829, 838, 841, 844, 846, 830, 831, 92, 93, 832, 837, 842, 862, 819, 863, 821, 864, 823, 833, 835, 825, 858, 859, 861, 825, 849, 850, 851, 852, 852, 853, 854, 855, 855, 856, 857, 858, 848, 808, 816, 817, 818, 820, 822, 824, 828, 827, 826] (by decide +kernel)
theorem el_wI : ∀ w ∈ (vx_atS RX9 326 XI el_ch).filter goodWord, w ∈ e_ws := el_in [81, 829, 838, 841, 844, 846, 830, 831, 92, 93, 832, 837, 842, 862, 819, 863, 821, 864, 823, 833, 835, 825, 858, 859, 861, 825, 885, 886, 887, 852, 852, 853, 854, 855, 855, 856, 857, 858, 884, 875, 877, 840, 878, 879, 880, 881, 828, 827, 882] (by decide +kernel)
theorem el_oA : ∀ w ∈ Cond.classLink RX9 315 XA :: Cond.initialized XA :: vx_atS RX9 319 XA el_ch, vx_ot w = true := by decide +kernel
theorem el_oI : ∀ w ∈ Cond.classLink RX9 322 XI :: Cond.initialized XI :: vx_atS RX9 326 XI el_ch, vx_ot w = true := by decide +kernel
theorem el_bA : ∀ w ∈ (vx_atS RX9 319 XA el_ch).filter (fun w => !goodWord w), w ∈ el_B := by decide +kernel
theorem el_bI : ∀ w ∈ (vx_atS RX9 326 XI el_ch).filter (fun w => !goodWord w), w ∈ el_B := by decide +kernel
theorem el_otB : ∀ w ∈ el_B, w.onTables = true := by decide +kernel

