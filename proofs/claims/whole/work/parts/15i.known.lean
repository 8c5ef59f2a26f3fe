/-! ===== what holds at the law's entry ===== -/
section KN
variable {s : State} {args : Array Value}
theorem l_ws (hts : ∀ w ∈ lw_tbl, w.before args s = true) : ∀ w ∈ e_ws, w.before args s = true := fun w hw => hts w (List.mem_filter.mp hw).1
theorem l_arr {ty : FieldType} (h : (Cond.arrayClass ty).before args s = true) (hty : ∀ C, ty ≠ .object C) : ∃ cA, ArrOfT s cA ty ∧ va_RA s cA ty := by
  obtain ⟨cA, kA, comp, h1, h2, h3⟩ := Cond.arrayClass_spec h
  refine ⟨cA, fun n z => ⟨fun k h => (by cases h), kA, h2, comp, h3⟩, ?_⟩
  cases ty with
  | object C => exact absurd rfl (hty C)
  | _ => exact h1
theorem l_arrO {C : String} (h : (Cond.arrayOver (.object C)).before args s = true) : ∃ cA, ArrOfT s cA (.object C) ∧ va_RA s cA (.object C) := by
  obtain ⟨comp, cA, kA, h1, h2, h3, h4, h5⟩ := Cond.arrayOver_spec h
  exact ⟨cA, fun n z => ⟨fun k h => (by cases h), kA, h3, comp, h4⟩, kA, comp, h3, h4, h1, h5⟩
theorem l_known (hts : ∀ w ∈ lw_tbl, w.before args s = true) : ∃ (dC : Nat → ClassId) (dI : Nat → Nat → Nat) (dA : Nat → ClassId), va_K (dC, dI) vwCl (e_tys dA) s := by
  have hw := l_ws hts
  obtain ⟨q0, i0, k0⟩ := u_known hw e_uwsX1 (hw _ cl_RX9_28.2.1)
  obtain ⟨q1, i1, k1⟩ := u_known hw e_uwsX2 (hw _ cl_RX9_7.2.1)
  obtain ⟨q2, i2, k2⟩ := u_known hw e_uwsX4 (hw _ cl_RX9_22.2.1)
  obtain ⟨q3, i3, k3⟩ := u_known hw e_uwsX9 (hw _ cl_RL_8.2.1)
  obtain ⟨q4, i4, k4⟩ := u_known hw e_uwsX10 (hw _ cl_RL_18.2.1)
  obtain ⟨a0, b0⟩ := l_arr (ty := .int) (hw _ (e_in 153 (by decide +kernel) (by decide +kernel))) (fun C h => nomatch h)
  obtain ⟨a1, b1⟩ := l_arr (ty := .long) (hw _ (e_in 1021 (by decide +kernel) (by decide +kernel))) (fun C h => nomatch h)
  obtain ⟨a2, b2⟩ := l_arrO (C := RX4) (hts _ (List.mem_of_getElem? (i := 155) (by decide +kernel)))
  refine ⟨fun k => if k = 0 then q0 else if k = 1 then q1 else if k = 2 then q2 else if k = 3 then q3 else q4, fun k => if k = 0 then i0 else if k = 1 then i1 else if k = 2 then i2 else if k = 3 then i3 else i4, fun k => if k = 0 then a0 else if k = 1 then a1 else a2, fun k q hq => ?_, fun k q hq => ?_⟩
  · match k, hq with
    | 0, hq => cases hq; exact k0
    | 1, hq => cases hq; exact k1
    | 2, hq => cases hq; exact k2
    | 3, hq => cases hq; exact k3
    | 4, hq => cases hq; exact k4
    | k + 5, hq => cases hq
  · match k, hq with
    | 0, hq => cases hq; exact b0
    | 1, hq => cases hq; exact b1
    | 2, hq => cases hq; exact b2
    | k + 3, hq => cases hq
theorem l_str {i : Nat} {tx : String} (h : (Cond.stringRef RX9 i tx).before args s = true) {cur : Nat} (hcur : s.vm.findClass RX9 = some cur) : ∃ a, vk_R RX9 i tx a s := by
  have h2 : (Cond.stringRef RX9 i tx).before #[] s = true := h
  obtain ⟨k, cf, j, a, -, -, -, -, -, h1⟩ := Cond.stringRef_spec hcur h2
  exact ⟨a, vk_R.of h2 h1⟩
theorem l_excF (hts : ∀ w ∈ lw_tbl, w.before args s = true) (hU : (Cond.isRef (.static Bundle.tN "UNASSIGNED_STACK" Bundle.steD)).before args s = true) (hN : (Cond.isRef (.static Bundle.tN "SUPPRESSED_SENTINEL" Bundle.listD)).before args s = true) (hnc : (Cond.not (.castable XI XA)).before args s = true) : el_F (fun q => s.heap.size ≤ q) s.heap s := by
  obtain ⟨dC, dI, dA, hK⟩ := l_known hts
  have hcur : s.vm.findClass RX9 = some (dC 3) := (hK.1 3 _ rfl).2.1
  have hA : ∀ a : Nat, a < s.heap.size → ¬ s.heap.size ≤ a := fun a h => Nat.not_le.mpr h
  have hini : (Cond.initialized Bundle.tN).before args s = true := hts _ (List.mem_of_getElem? (i := 81) (by decide +kernel))
  refine ⟨fun w hw => ?_, va_Nc.of hnc, l_str (hts _ (List.mem_of_getElem? (i := 847) (by decide +kernel))) hcur, l_str (hts _ (List.mem_of_getElem? (i := 883) (by decide +kernel))) hcur, l_str (hts _ (List.mem_of_getElem? (i := 890) (by decide +kernel))) hcur,
    vx_Zqof (hts _ (List.mem_of_getElem? (i := 834) (by decide +kernel))) hini hU hA, vx_Zqof (hts _ (List.mem_of_getElem? (i := 836) (by decide +kernel))) hini hN hA⟩
  have hmem : ∀ w ∈ el_B, w ∈ lw_tbl := by
    have h9 : el_B = [809, 876, 811, 813, 815].filterMap (fun i => lw_tbl[i]?) := by decide +kernel
    intro w hw
    rw [h9] at hw
    obtain ⟨i, -, hi⟩ := List.mem_filterMap.mp hw
    exact List.mem_of_getElem? hi
  exact va_Nw.of (el_otB w hw) (hts w (hmem w hw))
end KN

