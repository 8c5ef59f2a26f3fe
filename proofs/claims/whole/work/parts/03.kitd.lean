def bz (c : Bool) : Int32 := if c then 1 else 0
theorem bz_nar (c : Bool) : narrow .boolean (.int (bz c)) = .int (bz c) := by cases c <;> decide
theorem bz_fit (c : Bool) : narrow .boolean (.int (bz c)) = .int (bz c) ∧ fits .boolean (.int (bz c)) = true := by cases c <;> decide
theorem bz_0 (c : Bool) : bz c = 0 ↔ c = false := by cases c <;> decide
theorem bz_n0 (c : Bool) : ¬ bz c = 0 ↔ c = true := by cases c <;> decide
theorem bz_t : bz true = 1 := rfl
theorem bz_f : bz false = 0 := rfl
section ED
variable {x : e_T} {own : String} {cc : ByteArray} {d pc : Nat} {ls : List (Option Value)} {st : List Value} {h : List eC}
theorem ei_ifz_eq {c : Bool} {off : Int} {tgt : Nat} (X : e_X x own cc d) (hd : decode cc pc = .ok (.ifCond .eq off, 3)) (ht : (pc : Int) + off = (tgt : Int)) (kt : c = false → e_E x tgt ls st h) (kf : c = true → e_E x (pc + 3) ls st h) : e_E x pc ls (.int (bz c) :: st) h := ei_if_eq X hd ht (fun q => kt ((bz_0 c).mp q)) (fun q => kf ((bz_n0 c).mp q))
theorem ei_ifz_ne {c : Bool} {off : Int} {tgt : Nat} (X : e_X x own cc d) (hd : decode cc pc = .ok (.ifCond .ne off, 3)) (ht : (pc : Int) + off = (tgt : Int)) (kt : c = true → e_E x tgt ls st h) (kf : c = false → e_E x (pc + 3) ls st h) : e_E x pc ls (.int (bz c) :: st) h := ei_if_ne X hd ht (fun q => kt ((bz_n0 c).mp q)) (fun q => kf ((bz_0 c).mp q))
theorem ei_ifc_lt {a b : Int64} {off : Int} {tgt : Nat} (X : e_X x own cc d) (hd : decode cc pc = .ok (.ifCond .lt off, 3)) (ht : (pc : Int) + off = (tgt : Int)) (kt : a < b → e_E x tgt ls st h) (kf : ¬ a < b → e_E x (pc + 3) ls st h) : e_E x pc ls (.int (lg_cmp a b) :: st) h := ei_if_lt X hd ht (fun q => kt ((lg_cmp_lt a b).mp q)) (fun q => kf (fun z => q ((lg_cmp_lt a b).mpr z)))
theorem ei_ifc_ge {a b : Int64} {off : Int} {tgt : Nat} (X : e_X x own cc d) (hd : decode cc pc = .ok (.ifCond .ge off, 3)) (ht : (pc : Int) + off = (tgt : Int)) (kt : b ≤ a → e_E x tgt ls st h) (kf : ¬ b ≤ a → e_E x (pc + 3) ls st h) : e_E x pc ls (.int (lg_cmp a b) :: st) h := ei_if_ge X hd ht (fun q => kt ((lg_cmp_ge a b).mp q)) (fun q => kf (fun z => q ((lg_cmp_ge a b).mpr z)))
theorem ei_ifc_gt {a b : Int64} {off : Int} {tgt : Nat} (X : e_X x own cc d) (hd : decode cc pc = .ok (.ifCond .gt off, 3)) (ht : (pc : Int) + off = (tgt : Int)) (kt : b < a → e_E x tgt ls st h) (kf : ¬ b < a → e_E x (pc + 3) ls st h) : e_E x pc ls (.int (lg_cmp a b) :: st) h := ei_if_gt X hd ht (fun q => kt ((lg_cmp_gt a b).mp q)) (fun q => kf (fun z => q ((lg_cmp_gt a b).mpr z)))
theorem ei_ifc_le {a b : Int64} {off : Int} {tgt : Nat} (X : e_X x own cc d) (hd : decode cc pc = .ok (.ifCond .le off, 3)) (ht : (pc : Int) + off = (tgt : Int)) (kt : a ≤ b → e_E x tgt ls st h) (kf : ¬ a ≤ b → e_E x (pc + 3) ls st h) : e_E x pc ls (.int (lg_cmp a b) :: st) h := ei_if_le X hd ht (fun q => kt ((lg_cmp_le a b).mp q)) (fun q => kf (fun z => q ((lg_cmp_le a b).mpr z)))
theorem ei_ifc_eq {a b : Int64} {off : Int} {tgt : Nat} (X : e_X x own cc d) (hd : decode cc pc = .ok (.ifCond .eq off, 3)) (ht : (pc : Int) + off = (tgt : Int)) (kt : a = b → e_E x tgt ls st h) (kf : ¬ a = b → e_E x (pc + 3) ls st h) : e_E x pc ls (.int (lg_cmp a b) :: st) h := ei_if_eq X hd ht (fun q => kt ((lg_cmp_eq a b).mp q)) (fun q => kf (fun z => q ((lg_cmp_eq a b).mpr z)))
theorem ei_ifc_ne {a b : Int64} {off : Int} {tgt : Nat} (X : e_X x own cc d) (hd : decode cc pc = .ok (.ifCond .ne off, 3)) (ht : (pc : Int) + off = (tgt : Int)) (kt : ¬ a = b → e_E x tgt ls st h) (kf : a = b → e_E x (pc + 3) ls st h) : e_E x pc ls (.int (lg_cmp a b) :: st) h := ei_if_ne X hd ht (fun q => kt (fun z => q ((lg_cmp_eq a b).mpr z))) (fun q => kf ((lg_cmp_eq a b).mp q))
theorem ei_icmpn_lt {a b : Nat} {off : Int} {tgt : Nat} (X : e_X x own cc d) (hd : decode cc pc = .ok (.if_icmp .lt off, 3)) (ht : (pc : Int) + off = (tgt : Int)) (ha : a < 2 ^ 31) (hb : b < 2 ^ 31) (kt : a < b → e_E x tgt ls st h) (kf : ¬ a < b → e_E x (pc + 3) ls st h) : e_E x pc ls (.int (nI b) :: .int (nI a) :: st) h := ei_icmp_lt X hd ht (fun q => kt ((nI_ltI ha hb).mp q)) (fun q => kf (fun z => q ((nI_ltI ha hb).mpr z)))
theorem ei_icmpn_ge {a b : Nat} {off : Int} {tgt : Nat} (X : e_X x own cc d) (hd : decode cc pc = .ok (.if_icmp .ge off, 3)) (ht : (pc : Int) + off = (tgt : Int)) (ha : a < 2 ^ 31) (hb : b < 2 ^ 31) (kt : b ≤ a → e_E x tgt ls st h) (kf : ¬ b ≤ a → e_E x (pc + 3) ls st h) : e_E x pc ls (.int (nI b) :: .int (nI a) :: st) h := ei_icmp_ge X hd ht (fun q => kt ((nI_leI hb ha).mp q)) (fun q => kf (fun z => q ((nI_leI hb ha).mpr z)))
theorem ei_icmpn_gt {a b : Nat} {off : Int} {tgt : Nat} (X : e_X x own cc d) (hd : decode cc pc = .ok (.if_icmp .gt off, 3)) (ht : (pc : Int) + off = (tgt : Int)) (ha : a < 2 ^ 31) (hb : b < 2 ^ 31) (kt : b < a → e_E x tgt ls st h) (kf : ¬ b < a → e_E x (pc + 3) ls st h) : e_E x pc ls (.int (nI b) :: .int (nI a) :: st) h := ei_icmp_gt X hd ht (fun q => kt ((nI_ltI hb ha).mp q)) (fun q => kf (fun z => q ((nI_ltI hb ha).mpr z)))
theorem ei_icmpn_le {a b : Nat} {off : Int} {tgt : Nat} (X : e_X x own cc d) (hd : decode cc pc = .ok (.if_icmp .le off, 3)) (ht : (pc : Int) + off = (tgt : Int)) (ha : a < 2 ^ 31) (hb : b < 2 ^ 31) (kt : a ≤ b → e_E x tgt ls st h) (kf : ¬ a ≤ b → e_E x (pc + 3) ls st h) : e_E x pc ls (.int (nI b) :: .int (nI a) :: st) h := ei_icmp_le X hd ht (fun q => kt ((nI_leI ha hb).mp q)) (fun q => kf (fun z => q ((nI_leI ha hb).mpr z)))
theorem ei_icmpn_eq {a b : Nat} {off : Int} {tgt : Nat} (X : e_X x own cc d) (hd : decode cc pc = .ok (.if_icmp .eq off, 3)) (ht : (pc : Int) + off = (tgt : Int)) (ha : a < 2 ^ 31) (hb : b < 2 ^ 31) (kt : a = b → e_E x tgt ls st h) (kf : ¬ a = b → e_E x (pc + 3) ls st h) : e_E x pc ls (.int (nI b) :: .int (nI a) :: st) h := ei_icmp_eq X hd ht (fun q => kt ((nI_eq ha hb).mp q)) (fun q => kf (fun z => q ((nI_eq ha hb).mpr z)))
theorem ei_icmpn_ne {a b : Nat} {off : Int} {tgt : Nat} (X : e_X x own cc d) (hd : decode cc pc = .ok (.if_icmp .ne off, 3)) (ht : (pc : Int) + off = (tgt : Int)) (ha : a < 2 ^ 31) (hb : b < 2 ^ 31) (kt : ¬ a = b → e_E x tgt ls st h) (kf : a = b → e_E x (pc + 3) ls st h) : e_E x pc ls (.int (nI b) :: .int (nI a) :: st) h := ei_icmp_ne X hd ht (fun q => kt (fun z => q ((nI_eq ha hb).mpr z))) (fun q => kf ((nI_eq ha hb).mp q))
theorem ei_iinc_n {i a : Nat} (X : e_X x own cc d) (hd : decode cc pc = .ok (.iinc i 1, 3)) (hv : ls[i]? = some (some (.int (nI a)))) (hw : e_nw ls i = true) (k : e_E x (pc + 3) (ls.set i (some (.int (nI (a + 1))))) st h) : e_E x pc ls st h := ei_iinc X hd hv (nI_1 a) hw k
theorem ei_iaload_n {k n i : Nat} {g : Nat → Int32} (X : e_X x own cc d) (hd : decode cc pc = .ok (.iaload, 1)) (hh : h[k]? = some (.inl (0, n, .inl g))) (hi : i < n) (hn : n < 2 ^ 31) (kk : e_E x (pc + 1) ls (.int (g i) :: st) h) : e_E x pc ls (.int (nI i) :: .ref k :: st) h := by
  refine ei_iaload X hd hh (vp_in_nI hi hn) ?_
  rw [nI_clamp (Nat.lt_trans hi hn)]
  exact kk
theorem ei_laload_n {k n i : Nat} {g : Nat → Int64} (X : e_X x own cc d) (hd : decode cc pc = .ok (.laload, 1)) (hh : h[k]? = some (.inl (1, n, .inr (.inl g)))) (hi : i < n) (hn : n < 2 ^ 31) (kk : e_E x (pc + 1) ls (.long (g i) :: st) h) : e_E x pc ls (.int (nI i) :: .ref k :: st) h := by
  refine ei_laload X hd hh (vp_in_nI hi hn) ?_
  rw [nI_clamp (Nat.lt_trans hi hn)]
  exact kk
theorem ei_iastore_n {k n i : Nat} {g : Nat → Int32} {a : Int32} (X : e_X x own cc d) (hd : decode cc pc = .ok (.iastore, 1)) (hh : h[k]? = some (.inl (0, n, .inl g))) (hi : i < n) (hn : n < 2 ^ 31) {h2 : List eC} (h2e : h.set k (.inl (0, n, .inl (upd g i a))) = h2) (kk : e_E x (pc + 1) ls st h2) : e_E x pc ls (.int a :: .int (nI i) :: .ref k :: st) h := by
  refine ei_iastore X hd hh (vp_in_nI hi hn) (h2 := h2) ?_ kk
  rw [nI_clamp (Nat.lt_trans hi hn)]
  exact h2e
theorem ei_lastore_n {k n i : Nat} {g : Nat → Int64} {a : Int64} (X : e_X x own cc d) (hd : decode cc pc = .ok (.lastore, 1)) (hh : h[k]? = some (.inl (1, n, .inr (.inl g)))) (hi : i < n) (hn : n < 2 ^ 31) {h2 : List eC} (h2e : h.set k (.inl (1, n, .inr (.inl (vp_updL g i a)))) = h2) (kk : e_E x (pc + 1) ls st h2) : e_E x pc ls (.long a :: .int (nI i) :: .ref k :: st) h := by
  refine ei_lastore X hd hh (vp_in_nI hi hn) (h2 := h2) ?_ kk
  rw [nI_clamp (Nat.lt_trans hi hn)]
  exact h2e
theorem ei_lookup_off : ∀ (ps : List (Int × Int)) (dflt z : Int) (cs : List (Int32 × Nat)) (pc : Nat), (ps.map fun q => (q.1, (pc : Int) + q.2)) = cs.map (fun q => (q.1.toInt, (q.2 : Int))) →
    ((∃ v t, (v, t) ∈ cs ∧ z = v.toInt ∧ (pc : Int) + Op.lookupswitch.offset ps dflt z = (t : Int)) ∨ ((∀ v t, (v, t) ∈ cs → ¬ z = v.toInt) ∧ Op.lookupswitch.offset ps dflt z = dflt))
  | [], dflt, z, cs, pc, h => by
    cases cs with
    | nil => exact Or.inr ⟨fun v t q => by simp at q, rfl⟩
    | cons => simp at h
  | (a, o) :: ps, dflt, z, cs, pc, h => by
    cases cs with
    | nil => simp at h
    | cons q cs =>
      obtain ⟨v, t⟩ := q
      simp only [List.map_cons, List.cons.injEq, Prod.mk.injEq] at h
      by_cases hz : z = a
      · refine Or.inl ⟨v, t, List.mem_cons_self, by rw [hz]; exact h.1.1, ?_⟩
        rw [← h.1.2]
        simp [Op.lookupswitch.offset, hz]
      · have e : Op.lookupswitch.offset ((a, o) :: ps) dflt z = Op.lookupswitch.offset ps dflt z := by
          have hz2 : ¬ a = z := fun q => hz q.symm
          simp [Op.lookupswitch.offset, hz2]
        rw [e]
        rcases ei_lookup_off ps dflt z cs pc h.2 with ⟨v', t', h1, h2, h3⟩ | ⟨h1, h2⟩
        · exact Or.inl ⟨v', t', List.mem_cons_of_mem _ h1, h2, h3⟩
        · refine Or.inr ⟨fun v' t' q => ?_, h2⟩
          rcases List.mem_cons.mp q with q | q
          · cases q
            intro q2
            exact hz (by rw [q2]; exact h.1.1.symm)
          · exact h1 v' t' q
theorem ei_lookup {a : Int32} {dflt : Int} {ps : Array (Int × Int)} {len : Nat} (cs : List (Int32 × Nat)) (td : Nat) (X : e_X x own cc d) (hd : decode cc pc = .ok (.lookupswitch dflt ps, len)) (hp : (ps.toList.zip (ps.toList.drop 1)).all (fun (a, next) => a.1 < next.1) = true) (hc : (ps.toList.map fun q => (q.1, (pc : Int) + q.2)) = cs.map (fun q => (q.1.toInt, (q.2 : Int)))) (htd : (pc : Int) + dflt = (td : Int))
    (kin : e_tk (fun t => e_E x t ls st h) a cs) (kout : e_tn a cs → e_E x td ls st h) : e_E x pc ls (.int a :: st) h := by
  obtain ⟨p, l, e, R, s, m, args, below, meth, c, dC, dI, dA, ad, A, N, nL, cells, slots, Q⟩ := x
  intro hL hN H locs la hP hS hl
  rcases ei_lookup_off ps.toList dflt a.toInt cs pc hc with ⟨v, t, h1, h2, h3⟩ | ⟨h1, h2⟩
  · exact lv_lookup X.1 X.2.1 hd hp rfl h3 (e_tk_at kin v t h1 (Int32.toInt_inj.mp h2) hL hN H locs la hP hS hl)
  · exact lv_lookup X.1 X.2.1 hd hp h2 htd (kout (e_tn_of fun v t q z => h1 v t q (by rw [z])) hL hN H locs la hP hS hl)
variable {y : MethodName} {c2 : ByteArray} {L2 idx ci n : Nat} {ret : Option FieldType} {d2 : Nat} {As : List Value} {st0 : List Value}
theorem ei_callI1 {v : Value} {h2 : List eC} (X : e_X x own cc d) (ml : e_MV own idx ci y c2 L2 ret n) (hd : decode cc pc = .ok (.invokevirtual idx, 3)) {b : Nat} (ct : e_Ct y c2 L2 ret d2 (.ref b :: As) h (e_eq (some v) h2))
    (hst : st0 = List.reverseAux (Value.ref b :: As) st) (hn : As.length = n) (hd2 : d2 < d) (hL2 : L2 ≤ 21) {fs : List Value} (hrc : h[b]? = some (.inr (ci, fs)))
    (hcat : (st.map fun v => v.category).sum ≤ 8) (kk : e_E x (pc + 3) ls (v :: st) h2) : e_E x pc ls st0 h :=
  ei_callI X ml hd ct hst hn hd2 hL2 hrc hcat (fun r h3 hp => by obtain ⟨rfl, rfl⟩ := hp; exact kk)
theorem ei_callI0 {h2 : List eC} (X : e_X x own cc d) (ml : e_MV own idx ci y c2 L2 ret n) (hd : decode cc pc = .ok (.invokevirtual idx, 3)) {b : Nat} (ct : e_Ct y c2 L2 ret d2 (.ref b :: As) h (e_eq none h2))
    (hst : st0 = List.reverseAux (Value.ref b :: As) st) (hn : As.length = n) (hd2 : d2 < d) (hL2 : L2 ≤ 21) {fs : List Value} (hrc : h[b]? = some (.inr (ci, fs)))
    (hcat : (st.map fun v => v.category).sum ≤ 8) (kk : e_E x (pc + 3) ls st h2) : e_E x pc ls st0 h :=
  ei_callI X ml hd ct hst hn hd2 hL2 hrc hcat (fun r h3 hp => by obtain ⟨rfl, rfl⟩ := hp; exact kk)
theorem ei_callT1 {v : Value} {h2 : List eC} (X : e_X x own cc d) (ml : e_MS own idx y c2 L2 ret n) (hd : decode cc pc = .ok (.invokestatic idx, 3)) (ct : e_Ct y c2 L2 ret d2 As h (e_eq (some v) h2))
    (hst : st0 = List.reverseAux As st) (hn : As.length = n) (hd2 : d2 < d) (hL2 : L2 ≤ 21)
    (hcat : (st.map fun v => v.category).sum ≤ 8) (kk : e_E x (pc + 3) ls (v :: st) h2) : e_E x pc ls st0 h :=
  ei_callT X ml hd ct hst hn hd2 hL2 hcat (fun r h3 hp => by obtain ⟨rfl, rfl⟩ := hp; exact kk)
theorem ei_callT0 {h2 : List eC} (X : e_X x own cc d) (ml : e_MS own idx y c2 L2 ret n) (hd : decode cc pc = .ok (.invokestatic idx, 3)) (ct : e_Ct y c2 L2 ret d2 As h (e_eq none h2))
    (hst : st0 = List.reverseAux As st) (hn : As.length = n) (hd2 : d2 < d) (hL2 : L2 ≤ 21)
    (hcat : (st.map fun v => v.category).sum ≤ 8) (kk : e_E x (pc + 3) ls st h2) : e_E x pc ls st0 h :=
  ei_callT X ml hd ct hst hn hd2 hL2 hcat (fun r h3 hp => by obtain ⟨rfl, rfl⟩ := hp; exact kk)
end ED
/-- the string: BULBS, whole, seated, spares, hour, lit, hand, seconds, sorts, figures, worn -/
abbrev St : Type := Nat × Int32 × Int32 × Int32 × Int32 × Int32 × Int32 × Int32 × (Nat → Int32) × (Nat → Int32) × (Nat → Int32)
abbrev sN (S : St) : Nat := S.1
abbrev sW (S : St) : Int32 := S.2.1
abbrev sE (S : St) : Int32 := S.2.2.1
abbrev sP (S : St) : Int32 := S.2.2.2.1
abbrev sH (S : St) : Int32 := S.2.2.2.2.1
abbrev sL (S : St) : Int32 := S.2.2.2.2.2.1
abbrev sD (S : St) : Int32 := S.2.2.2.2.2.2.1
abbrev sC (S : St) : Int32 := S.2.2.2.2.2.2.2.1
abbrev sO (S : St) : (Nat → Int32) := S.2.2.2.2.2.2.2.2.1
abbrev sG (S : St) : (Nat → Int32) := S.2.2.2.2.2.2.2.2.2.1
abbrev sR (S : St) : (Nat → Int32) := S.2.2.2.2.2.2.2.2.2.2
abbrev uN (S : St) (v : Nat) : St := (v, S.2.1, S.2.2.1, S.2.2.2.1, S.2.2.2.2.1, S.2.2.2.2.2.1, S.2.2.2.2.2.2.1, S.2.2.2.2.2.2.2.1, S.2.2.2.2.2.2.2.2.1, S.2.2.2.2.2.2.2.2.2.1, S.2.2.2.2.2.2.2.2.2.2)
abbrev uW (S : St) (v : Int32) : St := (S.1, v, S.2.2.1, S.2.2.2.1, S.2.2.2.2.1, S.2.2.2.2.2.1, S.2.2.2.2.2.2.1, S.2.2.2.2.2.2.2.1, S.2.2.2.2.2.2.2.2.1, S.2.2.2.2.2.2.2.2.2.1, S.2.2.2.2.2.2.2.2.2.2)
abbrev uE (S : St) (v : Int32) : St := (S.1, S.2.1, v, S.2.2.2.1, S.2.2.2.2.1, S.2.2.2.2.2.1, S.2.2.2.2.2.2.1, S.2.2.2.2.2.2.2.1, S.2.2.2.2.2.2.2.2.1, S.2.2.2.2.2.2.2.2.2.1, S.2.2.2.2.2.2.2.2.2.2)
abbrev uP (S : St) (v : Int32) : St := (S.1, S.2.1, S.2.2.1, v, S.2.2.2.2.1, S.2.2.2.2.2.1, S.2.2.2.2.2.2.1, S.2.2.2.2.2.2.2.1, S.2.2.2.2.2.2.2.2.1, S.2.2.2.2.2.2.2.2.2.1, S.2.2.2.2.2.2.2.2.2.2)
abbrev uH (S : St) (v : Int32) : St := (S.1, S.2.1, S.2.2.1, S.2.2.2.1, v, S.2.2.2.2.2.1, S.2.2.2.2.2.2.1, S.2.2.2.2.2.2.2.1, S.2.2.2.2.2.2.2.2.1, S.2.2.2.2.2.2.2.2.2.1, S.2.2.2.2.2.2.2.2.2.2)
abbrev uL (S : St) (v : Int32) : St := (S.1, S.2.1, S.2.2.1, S.2.2.2.1, S.2.2.2.2.1, v, S.2.2.2.2.2.2.1, S.2.2.2.2.2.2.2.1, S.2.2.2.2.2.2.2.2.1, S.2.2.2.2.2.2.2.2.2.1, S.2.2.2.2.2.2.2.2.2.2)
abbrev uD (S : St) (v : Int32) : St := (S.1, S.2.1, S.2.2.1, S.2.2.2.1, S.2.2.2.2.1, S.2.2.2.2.2.1, v, S.2.2.2.2.2.2.2.1, S.2.2.2.2.2.2.2.2.1, S.2.2.2.2.2.2.2.2.2.1, S.2.2.2.2.2.2.2.2.2.2)
abbrev uC (S : St) (v : Int32) : St := (S.1, S.2.1, S.2.2.1, S.2.2.2.1, S.2.2.2.2.1, S.2.2.2.2.2.1, S.2.2.2.2.2.2.1, v, S.2.2.2.2.2.2.2.2.1, S.2.2.2.2.2.2.2.2.2.1, S.2.2.2.2.2.2.2.2.2.2)
abbrev uO (S : St) (v : (Nat → Int32)) : St := (S.1, S.2.1, S.2.2.1, S.2.2.2.1, S.2.2.2.2.1, S.2.2.2.2.2.1, S.2.2.2.2.2.2.1, S.2.2.2.2.2.2.2.1, v, S.2.2.2.2.2.2.2.2.2.1, S.2.2.2.2.2.2.2.2.2.2)
abbrev uG (S : St) (v : (Nat → Int32)) : St := (S.1, S.2.1, S.2.2.1, S.2.2.2.1, S.2.2.2.2.1, S.2.2.2.2.2.1, S.2.2.2.2.2.2.1, S.2.2.2.2.2.2.2.1, S.2.2.2.2.2.2.2.2.1, v, S.2.2.2.2.2.2.2.2.2.2)
abbrev uR (S : St) (v : (Nat → Int32)) : St := (S.1, S.2.1, S.2.2.1, S.2.2.2.1, S.2.2.2.2.1, S.2.2.2.2.2.1, S.2.2.2.2.2.2.1, S.2.2.2.2.2.2.2.1, S.2.2.2.2.2.2.2.2.1, S.2.2.2.2.2.2.2.2.2.1, v)
def lF (S : St) : List Value := [.ref 1, .ref 2, .ref 3, .int (nI (sN S)), .int (sW S), .int (sE S), .int (sP S), .int (sH S), .int (sL S), .int (sD S), .int (sC S)]
def lH (S : St) : List eC := [.inr (1, lF S), .inl (0, 10, .inl (sO S)), .inl (0, 10, .inl (sG S)), .inl (0, 10, .inl (sR S))]
theorem pl_1_3 (S : St) (v : Nat) : (lH S).set 0 (.inr (1, (lF S).set 3 (.int (nI v)))) = lH (uN S v) := rfl
theorem pl_1_4 (S : St) (v : Int32) : (lH S).set 0 (.inr (1, (lF S).set 4 (.int v))) = lH (uW S v) := rfl
theorem pl_1_5 (S : St) (v : Int32) : (lH S).set 0 (.inr (1, (lF S).set 5 (.int v))) = lH (uE S v) := rfl
theorem pl_1_6 (S : St) (v : Int32) : (lH S).set 0 (.inr (1, (lF S).set 6 (.int v))) = lH (uP S v) := rfl
theorem pl_1_7 (S : St) (v : Int32) : (lH S).set 0 (.inr (1, (lF S).set 7 (.int v))) = lH (uH S v) := rfl
theorem pl_1_8 (S : St) (v : Int32) : (lH S).set 0 (.inr (1, (lF S).set 8 (.int v))) = lH (uL S v) := rfl
theorem pl_1_9 (S : St) (v : Int32) : (lH S).set 0 (.inr (1, (lF S).set 9 (.int v))) = lH (uD S v) := rfl
theorem pl_1_10 (S : St) (v : Int32) : (lH S).set 0 (.inr (1, (lF S).set 10 (.int v))) = lH (uC S v) := rfl
theorem pl_r1 (S : St) (g : Nat → Int32) : (lH S).set 1 (.inl (0, 10, .inl g)) = lH (uO S g) := rfl
theorem pl_r2 (S : St) (g : Nat → Int32) : (lH S).set 2 (.inl (0, 10, .inl g)) = lH (uG S g) := rfl
theorem pl_r3 (S : St) (g : Nat → Int32) : (lH S).set 3 (.inl (0, 10, .inl g)) = lH (uR S g) := rfl
/-- what else the reference holds: numbers by their fields, rows by their cells, rows of longs, where it keeps -/
abbrev MX : Type := (Nat → Int32) × (Nat → Nat → Int32) × (Nat → Nat → Int64) × Value
abbrev ui (M : MX) (k : Nat) (v : Int32) : MX := (upd M.1 k v, M.2)
abbrev ua (M : MX) (c : Nat) (f : Nat → Int32) : MX := (M.1, (fun j => if j = c then f else M.2.1 j), M.2.2)
abbrev ul (M : MX) (c : Nat) (f : Nat → Int64) : MX := (M.1, M.2.1, (fun j => if j = c then f else M.2.2.1 j), M.2.2.2)
abbrev uk (M : MX) (v : Value) : MX := (M.1, M.2.1, M.2.2.1, v)
def mF (S : St) (M : MX) : List Value := [.int (nI (sN S)), .ref 1, .ref 2, .ref 3, .int (sW S), .int (sE S), .int (sP S), .int (sH S), .int (sL S), .int (sD S), .int (sC S), .int (M.1 11), .int (M.1 12), .int (M.1 13), .ref 4, .ref 5, .ref 6, .ref 7, .ref 8, .ref 9, .int (M.1 20), .int (M.1 21), .int (M.1 22), .int (M.1 23), .int (M.1 24), .ref 10, .ref 11, .ref 12, .ref 13, .ref 14, .int (M.1 30), .int (M.1 31), .int (M.1 32), M.2.2.2, .ref 15, .ref 16, .ref 17, .ref 18, .ref 19, .int (M.1 39), .ref 20]
def mH (S : St) (M : MX) : List eC := [.inr (4, mF S M), .inl (0, 10, .inl (sO S)), .inl (0, 10, .inl (sG S)), .inl (0, 10, .inl (sR S)), .inl (0, 8, .inl (M.2.1 4)), .inl (0, 8, .inl (M.2.1 5)), .inl (0, 8, .inl (M.2.1 6)), .inl (0, 8, .inl (M.2.1 7)), .inl (0, 8, .inl (M.2.1 8)), .inl (1, 800, .inr (.inl (M.2.2.1 9))), .inl (0, 51, .inl (M.2.1 10)), .inl (0, 51, .inl (M.2.1 11)), .inl (0, 153, .inl (M.2.1 12)), .inl (0, 38, .inl (M.2.1 13)), .inl (0, 38, .inl (M.2.1 14)), .inl (0, 100, .inl (M.2.1 15)), .inl (0, 100, .inl (M.2.1 16)), .inl (1, 100, .inr (.inl (M.2.2.1 17))), .inl (0, 5, .inl (M.2.1 18)), .inl (0, 5, .inl (M.2.1 19)), .inl (1, 100, .inr (.inl (M.2.2.1 20)))]
theorem pm_0 (S : St) (M : MX) (v : Nat) : (mH S M).set 0 (.inr (4, (mF S M).set 0 (.int (nI v)))) = mH (uN S v) M := rfl
theorem pm_r1 (S : St) (M : MX) (g : Nat → Int32) : (mH S M).set 1 (.inl (0, 10, .inl g)) = mH (uO S g) M := rfl
theorem pm_r2 (S : St) (M : MX) (g : Nat → Int32) : (mH S M).set 2 (.inl (0, 10, .inl g)) = mH (uG S g) M := rfl
theorem pm_r3 (S : St) (M : MX) (g : Nat → Int32) : (mH S M).set 3 (.inl (0, 10, .inl g)) = mH (uR S g) M := rfl
theorem pm_4 (S : St) (M : MX) (v : Int32) : (mH S M).set 0 (.inr (4, (mF S M).set 4 (.int v))) = mH (uW S v) M := rfl
theorem pm_5 (S : St) (M : MX) (v : Int32) : (mH S M).set 0 (.inr (4, (mF S M).set 5 (.int v))) = mH (uE S v) M := rfl
theorem pm_6 (S : St) (M : MX) (v : Int32) : (mH S M).set 0 (.inr (4, (mF S M).set 6 (.int v))) = mH (uP S v) M := rfl
theorem pm_7 (S : St) (M : MX) (v : Int32) : (mH S M).set 0 (.inr (4, (mF S M).set 7 (.int v))) = mH (uH S v) M := rfl
theorem pm_8 (S : St) (M : MX) (v : Int32) : (mH S M).set 0 (.inr (4, (mF S M).set 8 (.int v))) = mH (uL S v) M := rfl
theorem pm_9 (S : St) (M : MX) (v : Int32) : (mH S M).set 0 (.inr (4, (mF S M).set 9 (.int v))) = mH (uD S v) M := rfl
theorem pm_10 (S : St) (M : MX) (v : Int32) : (mH S M).set 0 (.inr (4, (mF S M).set 10 (.int v))) = mH (uC S v) M := rfl
theorem pm_11 (S : St) (M : MX) (v : Int32) : (mH S M).set 0 (.inr (4, (mF S M).set 11 (.int v))) = mH S (ui M 11 v) := rfl
theorem pm_12 (S : St) (M : MX) (v : Int32) : (mH S M).set 0 (.inr (4, (mF S M).set 12 (.int v))) = mH S (ui M 12 v) := rfl
theorem pm_13 (S : St) (M : MX) (v : Int32) : (mH S M).set 0 (.inr (4, (mF S M).set 13 (.int v))) = mH S (ui M 13 v) := rfl
theorem pm_r4 (S : St) (M : MX) (g : Nat → Int32) : (mH S M).set 4 (.inl (0, 8, .inl g)) = mH S (ua M 4 g) := rfl
theorem pm_r5 (S : St) (M : MX) (g : Nat → Int32) : (mH S M).set 5 (.inl (0, 8, .inl g)) = mH S (ua M 5 g) := rfl
theorem pm_r6 (S : St) (M : MX) (g : Nat → Int32) : (mH S M).set 6 (.inl (0, 8, .inl g)) = mH S (ua M 6 g) := rfl
theorem pm_r7 (S : St) (M : MX) (g : Nat → Int32) : (mH S M).set 7 (.inl (0, 8, .inl g)) = mH S (ua M 7 g) := rfl
theorem pm_r8 (S : St) (M : MX) (g : Nat → Int32) : (mH S M).set 8 (.inl (0, 8, .inl g)) = mH S (ua M 8 g) := rfl
theorem pm_r9 (S : St) (M : MX) (g : Nat → Int64) : (mH S M).set 9 (.inl (1, 800, .inr (.inl g))) = mH S (ul M 9 g) := rfl
theorem pm_20 (S : St) (M : MX) (v : Int32) : (mH S M).set 0 (.inr (4, (mF S M).set 20 (.int v))) = mH S (ui M 20 v) := rfl
theorem pm_21 (S : St) (M : MX) (v : Int32) : (mH S M).set 0 (.inr (4, (mF S M).set 21 (.int v))) = mH S (ui M 21 v) := rfl
theorem pm_22 (S : St) (M : MX) (v : Int32) : (mH S M).set 0 (.inr (4, (mF S M).set 22 (.int v))) = mH S (ui M 22 v) := rfl
theorem pm_23 (S : St) (M : MX) (v : Int32) : (mH S M).set 0 (.inr (4, (mF S M).set 23 (.int v))) = mH S (ui M 23 v) := rfl
theorem pm_24 (S : St) (M : MX) (v : Int32) : (mH S M).set 0 (.inr (4, (mF S M).set 24 (.int v))) = mH S (ui M 24 v) := rfl
theorem pm_r10 (S : St) (M : MX) (g : Nat → Int32) : (mH S M).set 10 (.inl (0, 51, .inl g)) = mH S (ua M 10 g) := rfl
theorem pm_r11 (S : St) (M : MX) (g : Nat → Int32) : (mH S M).set 11 (.inl (0, 51, .inl g)) = mH S (ua M 11 g) := rfl
theorem pm_r12 (S : St) (M : MX) (g : Nat → Int32) : (mH S M).set 12 (.inl (0, 153, .inl g)) = mH S (ua M 12 g) := rfl
theorem pm_r13 (S : St) (M : MX) (g : Nat → Int32) : (mH S M).set 13 (.inl (0, 38, .inl g)) = mH S (ua M 13 g) := rfl
theorem pm_r14 (S : St) (M : MX) (g : Nat → Int32) : (mH S M).set 14 (.inl (0, 38, .inl g)) = mH S (ua M 14 g) := rfl
theorem pm_30 (S : St) (M : MX) (v : Int32) : (mH S M).set 0 (.inr (4, (mF S M).set 30 (.int v))) = mH S (ui M 30 v) := rfl
theorem pm_31 (S : St) (M : MX) (v : Int32) : (mH S M).set 0 (.inr (4, (mF S M).set 31 (.int v))) = mH S (ui M 31 v) := rfl
theorem pm_32 (S : St) (M : MX) (v : Int32) : (mH S M).set 0 (.inr (4, (mF S M).set 32 (.int v))) = mH S (ui M 32 v) := rfl
theorem pm_33 (S : St) (M : MX) (v : Nat) : (mH S M).set 0 (.inr (4, (mF S M).set 33 (.ref v))) = mH S (uk M (.ref v)) := rfl
theorem pm_r15 (S : St) (M : MX) (g : Nat → Int32) : (mH S M).set 15 (.inl (0, 100, .inl g)) = mH S (ua M 15 g) := rfl
theorem pm_r16 (S : St) (M : MX) (g : Nat → Int32) : (mH S M).set 16 (.inl (0, 100, .inl g)) = mH S (ua M 16 g) := rfl
theorem pm_r17 (S : St) (M : MX) (g : Nat → Int64) : (mH S M).set 17 (.inl (1, 100, .inr (.inl g))) = mH S (ul M 17 g) := rfl
theorem pm_r18 (S : St) (M : MX) (g : Nat → Int32) : (mH S M).set 18 (.inl (0, 5, .inl g)) = mH S (ua M 18 g) := rfl
theorem pm_r19 (S : St) (M : MX) (g : Nat → Int32) : (mH S M).set 19 (.inl (0, 5, .inl g)) = mH S (ua M 19 g) := rfl
theorem pm_39 (S : St) (M : MX) (v : Int32) : (mH S M).set 0 (.inr (4, (mF S M).set 39 (.int v))) = mH S (ui M 39 v) := rfl
theorem pm_r20 (S : St) (M : MX) (g : Nat → Int64) : (mH S M).set 20 (.inl (1, 100, .inr (.inl g))) = mH S (ul M 20 g) := rfl
