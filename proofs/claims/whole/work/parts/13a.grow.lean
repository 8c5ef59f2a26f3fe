/-! ===== the own kit, where cells are made ===== -/
/-- no reference in it is among N .. M - 1 -/
def g_v (N M : Nat) : Value → Prop
  | .ref k => k < N ∨ M ≤ k
  | _ => True
/-- its references are below N -/
def g_b (N : Nat) : Value → Prop
  | .ref k => k < N
  | _ => True
def g_c (N : Nat) : eC → Prop
  | .inl (_, _, .inr (.inr (.inr (.inr f)))) => ∀ j k, f j = some k → k < N
  | .inl _ => True
  | .inr (_, fs) => ∀ v ∈ fs, g_b N v
def g_h (N : Nat) : List eC → Prop
  | [] => True
  | c :: r => g_c N c ∧ g_h N r
theorem g_h_mem {N : Nat} : ∀ {h : List eC}, g_h N h → ∀ c ∈ h, g_c N c
  | _ :: _, q, c, hc => by
    rcases List.mem_cons.mp hc with rfl | hc
    · exact q.1
    · exact g_h_mem q.2 c hc
theorem g_mv {ad ad' : Nat → Nat} {N M : Nat} (ha : ∀ j, j < N ∨ M ≤ j → ad' j = ad j) {v : Value} (hv : g_v N M v) : e_mv ad' v = e_mv ad v := by
  cases v with
  | ref k => show Value.ref (ad' k) = Value.ref (ad k); rw [ha k hv]
  | _ => rfl
theorem g_mb {ad ad' : Nat → Nat} {N : Nat} (ha : ∀ j, j < N → ad' j = ad j) {v : Value} (hv : g_b N v) : e_mv ad' v = e_mv ad v := by
  cases v with
  | ref k => show Value.ref (ad' k) = Value.ref (ad k); rw [ha k hv]
  | _ => rfl
theorem g_rl {dA : Nat → ClassId} {ad ad' : Nat → Nat} {N : Nat} (ha : ∀ j, j < N → ad' j = ad j) {c : eC} (hc : g_c N c) : e_rl dA ad' c = e_rl dA ad c := by
  rcases c with ⟨t, n, f | f | f | f | f⟩ | ⟨c, fs⟩
  · rfl
  · rfl
  · rfl
  · rfl
  · have he : (fun j => (f j).map ad') = fun j => (f j).map ad := by
      funext j
      cases hj : f j with
      | none => rfl
      | some k => simp only [Option.map_some]; rw [ha k (hc j k hj)]
    show (Sum.inl (dA t, n, Sum.inr (Sum.inr (Sum.inr (Sum.inr fun j => (f j).map ad')))) : va_E) = _
    rw [he]
    rfl
  · have he : fs.map (e_mv ad') = fs.map (e_mv ad) := List.map_congr_left fun v hv => g_mb ha (hc v hv)
    show (Sum.inr (c, fs.map (e_mv ad')) : va_E) = _
    rw [he]
    rfl
theorem g_ls {ad ad' : Nat → Nat} {N M : Nat} (ha : ∀ j, j < N ∨ M ≤ j → ad' j = ad j) : ∀ {ls : List (Option Value)} {i : Nat}, (∀ v, some v ∈ ls → g_v N M v) → e_ls ad' i ls = e_ls ad i ls
  | [], _, _ => rfl
  | none :: r, i, h => g_ls ha (ls := r) (i := i + 1) fun v hv => h v (List.mem_cons_of_mem _ hv)
  | some u :: r, i, h => by
    show (i, e_mv ad' u) :: e_ls ad' (i + 1) r = (i, e_mv ad u) :: e_ls ad (i + 1) r
    rw [g_mv ha (h u List.mem_cons_self), g_ls ha (ls := r) (i := i + 1) fun v hv => h v (List.mem_cons_of_mem _ hv)]
theorem g_wd {dA : Nat → ClassId} {ad ad' : Nat → Nat} {h : List eC} (ha : ∀ j, j < h.length → ad' j = ad j) (hh : g_h h.length h) : e_wd dA ad' h = e_wd dA ad h := by
  apply List.ext_getElem?
  intro k
  rw [e_wd_at, e_wd_at]
  cases hk : h[k]? with
  | none => rfl
  | some c =>
    have hl : k < h.length := (List.getElem?_eq_some_iff.mp hk).1
    simp only [Option.map_some]
    rw [ha k hl, g_rl ha (g_h_mem hh c (List.mem_of_getElem? hk))]
theorem g_wd_app {dA : Nat → ClassId} {ad : Nat → Nat} {h h1 : List eC} : e_wd dA ad (h ++ h1) = e_wd dA ad h ++ (h1.mapIdx fun k c => (ad (h.length + k), e_rl dA ad c)) := by
  simp only [e_wd, List.mapIdx_append, Nat.add_comm]
/-- all that stays while cells are made: the locals at the start ad0, how many cells there were n0 -/
abbrev g_T : Type := Program × Launch × Env × Room × State × MethodId × Array Value × List Frame × Method × Code × (Nat → ClassId) × (Nat → Nat → Nat) × (Nat → ClassId) × (Nat → Prop) × Nat × (State → Prop) × (Nat → Nat) × Nat
def g_x : g_T → (Nat → Nat) → Nat → Nat → Nat → e_T
  | (p, l, e, R, s, m, args, below, meth, c, dC, dI, dA, A, nL, Q, _, _), ad, N, cells, slots => (p, l, e, R, s, m, args, below, meth, c, dC, dI, dA, ad, A, N, nL, cells, slots, Q)
def g_R : g_T → (Nat → Nat) → Nat → Prop
  | (_, _, _, _, s, _, _, _, _, _, _, _, _, _, _, _, ad0, n0), ad, N => (∀ k, k < n0 ∨ N ≤ k → ad k = ad0 k) ∧ (∀ k, n0 ≤ k → k < N → s.heap.size ≤ ad k) ∧ n0 ≤ N
def g_Y : g_T → Prop
  | (_, _, _, _, s, _, _, _, _, _, _, _, _, A, _, _, ad0, n0) => (∀ q, A q ↔ (∃ k, k < n0 ∧ q = ad0 k) ∨ s.heap.size ≤ q) ∧ va_AO RX4 s
def g_I : g_T → Prop
  | (_, _, _, _, _, _, _, _, meth, _, _, _, _, _, _, _, _, _) => meth.name = "<init>"
def g_mc : g_T → Nat
  | (_, _, _, R, _, _, _, _, _, _, _, _, _, _, _, _, _, _) => R.cells
def g_ms : g_T → Nat
  | (_, _, _, R, _, _, _, _, _, _, _, _, _, _, _, _, _, _) => R.slots
def e_G (y : g_T) (own : String) (cc : ByteArray) (d N cells slots pc : Nat) (ls : List (Option Value)) (st : List Value) (h : List eC) : Prop :=
  ∀ ad, g_R y ad N → e_X (g_x y ad N cells slots) own cc d → e_E (g_x y ad N cells slots) pc ls st h
def g_up (ad : Nat → Nat) (N q : Nat) : Nat → Nat := fun k => if k = N then q else ad k
theorem g_up_ne {ad : Nat → Nat} {N q : Nat} {k : Nat} (h : k ≠ N) : g_up ad N q k = ad k := by simp [g_up, h]
theorem g_up_eq {ad : Nat → Nat} {N q : Nat} : g_up ad N q N = q := by simp [g_up]
section GR
variable {y : g_T} {own : String} {cc : ByteArray} {d N cells slots pc : Nat} {ls : List (Option Value)} {st : List Value} {h : List eC} {ad : Nat → Nat}
/-- one cell more -/
theorem g_push {p : Program} {l : Launch} {e : Env} {R : Room} {s : State} {m : MethodId} {args : Array Value} {below : List Frame} {meth : Method} {c : Code} {dC : Nat → ClassId} {dI : Nat → Nat → Nat} {dA : Nat → ClassId} {A : Nat → Prop} {nL : Nat} {Q : State → Prop} {ad0 : Nat → Nat} {n0 cells2 slots2 pc2 : Nat}
    (hR : g_R (p, l, e, R, s, m, args, below, meth, c, dC, dI, dA, A, nL, Q, ad0, n0) ad N) (Y : g_Y (p, l, e, R, s, m, args, below, meth, c, dC, dI, dA, A, nL, Q, ad0, n0)) (X : e_X (p, l, e, R, s, m, args, below, meth, c, dC, dI, dA, ad, A, N, nL, cells, slots, Q) own cc d)
    (hN : h.length = N) (hL : ls.length = nL) {q : Nat} {H1 : Heap} {locs : List Loc} {la : Array Slot} {c1 : eC} (hno : ∀ ad ad' : Nat → Nat, e_rl dA ad c1 = e_rl dA ad' c1)
    (hP1 : va_P (dC, dI) vwCl (e_wd dA ad h ++ [(q, e_rl dA ad c1)]) H1) (hD1 : va_D A (e_wd dA ad h ++ [(q, e_rl dA ad c1)])) (hS1 : va_S A s.heap H1 locs) (hl : lv_has la nL (e_ls ad 0 ls))
    (hls : ∀ v, some v ∈ ls → g_v N (N + 1) v) (hst : ∀ v ∈ st, g_b N v) (hh : g_h N h) (hcs : cells2 ≤ R.cells) (hss : slots2 ≤ R.slots)
    (k : e_G (p, l, e, R, s, m, args, below, meth, c, dC, dI, dA, A, nL, Q, ad0, n0) own cc d (N + 1) cells2 slots2 pc2 ls (.ref N :: st) (h ++ [c1])) :
    W p l e R s m args below meth c H1 locs cells2 slots2 Q (F0 m pc2 la (.ref q :: st.map (e_mv ad))) := by
  have hlen : (e_wd dA ad h).length = N := by simp [e_wd, hN]
  have hat : (e_wd dA ad h ++ [(q, e_rl dA ad c1)])[N]? = some (q, e_rl dA ad c1) := by
    rw [List.getElem?_append_right (by omega), hlen, Nat.sub_self]; rfl
  have hold : ∀ k, k < N → ∃ c2, (e_wd dA ad h ++ [(q, e_rl dA ad c1)])[k]? = some (ad k, c2) := by
    intro k hk
    rw [List.getElem?_append_left (by omega), e_wd_at, List.getElem?_eq_getElem (by omega)]
    exact ⟨_, rfl⟩
  have hne : ∀ k, k < N → ad k ≠ q := by
    intro k hk hq
    obtain ⟨c2, h2⟩ := hold k hk
    have := hD1.1 k N _ _ h2 hat hq
    omega
  have hsz : s.heap.size ≤ q := by
    rcases (Y.1 q).mp (hD1.2 N _ hat) with ⟨k, hk, hq⟩ | hq
    · exact absurd (by rw [hR.1 k (Or.inl hk), hq]) (hne k (Nat.lt_of_lt_of_le hk hR.2.2))
    · exact hq
  have ha : ∀ j, j < N ∨ N + 1 ≤ j → g_up ad N q j = ad j := fun j hj => g_up_ne (by omega)
  have haN : ∀ j, j < N → g_up ad N q j = ad j := fun j hj => g_up_ne (by omega)
  have hR2 : g_R (p, l, e, R, s, m, args, below, meth, c, dC, dI, dA, A, nL, Q, ad0, n0) (g_up ad N q) (N + 1) := by
    refine ⟨fun k hk => ?_, fun k h1 h2 => ?_, Nat.le_succ_of_le hR.2.2⟩
    · have hk2 : k ≠ N := by have := hR.2.2; omega
      rw [g_up_ne hk2]
      exact hR.1 k (by omega)
    · by_cases hk : k = N
      · subst hk; rw [g_up_eq]; exact hsz
      · rw [g_up_ne hk]; exact hR.2.1 k h1 (by omega)
  have X2 : e_X (p, l, e, R, s, m, args, below, meth, c, dC, dI, dA, g_up ad N q, A, N + 1, nL, cells2, slots2, Q) own cc d := by
    obtain ⟨x1, x2, x3, x4, x5, x6, x7, x8, x9, x10, -, -⟩ := X
    refine ⟨x1, x2, x3, x4, x5, x6, fun i j hi hj hij => ?_, fun k hk => ?_, x9, x10, hcs, hss⟩
    · by_cases h1 : i = N
      · by_cases h2 : j = N
        · omega
        · subst h1
          rw [g_up_eq, g_up_ne h2] at hij
          exact absurd hij.symm (hne j (by omega))
      · by_cases h2 : j = N
        · subst h2
          rw [g_up_eq, g_up_ne h1] at hij
          exact absurd hij (hne i (by omega))
        · rw [g_up_ne h1, g_up_ne h2] at hij
          exact x7 i j (by omega) (by omega) hij
    · by_cases h1 : k = N
      · subst h1; rw [g_up_eq]; exact (Y.1 q).mpr (Or.inr hsz)
      · rw [g_up_ne h1]; exact x8 k (by omega)
  have hst2 : (Value.ref N :: st).map (e_mv (g_up ad N q)) = .ref q :: st.map (e_mv ad) := by
    rw [List.map_cons]
    show Value.ref (g_up ad N q N) :: _ = _
    rw [g_up_eq, List.map_congr_left fun v hv => g_mb haN (hst v hv)]
  have hk := k (g_up ad N q) hR2 X2 hL (by simp [hN]) H1 locs la ?_ hS1 (by rw [g_ls ha hls]; exact hl)
  · rw [hst2] at hk
    exact hk
  · rw [g_wd_app, g_wd (ad := ad) (fun j hj => haN j (by omega)) (by rw [hN]; exact hh)]
    have : ([c1].mapIdx fun k c => (g_up ad N q (h.length + k), e_rl dA (g_up ad N q) c)) = [(q, e_rl dA ad c1)] := by
      show [(g_up ad N q (h.length + 0), e_rl dA (g_up ad N q) c1)] = _
      rw [Nat.add_zero, hN, g_up_eq, hno (g_up ad N q) ad]
    rw [this]
    exact hP1
/-- new -/
theorem gi_new (hR : g_R y ad N) (X : e_X (g_x y ad N cells slots) own cc d) (Y : g_Y y) {idx ci n : Nat} {C : String} {T : u_T} {ty : Nat → FieldType} {fs : List Value} (hd : decode cc pc = .ok (.new idx, 3))
    (hcl : Cond.classLink own idx C ∈ e_ws) (hin : Cond.instantiable C n ∈ e_ws) (hini : Cond.initialized C ∈ e_ws) (hc : vwCl[ci]? = some (C, T, n)) (hu : ∀ w ∈ u_ws C T n, w ∈ e_ws) (hty : ∀ k, k < n → parseFieldDescriptor (T k).2.2.1 = some (ty k)) (hfs : ∀ j, j < n → defaultValue (ty j) = vp_V fs j) (hno : ∀ ad : Nat → Nat, fs.map (e_mv ad) = fs)
    (hcs : cells + 1 ≤ g_mc y) (hss : slots + n ≤ g_ms y) (hls : ∀ v, some v ∈ ls → g_v N (N + 1) v) (hst : ∀ v ∈ st, g_b N v) (hh : g_h N h)
    (k : e_G y own cc d (N + 1) (cells + 1) (slots + n) (pc + 3) ls (.ref N :: st) (h ++ [.inr (ci, fs)])) : e_E (g_x y ad N cells slots) pc ls st h := by
  obtain ⟨p, l, e, R, s, m, args, below, meth, c, dC, dI, dA, A, nL, Q, ad0, n0⟩ := y
  intro hL hN H locs la hP hS hl
  refine va_new (ci := ci) (fs := fs) (C := C) (T := T) (N := n) X.1 X.2.1 X.2.2.2.2.1 hu ty hty X.2.2.2.1 (X.2.2.2.2.1 _ hcl) (X.2.2.2.2.1 _ hin) (X.2.2.2.2.1 _ hini) X.2.2.2.2.2.1 hP (e_D X.2.2.2.2.2.2.1 X.2.2.2.2.2.2.2.1 hN) hS (fun q hq => (Y.1 q).mpr (Or.inr hq)) hc hfs hcs hss hd (fun q H1 hP1 hD1 hS1 => ?_)
  have he : (Sum.inr (ci, fs) : va_E) = e_rl dA ad (.inr (ci, fs)) := by show _ = Sum.inr (ci, fs.map (e_mv ad)); rw [hno]
  rw [he] at hP1 hD1
  exact g_push hR Y X hN hL (fun a1 a2 => by show (Sum.inr (ci, fs.map (e_mv a1)) : va_E) = Sum.inr (ci, fs.map (e_mv a2)); rw [hno, hno]) hP1 hD1 hS1 hl hls hst hh hcs hss k
theorem g_tyI {s : State} {D : va_G} {cl : List vw_C} {dA : Nat → ClassId} {cA : ClassId} (h1 : va_K D cl (e_tys dA ++ [(cA, .int)]) s) : cA = dA 0 := by
  have a1 : va_RA s cA .int := (h1.2 3 (cA, .int) rfl).2
  have a2 : va_RA s (dA 0) .int := (h1.2 0 (dA 0, .int) rfl).2
  exact Option.some.inj ((show s.vm.findClass _ = some cA from a1).symm.trans a2)
theorem g_tyL {s : State} {D : va_G} {cl : List vw_C} {dA : Nat → ClassId} {cA : ClassId} (h1 : va_K D cl (e_tys dA ++ [(cA, .long)]) s) : cA = dA 1 := by
  have a1 : va_RA s cA .long := (h1.2 3 (cA, .long) rfl).2
  have a2 : va_RA s (dA 1) .long := (h1.2 1 (dA 1, .long) rfl).2
  exact Option.some.inj ((show s.vm.findClass _ = some cA from a1).symm.trans a2)
theorem g_tyQ {s : State} {D : va_G} {cl : List vw_C} {dA : Nat → ClassId} {cA : ClassId} (h1 : va_K D cl (e_tys dA ++ [(cA, .object RX4)]) s) : cA = dA 2 := by
  have a1 : va_RA s cA (.object RX4) := (h1.2 3 (cA, .object RX4) rfl).2
  have a2 : va_RA s (dA 2) (.object RX4) := (h1.2 2 (dA 2, .object RX4) rfl).2
  obtain ⟨_, _, -, -, -, b1⟩ := a1
  obtain ⟨_, _, -, -, -, b2⟩ := a2
  exact Option.some.inj (b1.symm.trans b2)
/-- new int[n] -/
theorem gi_newi (hR : g_R y ad N) (X : e_X (g_x y ad N cells slots) own cc d) (Y : g_Y y) {v : Int32} (n : Nat) (hd : decode cc pc = .ok (.newarray .int, 2)) (hn : ¬ v < 0) (hv : v.toNatClampNeg = n) (hb : n * 4 ≤ 536870912)
    (hcs : cells + 1 ≤ g_mc y) (hss : slots + n ≤ g_ms y) (hls : ∀ v, some v ∈ ls → g_v N (N + 1) v) (hst : ∀ v ∈ st, g_b N v) (hh : g_h N h)
    (k : e_G y own cc d (N + 1) (cells + 1) (slots + n) (pc + 2) ls (.ref N :: st) (h ++ [.inl (0, n, .inl fun _ => 0)])) : e_E (g_x y ad N cells slots) pc ls (.int v :: st) h := by
  obtain ⟨p, l, e, R, s, m, args, below, meth, c, dC, dI, dA, A, nL, Q, ad0, n0⟩ := y
  intro hL hN H locs la hP hS hl
  refine va_newa (atype := .int) (ty := .int) (N' := n) (a0 := (n, .inl fun _ => 0)) X.1 X.2.1 (X.2.2.2.2.1 _ (e_in 153 (by decide +kernel) (by decide +kernel))) rfl X.2.2.2.2.2.1 hP (e_D X.2.2.2.2.2.2.1 X.2.2.2.2.2.2.2.1 hN) hS (fun q hq => (Y.1 q).mpr (Or.inr hq)) (fun _ => rfl) hn hv hb hcs hss hd (fun q cA H1 hK1 hP1 hD1 hS1 => ?_)
  have hcA := g_tyI hK1
  subst hcA
  exact g_push (c1 := .inl (0, n, .inl fun _ => 0)) hR Y X hN hL (fun a1 a2 => rfl) hP1 hD1 hS1 hl hls hst hh hcs hss k
/-- new long[n] -/
theorem gi_newl (hR : g_R y ad N) (X : e_X (g_x y ad N cells slots) own cc d) (Y : g_Y y) {v : Int32} (n : Nat) (hd : decode cc pc = .ok (.newarray .long, 2)) (hn : ¬ v < 0) (hv : v.toNatClampNeg = n) (hb : n * 8 ≤ 536870912)
    (hcs : cells + 1 ≤ g_mc y) (hss : slots + n ≤ g_ms y) (hls : ∀ v, some v ∈ ls → g_v N (N + 1) v) (hst : ∀ v ∈ st, g_b N v) (hh : g_h N h)
    (k : e_G y own cc d (N + 1) (cells + 1) (slots + n) (pc + 2) ls (.ref N :: st) (h ++ [.inl (1, n, .inr (.inl fun _ => 0))])) : e_E (g_x y ad N cells slots) pc ls (.int v :: st) h := by
  obtain ⟨p, l, e, R, s, m, args, below, meth, c, dC, dI, dA, A, nL, Q, ad0, n0⟩ := y
  intro hL hN H locs la hP hS hl
  refine va_newa (atype := .long) (ty := .long) (N' := n) (a0 := (n, .inr (.inl fun _ => 0))) X.1 X.2.1 (X.2.2.2.2.1 _ (e_in 1021 (by decide +kernel) (by decide +kernel))) rfl X.2.2.2.2.2.1 hP (e_D X.2.2.2.2.2.2.1 X.2.2.2.2.2.2.2.1 hN) hS (fun q hq => (Y.1 q).mpr (Or.inr hq)) (fun _ => rfl) hn hv hb hcs hss hd (fun q cA H1 hK1 hP1 hD1 hS1 => ?_)
  have hcA := g_tyL hK1
  subst hcA
  exact g_push (c1 := .inl (1, n, .inr (.inl fun _ => 0))) hR Y X hN hL (fun a1 a2 => rfl) hP1 hD1 hS1 hl hls hst hh hcs hss k
/-- new Shelf[n] -/
theorem gi_newq (hR : g_R y ad N) (X : e_X (g_x y ad N cells slots) own cc d) (Y : g_Y y) {idx : Nat} {v : Int32} (n : Nat) (hd : decode cc pc = .ok (.anewarray idx, 3)) (hcl : Cond.classLink own idx RX4 ∈ e_ws) (hn : ¬ v < 0) (hv : v.toNatClampNeg = n) (hb : n * 4 ≤ 536870912)
    (hcs : cells + 1 ≤ g_mc y) (hss : slots + n ≤ g_ms y) (hls : ∀ v, some v ∈ ls → g_v N (N + 1) v) (hst : ∀ v ∈ st, g_b N v) (hh : g_h N h)
    (k : e_G y own cc d (N + 1) (cells + 1) (slots + n) (pc + 3) ls (.ref N :: st) (h ++ [.inl (2, n, .inr (.inr (.inr (.inr fun _ => none))))])) : e_E (g_x y ad N cells slots) pc ls (.int v :: st) h := by
  obtain ⟨p, l, e, R, s, m, args, below, meth, c, dC, dI, dA, A, nL, Q, ad0, n0⟩ := y
  intro hL hN H locs la hP hS hl
  refine va_newq (C := RX4) (N' := n) X.1 X.2.1 X.2.2.2.1 (X.2.2.2.2.1 _ hcl) Y.2 X.2.2.2.2.2.1 hP (e_D X.2.2.2.2.2.2.1 X.2.2.2.2.2.2.2.1 hN) hS (fun q hq => (Y.1 q).mpr (Or.inr hq)) hn hv hb hcs hss hd (fun q cA H1 hK1 hP1 hD1 hS1 => ?_)
  have hcA := g_tyQ hK1
  subst hcA
  exact g_push (c1 := .inl (2, n, .inr (.inr (.inr (.inr fun _ => none))))) hR Y X hN hL (fun a1 a2 => rfl) hP1 hD1 hS1 hl hls hst hh hcs hss k
end GR
section GX
variable {x : e_T} {own : String} {cc : ByteArray} {d pc : Nat} {ls : List (Option Value)} {st : List Value} {h : List eC}
/-- a[i] = o -/
theorem ei_aastore {k n o : Nat} {g : Nat → Option Nat} {i : Int32} {fs : List Value} (X : e_X x own cc d) (hd : decode cc pc = .ok (.aastore, 1)) (hh : h[k]? = some (.inl (2, n, .inr (.inr (.inr (.inr g)))))) (ho : h[o]? = some (.inr (2, fs))) (hin : vp_in i n) {h2 : List eC} (h2e : h.set k (.inl (2, n, .inr (.inr (.inr (.inr (va_up g i.toNatClampNeg (some o))))))) = h2) (kk : e_E x (pc + 1) ls st h2) : e_E x pc ls (.ref o :: .int i :: .ref k :: st) h := by
  obtain ⟨p, l, e, R, s, m, args, below, meth, c, dC, dI, dA, ad, A, N, nL, cells, slots, Q⟩ := x
  intro hL hN H locs la hP hS hl
  subst h2e
  refine va_astq (r := (RX4, TX4, 6)) X.1 X.2.1 X.2.2.2.2.2.1 hP (e_D X.2.2.2.2.2.2.1 X.2.2.2.2.2.2.2.1 hN) hS k 2 o 2 (e_wd_get hh) rfl (e_wd_get ho) rfl hin hd (fun H1 locs1 hP1 hD1 hS1 => ?_)
  refine kk hL (by rw [List.length_set]; exact hN) H1 locs1 la ?_ hS1 hl
  rw [e_wd_set]
  have he : (fun j => (va_up g i.toNatClampNeg (some o) j).map ad) = va_up (fun j => (g j).map ad) i.toNatClampNeg (some (ad o)) := by
    funext j
    by_cases hj : j = i.toNatClampNeg
    · simp [va_up, hj]
    · simp [va_up, hj]
  show va_P (dC, dI) vwCl ((e_wd dA ad h).set k (ad k, .inl (dA 2, n, .inr (.inr (.inr (.inr fun j => (va_up g i.toNatClampNeg (some o) j).map ad)))))) H1
  rw [he]
  exact hP1
/-- Object() -/
theorem ei_objInit {k idx : Nat} (X : e_X x own cc d) (hlk : Cond.methodLink own idx objectInit ∈ e_ws) (h0 : 1 ≤ d) (hd : decode cc pc = .ok (.invokespecial idx, 3)) (hcat : (st.map fun v => v.category).sum ≤ 8) (kk : e_E x (pc + 3) ls st h) : e_E x pc ls (.ref k :: st) h := by
  obtain ⟨p, l, e, R, s, m, args, below, meth, c, dC, dI, dA, ad, A, N, nL, cells, slots, Q⟩ := x
  intro hL hN H locs la hP hS hl
  have h1 := X.2.2.2.2.2.2.2.2.1
  have h2 := X.2.2.2.2.2.2.2.2.2.1
  refine W.objInit X.1 X.2.1 X.2.2.2.1 (X.2.2.2.2.1 _ hlk) (X.2.2.2.2.1 _ (e_in 92 (by decide +kernel) (by decide +kernel))) (X.2.2.2.2.1 _ (e_in 93 (by decide +kernel) (by decide +kernel))) rfl (hl.1.trans X.2.2.1.symm) rfl hd (by omega) ?_ ?_
  · show 2 * 0 + ((st.map (e_mv ad)).map fun v => v.category).sum + 12 ≤ R.locals
    rw [e_cats]; omega
  · exact kk hL hN H locs la hP hS hl
/-- the same array, at its places alike -/
theorem ei_fun {k n : Nat} {f g : Nat → Option Nat} (hh : h[k]? = some (.inl (2, n, .inr (.inr (.inr (.inr f)))))) (hfg : ∀ j, j < n → f j = g j) {h2 : List eC} (h2e : h.set k (.inl (2, n, .inr (.inr (.inr (.inr g))))) = h2) (kk : e_E x pc ls st h2) : e_E x pc ls st h := by
  obtain ⟨p, l, e, R, s, m, args, below, meth, c, dC, dI, dA, ad, A, N, nL, cells, slots, Q⟩ := x
  intro hL hN H locs la hP hS hl
  subst h2e
  refine kk hL (by rw [List.length_set]; exact hN) H locs la ?_ hS hl
  rw [e_wd_set]
  intro j q hq
  by_cases hj : j = k
  · subst hj
    have hl2 : j < (e_wd dA ad h).length := by
      have := (List.getElem?_eq_some_iff.mp hh).1
      simpa [e_wd] using this
    rw [List.getElem?_set_self hl2] at hq
    cases hq
    have h0 := hP j _ (e_wd_get hh)
    show H[ad j]? = some (vp_cell (dA 2) (n, .inr (.inr (.inr (.inr fun i => (g i).map ad)))))
    have h1 : H[ad j]? = some (vp_cell (dA 2) (n, .inr (.inr (.inr (.inr fun i => (f i).map ad))))) := h0
    rw [h1, vp_cell_q, vp_cell_q]
    have : (Array.ofFn (n := n) fun i => va_rf ((f i.val).map ad)) = Array.ofFn (n := n) fun i => va_rf ((g i.val).map ad) := by
      congr 1
      funext i
      rw [hfg i.val i.isLt]
    show some (arrV _ _ _) = some (arrV _ _ _)
    unfold arrV
    rw [this]
  · rw [List.getElem?_set_ne (Ne.symm hj)] at hq
    exact hP j q hq
end GX
