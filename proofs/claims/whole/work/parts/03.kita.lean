/-! ===== the own kit: a pure picture of a method's cells, at numbers of its own ===== -/
/-- a cell: .inl (kind of array, contents), .inr (number of its class, its fields); a reference in it is the number of a cell -/
abbrev eC : Type := (Nat × vp_A) ⊕ (Nat × List Value)
def e_mv (ad : Nat → Nat) : Value → Value
  | .ref k => .ref (ad k)
  | v => v
def e_rl (dA : Nat → ClassId) (ad : Nat → Nat) : eC → va_E
  | .inl (t, n, .inr (.inr (.inr (.inr f)))) => .inl (dA t, n, .inr (.inr (.inr (.inr fun j => (f j).map ad))))
  | .inl (t, n, a) => .inl (dA t, n, a)
  | .inr (c, fs) => .inr (c, fs.map (e_mv ad))
/-- a cell with other numbers -/
def e_rn (r : Nat → Nat) : eC → eC
  | .inl (t, n, .inr (.inr (.inr (.inr f)))) => .inl (t, n, .inr (.inr (.inr (.inr fun j => (f j).map r))))
  | .inl (t, n, a) => .inl (t, n, a)
  | .inr (c, fs) => .inr (c, fs.map (e_mv r))
def e_wd (dA : Nat → ClassId) (ad : Nat → Nat) (h : List eC) : va_W := h.mapIdx fun k c => (ad k, e_rl dA ad c)
def e_tys (dA : Nat → ClassId) : List (ClassId × FieldType) := [(dA 0, .int), (dA 1, .long), (dA 2, .object RX4)]
def e_ls (ad : Nat → Nat) : Nat → List (Option Value) → List (Nat × Value)
  | _, [] => []
  | i, none :: r => e_ls ad (i + 1) r
  | i, some v :: r => (i, e_mv ad v) :: e_ls ad (i + 1) r
theorem e_mv_cat (ad : Nat → Nat) (v : Value) : (e_mv ad v).category = v.category := by cases v <;> rfl
theorem e_mv_comp (ad r : Nat → Nat) (v : Value) : e_mv ad (e_mv r v) = e_mv (fun k => ad (r k)) v := by cases v <;> rfl
theorem e_rl_rn (dA : Nat → ClassId) (ad r : Nat → Nat) (c : eC) : e_rl dA ad (e_rn r c) = e_rl dA (fun k => ad (r k)) c := by
  rcases c with ⟨t, n, f | f | f | f | f⟩ | ⟨c, fs⟩
  · rfl
  · rfl
  · rfl
  · rfl
  · simp [e_rl, e_rn, Option.map_map, Function.comp_def]
  · simp [e_rl, e_rn, List.map_map, Function.comp_def, e_mv_comp]
theorem e_wd_at (dA : Nat → ClassId) (ad : Nat → Nat) (h : List eC) (k : Nat) : (e_wd dA ad h)[k]? = (h[k]?).map fun c => (ad k, e_rl dA ad c) := by
  simp [e_wd, List.getElem?_mapIdx]
theorem e_wd_get {dA : Nat → ClassId} {ad : Nat → Nat} {h : List eC} {k : Nat} {c : eC} (hh : h[k]? = some c) : (e_wd dA ad h)[k]? = some (ad k, e_rl dA ad c) := by
  rw [e_wd_at, hh]; rfl
theorem e_wd_set (dA : Nat → ClassId) (ad : Nat → Nat) (h : List eC) (k : Nat) (c : eC) : e_wd dA ad (h.set k c) = (e_wd dA ad h).set k (ad k, e_rl dA ad c) := by
  apply List.ext_getElem?
  intro j
  rw [e_wd_at]
  by_cases hj : j = k
  · subst hj
    by_cases hl : j < h.length
    · rw [List.getElem?_set_self hl, List.getElem?_set_self (by simpa [e_wd] using hl)]; rfl
    · rw [List.getElem?_eq_none (by simpa using hl), List.getElem?_eq_none (by simpa [e_wd] using hl)]; rfl
  · rw [List.getElem?_set_ne (Ne.symm hj), List.getElem?_set_ne (Ne.symm hj), e_wd_at]
theorem e_ls_mem {ad : Nat → Nat} : ∀ {ls : List (Option Value)} {i j : Nat} {w : Value}, (j, w) ∈ e_ls ad i ls ↔ ∃ (k : Nat) (v : Value), ls[k]? = some (some v) ∧ j = i + k ∧ w = e_mv ad v
  | [], i, j, w => by simp [e_ls]
  | none :: r, i, j, w => by
    rw [show e_ls ad i (none :: r) = e_ls ad (i + 1) r from rfl, e_ls_mem (ls := r)]
    constructor
    · rintro ⟨k, v, h1, h2, h3⟩
      exact ⟨k + 1, v, by simpa using h1, by omega, h3⟩
    · rintro ⟨k, v, h1, h2, h3⟩
      cases k with
      | zero => simp at h1
      | succ k => exact ⟨k, v, by simpa using h1, by omega, h3⟩
  | some u :: r, i, j, w => by
    rw [show e_ls ad i (some u :: r) = (i, e_mv ad u) :: e_ls ad (i + 1) r from rfl, List.mem_cons, e_ls_mem (ls := r)]
    constructor
    · rintro (h | ⟨k, v, h1, h2, h3⟩)
      · cases h
        exact ⟨0, u, rfl, rfl, rfl⟩
      · exact ⟨k + 1, v, by simpa using h1, by omega, h3⟩
    · rintro ⟨k, v, h1, h2, h3⟩
      cases k with
      | zero =>
        have : u = v := by simpa using h1
        subst this
        exact Or.inl (by rw [h2, h3]; rfl)
      | succ k => exact Or.inr ⟨k, v, by simpa using h1, by omega, h3⟩
theorem e_has_mono {la : Array Slot} {nL : Nat} {l l' : List (Nat × Value)} (h : lv_has la nL l) (hs : ∀ q ∈ l', q ∈ l) : lv_has la nL l' := ⟨h.1, h.2.1, fun q hq => h.2.2 q (hs q hq)⟩
theorem e_has_at {la : Array Slot} {nL : Nat} {ad : Nat → Nat} {ls : List (Option Value)} {k : Nat} {v : Value} (h : lv_has la nL (e_ls ad 0 ls)) (hk : ls[k]? = some (some v)) : la[k]? = some (.val (e_mv ad v)) :=
  h.2.2 (k, e_mv ad v) (e_ls_mem.mpr ⟨k, v, hk, by omega, rfl⟩)
/-- no long stands in the place ahead -/
def e_nw (ls : List (Option Value)) (i : Nat) : Bool := match i with
  | 0 => true
  | k + 1 => match ls[k]? with
    | some (some v) => v.category == 1
    | _ => true
theorem e_nw_spec {ls : List (Option Value)} {i k : Nat} {v : Value} (h : e_nw ls i = true) (hk : ls[k]? = some (some v)) (hi : k + 1 = i) : v.category = 1 := by
  subst hi
  simp only [e_nw, hk] at h
  simpa using h
theorem e_ls_set1 {ad : Nat → Nat} {ls : List (Option Value)} {i : Nat} {v : Value} (hn : e_nw ls i = true) : ∀ q ∈ e_ls ad 0 (ls.set i (some v)), q ∈ (i, e_mv ad v) :: (e_ls ad 0 ls).filter (fun q => !(q.1 == i) && !(q.1 + 1 == i && q.2.category == 2)) := by
  rintro ⟨j, w⟩ hq
  obtain ⟨k, u, h1, h2, h3⟩ := e_ls_mem.mp hq
  have hjk : j = k := by omega
  subst hjk
  by_cases hj : j = i
  · subst hj
    have hl : j < ls.length := by
      have := (List.getElem?_eq_some_iff.mp h1).1
      simpa using this
    rw [List.getElem?_set_self hl] at h1
    cases h1
    rw [h3]
    exact List.mem_cons_self
  · rw [List.getElem?_set_ne (Ne.symm hj)] at h1
    refine List.mem_cons_of_mem _ (List.mem_filter.mpr ⟨e_ls_mem.mpr ⟨j, u, h1, by omega, h3⟩, ?_⟩)
    have : ¬ (j + 1 = i ∧ w.category = 2) := by
      rintro ⟨a, b⟩
      rw [h3, e_mv_cat, e_nw_spec hn h1 a] at b
      cases b
    simp only [Bool.and_eq_true, Bool.not_eq_true', beq_eq_false_iff_ne, ne_eq, Bool.and_eq_false_iff]
    refine ⟨hj, ?_⟩
    by_cases h4 : j + 1 = i
    · exact Or.inr fun h5 => this ⟨h4, h5⟩
    · exact Or.inl h4
theorem e_ls_set2 {ad : Nat → Nat} {ls : List (Option Value)} {i : Nat} {v : Value} (hn : e_nw ls i = true) : ∀ q ∈ e_ls ad 0 ((ls.set i (some v)).set (i + 1) none), q ∈ (i, e_mv ad v) :: (e_ls ad 0 ls).filter (fun q => !(q.1 == i) && (!(q.1 == i + 1) && !(q.1 + 1 == i && q.2.category == 2))) := by
  rintro ⟨j, w⟩ hq
  obtain ⟨k, u, h1, h2, h3⟩ := e_ls_mem.mp hq
  have hjk : j = k := by omega
  subst hjk
  have hj1 : j ≠ i + 1 := by
    intro h
    subst h
    by_cases hl : i + 1 < (ls.set i (some v)).length
    · rw [List.getElem?_set_self hl] at h1; cases h1
    · rw [List.getElem?_eq_none (by simpa using hl)] at h1; cases h1
  rw [List.getElem?_set_ne (Ne.symm hj1)] at h1
  by_cases hj : j = i
  · subst hj
    have hl : j < ls.length := by
      have := (List.getElem?_eq_some_iff.mp h1).1
      simpa using this
    rw [List.getElem?_set_self hl] at h1
    cases h1
    rw [h3]
    exact List.mem_cons_self
  · rw [List.getElem?_set_ne (Ne.symm hj)] at h1
    refine List.mem_cons_of_mem _ (List.mem_filter.mpr ⟨e_ls_mem.mpr ⟨j, u, h1, by omega, h3⟩, ?_⟩)
    have : ¬ (j + 1 = i ∧ w.category = 2) := by
      rintro ⟨a, b⟩
      rw [h3, e_mv_cat, e_nw_spec hn h1 a] at b
      cases b
    simp only [Bool.and_eq_true, Bool.not_eq_true', beq_eq_false_iff_ne, ne_eq, Bool.and_eq_false_iff]
    refine ⟨hj, hj1, ?_⟩
    by_cases h4 : j + 1 = i
    · exact Or.inr fun h5 => this ⟨h4, h5⟩
    · exact Or.inl h4
/-- the words of the tables that a callee may need -/
def e_ws : List Cond := lw_tbl.filter goodWord
theorem e_in {w : Cond} (i : Nat) (h : lw_tbl[i]? = some w) (g : goodWord w = true) : w ∈ e_ws := List.mem_filter.mpr ⟨List.mem_of_getElem? h, g⟩
theorem e_good {w : Cond} (h : w ∈ e_ws) : (w.onTables && w.keeps) = true ∨ ∃ ty, w = .arrayClass ty := good_of_word (List.mem_filter.mp h).2
/-- a field's place in the constant pool -/
def e_FL (own : String) (idx ci f : Nat) : Prop := ∃ (C : String) (T : u_T) (N : Nat) (ty0 : Nat → FieldType), vwCl[ci]? = some (C, T, N) ∧ f < N ∧ (∀ w ∈ u_ws C T N, w ∈ e_ws) ∧ (∀ k, k < N → parseFieldDescriptor (T k).2.2.1 = some (ty0 k)) ∧ (∀ a, a < N → ∀ b, b < N → a ≠ b → (T a).2.1 ≠ (T b).2.1) ∧ Cond.fieldLink own idx (T f).1 (T f).2.1 (T f).2.2.1 ∈ e_ws
def e_FP (own : String) (idx ci f : Nat) (ty : FieldType) : Prop := ∃ (C : String) (T : u_T) (N : Nat) (ty0 : Nat → FieldType), vwCl[ci]? = some (C, T, N) ∧ f < N ∧ (∀ w ∈ u_ws C T N, w ∈ e_ws) ∧ (∀ k, k < N → parseFieldDescriptor (T k).2.2.1 = some (ty0 k)) ∧ (∀ a, a < N → ∀ b, b < N → a ≠ b → (T a).2.1 ≠ (T b).2.1) ∧ Cond.fieldLink own idx (T f).1 (T f).2.1 (T f).2.2.1 ∈ e_ws ∧ (T f).2.2.2 = false ∧ parseFieldDescriptor (T f).2.2.1 = some ty
/-- a method's place -/
def e_MV (own : String) (idx ci : Nat) (y : MethodName) (cc : ByteArray) (maxL : Nat) (ret : Option FieldType) (n : Nat) : Prop :=
  Cond.methodLink own idx y ∈ e_ws ∧ Cond.instanceMethod y ∈ e_ws ∧ Cond.selects y.cls y y ∈ e_ws ∧ Cond.initialized y.cls ∈ e_ws ∧ Cond.code y cc maxL ret ∈ e_ws ∧ (y.cls ≠ "java/lang/invoke/MethodHandle" ∧ y.cls ≠ "java/lang/invoke/VarHandle" ∧ (parseMethodDescriptor y.desc).map (fun d => d.parameters.length) = some n) ∧ ∃ (T : u_T) (N : Nat), vwCl[ci]? = some (y.cls, T, N)
def e_MS (own : String) (idx : Nat) (y : MethodName) (cc : ByteArray) (maxL : Nat) (ret : Option FieldType) (n : Nat) : Prop :=
  Cond.methodLink own idx y ∈ e_ws ∧ Cond.static y ∈ e_ws ∧ Cond.initialized y.cls ∈ e_ws ∧ Cond.code y cc maxL ret ∈ e_ws ∧ (y.cls ≠ "java/lang/invoke/MethodHandle" ∧ y.cls ≠ "java/lang/invoke/VarHandle" ∧ (parseMethodDescriptor y.desc).map (fun d => d.parameters.length) = some n)
def e_A (ad : Nat → Nat) (n : Nat) : Nat → Prop := fun q => ∃ k, k < n ∧ q = ad k
def e_Q (dC : Nat → ClassId) (dI : Nat → Nat → Nat) (dA : Nat → ClassId) (ad : Nat → Nat) (A : Nat → Prop) (n : Nat) (P : Option Value → List eC → Prop) : Array Value → State → Outcome → State → Prop := fun _ st oc t =>
  (∃ (r : Option Value) (h : List eC), h.length = n ∧ P r h ∧ oc = .returned (r.map (e_mv ad)) ∧ va_P (dC, dI) vwCl (e_wd dA ad h) t.heap) ∧ va_F A st t
def e_Pc (dC : Nat → ClassId) (dI : Nat → Nat → Nat) (dA : Nat → ClassId) (ad : Nat → Nat) (As : List Value) (h : List eC) : Array Value → State → Prop :=
  va_Pc (As.map (e_mv ad)) (fun U => va_P (dC, dI) vwCl (e_wd dA ad h) U.heap ∧ va_K (dC, dI) vwCl (e_tys dA) U ∧ ∀ i j, i < h.length → j < h.length → ad i = ad j → i = j)
/-- THE CONTRACT of a method: called with As over the cells h it returns r over the cells h' with P r h' -/
def e_Ct (y : MethodName) (cc : ByteArray) (maxL : Nat) (ret : Option FieldType) (d : Nat) (As : List Value) (h : List eC) (P : Option Value → List eC → Prop) : Prop :=
  ∀ (l : Launch) (dC : Nat → ClassId) (dI : Nat → Nat → Nat) (dA : Nat → ClassId) (ad : Nat → Nat), Met l y (Cond.code y cc maxL ret :: e_ws) { frames := d, cells := 0, slots := 0, locals := 40 * d } (e_Pc dC dI dA ad As h) (e_Q dC dI dA ad (e_A ad h.length) h.length P) 0 0 (e_A ad h.length)
/-- an answer and its cells -/
def e_eq (r0 : Option Value) (h0 : List eC) : Option Value → List eC → Prop := fun r h => r = r0 ∧ h = h0
abbrev e_T : Type := Program × Launch × Env × Room × State × MethodId × Array Value × List Frame × Method × Code × (Nat → ClassId) × (Nat → Nat → Nat) × (Nat → ClassId) × (Nat → Nat) × (Nat → Prop) × Nat × Nat × Nat × Nat × (State → Prop)
/-- from here, over the cells h, the method comes to its end -/
def e_E (x : e_T) (pc : Nat) (ls : List (Option Value)) (st : List Value) (h : List eC) : Prop := match x with
  | (p, l, e, R, s, m, args, below, meth, c, dC, dI, dA, ad, A, N, nL, cells, slots, Q) => ls.length = nL → h.length = N → ∀ (H : Heap) (locs : List Loc) (la : Array Slot), va_P (dC, dI) vwCl (e_wd dA ad h) H → va_S A s.heap H locs → lv_has la nL (e_ls ad 0 ls) → W p l e R s m args below meth c H locs cells slots Q (F0 m pc la (st.map (e_mv ad)))
/-- what holds all through a method -/
def e_X (x : e_T) (own : String) (cc : ByteArray) (d : Nat) : Prop := match x with
  | (p, _, _, R, s, m, args, _, _, c, dC, dI, dA, ad, A, N, nL, cells, slots, _) => p.tables.exec = Jvm.exec ∧ c.code = cc ∧ c.maxLocals = nL ∧ s.vm.findClass own = some m.cls ∧ (∀ w ∈ e_ws, w.before args s = true) ∧ va_K (dC, dI) vwCl (e_tys dA) s ∧ (∀ i j, i < N → j < N → ad i = ad j → i = j) ∧ (∀ k, k < N → A (ad k)) ∧ d ≤ R.frames ∧ 40 * d ≤ R.locals ∧ cells ≤ R.cells ∧ slots ≤ R.slots
/-- how it ends -/
def e_F (x : e_T) (ret : Option FieldType) (P : Option Value → List eC → Prop) : Prop := match x with
  | (_, _, _, _, s, _, args, below, meth, _, dC, dI, dA, ad, A, N, _, cells, slots, Q) => Q = MQ below (e_Q dC dI dA ad A N P) args s cells slots A ∧ meth.sig.returnType = ret ∧ meth.locks = false
theorem e_D {ad : Nat → Nat} {A : Nat → Prop} {N : Nat} {dA : Nat → ClassId} {h : List eC} (h1 : ∀ i j, i < N → j < N → ad i = ad j → i = j) (h2 : ∀ k, k < N → A (ad k)) (hN : h.length = N) : va_D A (e_wd dA ad h) := by
  have key : ∀ (k : Nat) (q : Nat × va_E), (e_wd dA ad h)[k]? = some q → k < N ∧ q.1 = ad k := by
    intro k q hq
    rw [e_wd_at] at hq
    cases hc : h[k]? with
    | none => rw [hc] at hq; cases hq
    | some c =>
      rw [hc] at hq
      cases hq
      exact ⟨by rw [← hN]; exact (List.getElem?_eq_some_iff.mp hc).1, rfl⟩
  refine ⟨fun i j p q hp hq hpq => ?_, fun k q hq => ?_⟩
  · obtain ⟨a1, a2⟩ := key i p hp
    obtain ⟨b1, b2⟩ := key j q hq
    exact h1 i j a1 b1 (by rw [← a2, ← b2]; exact hpq)
  · obtain ⟨a1, a2⟩ := key k q hq
    rw [a2]
    exact h2 k a1
/-- the locals at a method's entry -/
def e_ent : List Value → Nat → List (Option Value)
  | [], n => List.replicate n none
  | v :: vs, n => if v.category = 2 then some v :: none :: e_ent vs (n - 2) else some v :: e_ent vs (n - 1)
theorem e_ent_mem {ad : Nat → Nat} : ∀ (As : List Value) (n i : Nat), ∀ q ∈ e_ls ad i (e_ent As n), q ∈ lv_args i (As.map (e_mv ad))
  | [], n, i, q, hq => by
    obtain ⟨j, w⟩ := q
    obtain ⟨k, v, h1, -⟩ := e_ls_mem.mp hq
    simp only [e_ent, List.getElem?_replicate] at h1
    split at h1 <;> cases h1
  | v :: vs, n, i, q, hq => by
    by_cases hv : v.category = 2
    · simp only [e_ent, hv, if_true, e_ls, List.mem_cons] at hq
      simp only [List.map_cons, lv_args, e_mv_cat, hv, if_true, List.mem_cons]
      rcases hq with hq | hq
      · exact Or.inl hq
      · exact Or.inr (e_ent_mem vs (n - 2) (i + 2) q hq)
    · simp only [e_ent, hv, if_false, e_ls, List.mem_cons] at hq
      simp only [List.map_cons, lv_args, e_mv_cat, hv, if_false, List.mem_cons]
      rcases hq with hq | hq
      · exact Or.inl hq
      · exact Or.inr (e_ent_mem vs (n - 1) (i + 1) q hq)
