/-! ===== the cells in another order, and the law from its entry ===== -/
def l_pr : List Nat := [0, 1, 2, 3, 4, 5, 6, 7, 8, 9, 10, 11, 12, 13, 14, 15, 16, 17, 18, 19, 20, 21, 22, 23, 24, 25, 26, 27, 28, 29, 30, 31, 53, 32, 33, 34, 35, 36, 37, 38, 39, 40, 41, 42, 43, 44, 45, 46, 47, 48, 49, 50, 51, 52]
def l_pi (k : Nat) : Nat := l_pr.getD k k
theorem l_pi_lt : ∀ k, k < 54 → l_pi k < 54 := by decide +kernel
theorem l_pi_inj : ∀ i, i < 54 → ∀ j, j < 54 → l_pi i = l_pi j → i = j := by decide +kernel
theorem e_ls_pi {ad π : Nat → Nat} : ∀ (ls : List (Option Value)) (i : Nat), e_ls ad i (ls.map (Option.map (e_mv π))) = e_ls (fun k => ad (π k)) i ls
  | [], _ => rfl
  | none :: r, i => e_ls_pi r (i + 1)
  | some v :: r, i => by
    show (i, e_mv ad (e_mv π v)) :: e_ls ad (i + 1) (r.map (Option.map (e_mv π))) = (i, e_mv (fun k => ad (π k)) v) :: e_ls (fun k => ad (π k)) (i + 1) r
    rw [e_mv_comp, e_ls_pi r (i + 1)]
theorem e_perm {p : Program} {l : Launch} {e : Env} {R : Room} {s : State} {m : MethodId} {args : Array Value} {below : List Frame} {meth : Method} {c : Code} {dC : Nat → ClassId} {dI : Nat → Nat → Nat} {dA : Nat → ClassId} {ad : Nat → Nat} {A : Nat → Prop} {N nL cells slots : Nat} {Q : State → Prop} {h h2 : List eC} {ls ls2 : List (Option Value)} {pc : Nat} (π : Nat → Nat) (hlen : h2.length = h.length) (hw : ∀ (k : Nat) (c : eC), h2[k]? = some c → h[π k]? = some (e_rn π c)) (hls : ls2.map (Option.map (e_mv π)) = ls)
    (kk : e_E (p, l, e, R, s, m, args, below, meth, c, dC, dI, dA, (fun k => ad (π k)), A, N, nL, cells, slots, Q) pc ls2 [] h2) : e_E (p, l, e, R, s, m, args, below, meth, c, dC, dI, dA, ad, A, N, nL, cells, slots, Q) pc ls [] h := by
  intro hL hN H locs la hP hS hl
  subst hls
  refine kk (by rw [List.length_map] at hL; exact hL) (by rw [hlen]; exact hN) H locs la ?_ hS (by rw [← e_ls_pi]; exact hl)
  rw [e_wd_P]
  intro k c hc
  have h6 := e_wd_P.mp hP _ _ (hw k c hc)
  rw [e_rl_rn] at h6
  exact h6
def l_g13 (f : Nat → Nat) : eC := .inl (2, 8, .inr (.inr (.inr (.inr fun j => (if j < 8 then some (14 + 2 * j) else none : Option Nat).map f))))
def l_h4 : List eC := (l_h3 ++ el_o fun _ => 0).set 13 (l_g13 l_pi)
def l_h5 : List eC := oHb ++ (el_o (fun _ => 0) ++ (mH S0 M0).map (e_rn (e_rf l_rm)))
theorem l_hp : l_pr.map (fun k => l_h4[k]?) = l_h5.map (fun c => some (e_rn l_pi c)) := rfl
theorem l_hw : ∀ (k : Nat) (c : eC), l_h5[k]? = some c → l_h4[l_pi k]? = some (e_rn l_pi c) := by
  intro k c hc
  have hk : k < 54 := (List.getElem?_eq_some_iff.mp hc).1
  have h3 : (l_pr.map (fun k => l_h4[k]?))[k]? = some (some (e_rn l_pi c)) := by rw [l_hp, List.getElem?_map, hc]; rfl
  rw [List.getElem?_map] at h3
  have hkp : k < l_pr.length := hk
  rw [List.getElem?_eq_getElem hkp] at h3
  have h4 : l_h4[l_pr[k]]? = some (e_rn l_pi c) := Option.some.inj h3
  have h5 : l_pi k = l_pr[k] := by
    show l_pr.getD k k = _
    rw [List.getD_eq_getElem?_getD, List.getElem?_eq_getElem hkp]
    rfl
  rw [h5]
  exact h4
/-- how the law ends -/
def l_Fin : e_T → Prop
  | (p, l, e, R, s, m, args, below, meth, c, _, _, _, _, A, _, _, _, _, Q) => (∀ q, A q → s.heap.size ≤ q) ∧ ∀ (H : Heap) (locs : List Loc) (la : Array Slot) (cells slots : Nat), cells ≤ R.cells → slots ≤ R.slots → (∀ q ∈ locs, s.heap.size ≤ q.base) → W p l e R s m args below meth c H locs cells slots Q (F0 m 1741 la [.int 1])
theorem l_Fin_mk {p : Program} {l : Launch} {e : Env} {R : Room} {s : State} {m : MethodId} {args : Array Value} {below : List Frame} {meth : Method} {c : Code} {dC : Nat → ClassId} {dI : Nat → Nat → Nat} {dA : Nat → ClassId} {ad : Nat → Nat} {A : Nat → Prop} {N nL cells slots : Nat} {Q : State → Prop} (h1 : ∀ q, A q → s.heap.size ≤ q) (h2 : ∀ (H : Heap) (locs : List Loc) (la : Array Slot) (cells slots : Nat), cells ≤ R.cells → slots ≤ R.slots → (∀ q ∈ locs, s.heap.size ≤ q.base) → W p l e R s m args below meth c H locs cells slots Q (F0 m 1741 la [.int 1])) : l_Fin (p, l, e, R, s, m, args, below, meth, c, dC, dI, dA, ad, A, N, nL, cells, slots, Q) := ⟨h1, h2⟩
theorem l_Fin_up (x : e_T) (h : l_Fin x) : l_Fin (l_up x) := by
  obtain ⟨p, l, e, R, s, m, args, below, meth, c, dC, dI, dA, ad, A, N, nL, cells, slots, Q⟩ := x
  obtain ⟨h1, h2⟩ := h
  rw [l_up_eq]
  exact l_Fin_mk h1 h2
theorem l_Fin_end (x : e_T) (h : l_Fin x) (X : e_X x RL cL_law 18) (k : Nat) (hh : List eC) : e_E x 1740 (l_ls k) [] hh := by
  refine ei_iconst (v := 1) X dL_law_1740 (by decide +kernel) ?_
  obtain ⟨p, l, e, R, s, m, args, below, meth, c, dC, dI, dA, ad, A, N, nL, cells, slots, Q⟩ := x
  obtain ⟨h1, h2⟩ := h
  intro hL hN H locs la hP hS hl
  exact h2 H locs la cells slots X.2.2.2.2.2.2.2.2.2.2.1 X.2.2.2.2.2.2.2.2.2.2.2 (fun q hq => h1 _ (hS.2.2 q hq))
theorem l_s5 {x : e_T} (X : e_X x RL cL_law 18) {h : List eC} (k : e_E x 23 [some (.ref 1000), some (.ref 0), some (.ref 32), some (.ref 53), some (.int 0), none, none, none] [] h) : e_E x 19 (l_e1 (some (.ref 0)) (some (.ref 32)) none) [.ref 53] h := by
  refine ei_astore_n X dL_law_19 rfl (by decide) rfl ?_
  refine ei_iconst (v := 0) X dL_law_20 (by decide +kernel) ?_
  refine ei_istore X dL_law_21 (by decide) rfl ?_
  exact k
theorem l_f1 : ∀ j, j < 8 → (fun j => (if j < 8 then some (14 + 2 * j) else none : Option Nat).map (g_rf 0 1)) j = (fun j => (if j < 8 then some (14 + 2 * j) else none : Option Nat).map l_pi) j := by decide +kernel
theorem l_f2 : ∀ j, j < 8 → (fun j => (if j < 8 then some (14 + 2 * j) else none : Option Nat)) j = (fun j => some (14 + 2 * j)) j := fun j hj => if_pos hj
theorem l_s6 {x : e_T} {ls : List (Option Value)} (k : e_E x 23 ls [] l_h4) : e_E x 23 ls [] (l_h3 ++ el_o fun _ => 0) := ei_fun (k := 13) (n := 8) rfl l_f1 rfl k
theorem l_s7 {x : e_T} {ls : List (Option Value)} (k : e_E x 23 ls [] (lC S0 S0 S0 false (fun _ => Z00) (fun _ => 0) (fun _ => 0) S0 M0)) : e_E x 23 ls [] l_h5 := ei_fun (k := 13) (n := 8) rfl l_f2 rfl k
set_option maxHeartbeats 1000000 in
theorem l_go {p : Program} {l : Launch} {e : Env} {R : Room} {s : State} {m : MethodId} {args : Array Value} {below : List Frame} {meth : Method} {c : Code} {dC : Nat → ClassId} {dI : Nat → Nat → Nat} {dA : Nat → ClassId} {Q : State → Prop} {ad0 : Nat → Nat} {L : Nat} {xs : Nat → Int32} (hl : l.stackTraces = false) (hF : el_F (fun q => s.heap.size ≤ q) s.heap s) (hX : va_X (ad0 1000) L xs s s.heap) (hb : ad0 1000 < s.heap.size) (hL : L ≤ 3072) (hAO : va_AO RX4 s) (hRc : 566 ≤ R.cells) (hRs : 5811 ≤ R.slots)
    (X0 : e_X (p, l, e, R, s, m, args, below, meth, c, dC, dI, dA, ad0, (fun q => s.heap.size ≤ q), 0, 8, 0, 0, Q) RL cL_law 18)
    (hend : ∀ (H : Heap) (locs : List Loc) (la : Array Slot) (cells slots : Nat), cells ≤ R.cells → slots ≤ R.slots → (∀ q ∈ locs, s.heap.size ≤ q.base) → W p l e R s m args below meth c H locs cells slots Q (F0 m 1741 la [.int 1])) :
    e_E (p, l, e, R, s, m, args, below, meth, c, dC, dI, dA, ad0, (fun q => s.heap.size ≤ q), 0, 8, 0, 0, Q) 0 (l_e1 none none none) [] [] := by
  have Y : g_Y (p, l, e, R, s, m, args, below, meth, c, dC, dI, dA, (fun q => s.heap.size ≤ q), 8, Q, ad0, 0) := ⟨fun q => ⟨Or.inr, fun h => h.elim (fun ⟨k, hk, _⟩ => absurd hk (Nat.not_lt_zero _)) id⟩, hAO⟩
  refine l_s0 Y hRc hRs (l_s1 Y hRc hRs (l_s2 Y hRc hRs (l_s3 Y hRc hRs (l_s4 Y hRc hRs ?_)))) ad0 ⟨fun _ _ => rfl, fun k h1 h2 => absurd h2 (Nat.not_lt_zero _), Nat.le_refl _⟩ X0
  intro ad hR X
  refine l_s5 X (l_s6 ?_)
  refine e_perm (h2 := l_h5) (ls2 := l_ls 0) l_pi rfl l_hw rfl (l_s7 ?_)
  have h1000 : ad (l_pi 1000) = ad0 1000 := hR.1 1000 (Or.inr (by decide))
  have X2 : e_X (p, l, e, R, s, m, args, below, meth, c, dC, dI, dA, (fun k => ad (l_pi k)), (fun q => s.heap.size ≤ q), 54, 8, 54, 2739, Q) RL cL_law 18 := by
    obtain ⟨x1, x2, x3, x4, x5, x6, x7, x8, x9, x10, x11, x12⟩ := X
    exact ⟨x1, x2, x3, x4, x5, x6, fun i j hi hj hij => l_pi_inj i hi j hj (x7 _ _ (l_pi_lt i hi) (l_pi_lt j hj) hij), fun k hk => x8 _ (l_pi_lt k hk), x9, x10, x11, x12⟩
  refine l_loop l_Fin_up l_Fin_end hL 513 0 _ S0 S0 S0 false (fun _ => Z00) (fun _ => 0) (fun _ => 0) M0 (by omega) (by omega) (by omega) X2 (l_S_mk ⟨by rw [h1000]; exact hX, by rw [h1000]; exact hb, by rw [h1000]; exact Nat.not_le.mpr hb⟩) (l_V_mk ⟨hl, hF, by omega, by omega, rfl, rfl⟩) (l_Fin_mk (fun q h => h) hend) lwR_0
