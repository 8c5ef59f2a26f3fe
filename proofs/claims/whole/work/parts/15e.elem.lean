/-! ===== the case of element ===== -/
theorem elW1 {x : e_T} {k L : Nat} {xs : Nat → Int32} {h : List eC} (X : e_X x RL cL_law 18) (hSc : l_S x L xs) (hL : L ≤ 3072) (hk : 6 * k + 6 ≤ L) (kk : e_E x 1558 (l_ls k) [.ref 32, .int (xs (6 * k + 2)), .int (xs (6 * k + 1)), .ref 0] h) : e_E x 1544 (l_ls k) [] h := by
  refine ei_aload_n X dL_law_1544 rfl rfl ?_
  refine l_arg 1 X hSc hL hk (by decide) (by decide +kernel) dL_law_1545 dL_law_1546 dL_law_1548 dL_law_1549 dL_law_1550 rfl rfl ?_
  refine l_arg 2 X hSc hL hk (by decide) (by decide +kernel) dL_law_1551 dL_law_1552 dL_law_1554 dL_law_1555 dL_law_1556 rfl rfl ?_
  refine ei_aload_n X dL_law_1557 rfl rfl ?_
  exact kk
abbrev l_l7 (k : Nat) (v : Int32) (z : Int64) : List (Option Value) := [some (.ref 1000), some (.ref 0), some (.ref 33), some (.ref 32), some (.int (nI (6 * k))), some (.int v), some (.long z), none]
theorem elW4 {x : e_T} {k : Nat} {v : Int32} {z : Int64} {h : List eC} (X : e_X x RL cL_law 18) (kk : e_E x 1734 (l_ls k) [] h) : e_E x 1608 (l_l7 k v z) [] h := by
  refine ei_goto (tgt := 1734) X dL_law_1608 (by decide) ?_
  refine ei_drop 5 ?_
  refine ei_drop 6 ?_
  exact kk
theorem elW3 {x : e_T} {k : Nat} {v : Int32} {z : Int64} {N D T : St} {im : Bool} {Z : Nat → Sh} {be : Nat → Int32} {g : Nat → Int64} {S : St} {M : MX} (X : e_X x RL cL_law 18) (hv : v = 0 → g 0 = z) (kk : e_E x 1734 (l_ls k) [] (lC N D T im Z be g S M)) : e_E x 1592 (l_l7 k v z) [] (lC N D T im Z be g S M) := by
  refine ei_iload X dL_law_1592 rfl ?_
  refine ei_if_ne (tgt := 1608) X dL_law_1594 (by decide) (fun _ => elW4 X kk) (fun q => ?_)
  refine ei_aload_n X dL_law_1597 rfl rfl ?_
  refine ei_iconst (v := 0) X dL_law_1598 (by decide +kernel) ?_
  refine ei_laload (k := 32) (n := 1) (g := g) X dL_law_1599 rfl (by unfold vp_in; decide) ?_
  refine ei_lload X dL_law_1600 rfl ?_
  have hz : g (Int32.toNatClampNeg 0) = z := hv q
  rw [hz]
  exact l_eqL (tgt := 1608) X dL_law_1602 dL_law_1603 (by decide) (elW4 X kk)
set_option maxHeartbeats 1000000 in
theorem elW2 (n : Nat) (w se sp hr lt hd sc : Int32) (so fi wo : Nat → Int32) (I : Nat → Int32) (A : Nat → Nat → Int32) (B : Nat → Nat → Int64) (K : Value) {x : e_T} {D T : St} {im : Bool} {Z : Nat → Sh} {be : Nat → Int32} {g : Nat → Int64} {L k : Nat} {xs : Nat → Int32} (X : e_X x RL cL_law 18) (hSc : l_S x L xs) (hL : L ≤ 3072) (hk : 6 * k + 6 ≤ L) (hR : lwR (n, w, se, sp, hr, lt, hd, sc, so, fi, wo) T im Z be (I, A, B, K)) (hv : elemE Z (xs (6 * k + 1)) (xs (6 * k + 2)) = 0 → g 0 = elemF Z (xs (6 * k + 1)) (xs (6 * k + 2))) (kk : l_K x k g) : e_E x 1561 (l_ls k) [.int (elemE Z (xs (6 * k + 1)) (xs (6 * k + 2)))] (lC (n, w, se, sp, hr, lt, hd, sc, so, fi, wo) D T im Z be g (n, w, se, sp, hr, lt, hd, sc, so, fi, wo) (I, A, B, K)) := by
  refine ei_istore X dL_law_1561 (Nat.le_of_ble_eq_true rfl) rfl ?_
  refine ei_aload_n (i := 2) (a := 33) X dL_law_1563 rfl rfl ?_
  refine l_arg 1 X hSc hL hk (by decide) (by decide +kernel) dL_law_1564 dL_law_1565 dL_law_1567 dL_law_1568 dL_law_1569 rfl rfl ?_
  refine l_arg 2 X hSc hL hk (by decide) (by decide +kernel) dL_law_1570 dL_law_1571 dL_law_1573 dL_law_1574 dL_law_1575 rfl rfl ?_
  refine l_callME X ml_RL_181 dL_law_1576 (ct_X10_element _ _ _ _ _ _ _ _ _ _ _ _ _ _ _ Z (xs (6 * k + 1)) (xs (6 * k + 2)) hR.2.2.1) rfl rfl rfl rfl (by decide) (by decide) (Nat.le_of_ble_eq_true rfl) ?_
  refine ei_lstore X dL_law_1579 (Nat.le_of_ble_eq_true rfl) rfl ?_
  refine ei_aload_n (i := 2) (a := 33) X dL_law_1581 rfl rfl ?_
  refine l_callME X ml_RL_182 dL_law_1582 (ct_X10_thrown _ _ _ _ _ _ _ _ _ _ _ _ _ _ _) rfl rfl rfl rfl (by decide) (by decide) (Nat.le_of_ble_eq_true rfl) ?_
  rw [pk_us]
  refine ei_iload (v := elemE Z (xs (6 * k + 1)) (xs (6 * k + 2))) X dL_law_1585 rfl ?_
  refine l_eqI (tgt := 1592) X dL_law_1587 (by decide) ?_
  exact elW3 (v := elemE Z (xs (6 * k + 1)) (xs (6 * k + 2))) (z := elemF Z (xs (6 * k + 1)) (xs (6 * k + 2))) X hv (kk _ _ _ _ _ _ _ (hR.k hR.1 hR.2.2.2.1 (kM_20 _ _ _ _ _)))
/-- the frame with the room of one exception gone -/
def l_up : e_T → e_T
  | (p, l, e, R, s, m, args, below, meth, c, dC, dI, dA, ad, A, N, nL, cells, slots, Q) => (p, l, e, R, s, m, args, below, meth, c, dC, dI, dA, ad, A, N, nL, cells + 1, slots + 6, Q)
def l_P : e_T → Prop
  | (_, l, _, R, s, _, _, _, _, _, _, _, _, _, A, N, nL, cells, slots, _) => l.stackTraces = false ∧ el_F A s.heap s ∧ cells + 1 ≤ R.cells ∧ slots + 6 ≤ R.slots ∧ N = 54 ∧ nL = 8
theorem l_upX {x : e_T} (X : e_X x RL cL_law 18) (hP : l_P x) : e_X (l_up x) RL cL_law 18 := by
  obtain ⟨p, l, e, R, s, m, args, below, meth, c, dC, dI, dA, ad, A, N, nL, cells, slots, Q⟩ := x
  obtain ⟨x1, x2, x3, x4, x5, x6, x7, x8, x9, x10, -, -⟩ := X
  exact ⟨x1, x2, x3, x4, x5, x6, x7, x8, x9, x10, hP.2.2.1, hP.2.2.2.1⟩
theorem l_S_mk {p : Program} {l : Launch} {e : Env} {R : Room} {s : State} {m : MethodId} {args : Array Value} {below : List Frame} {meth : Method} {c : Code} {dC : Nat → ClassId} {dI : Nat → Nat → Nat} {dA : Nat → ClassId} {ad : Nat → Nat} {A : Nat → Prop} {N nL cells slots : Nat} {Q : State → Prop} {L : Nat} {xs : Nat → Int32} (h : va_X (ad 1000) L xs s s.heap ∧ ad 1000 < s.heap.size ∧ ¬ A (ad 1000)) : l_S (p, l, e, R, s, m, args, below, meth, c, dC, dI, dA, ad, A, N, nL, cells, slots, Q) L xs := h
theorem l_S_of {p : Program} {l : Launch} {e : Env} {R : Room} {s : State} {m : MethodId} {args : Array Value} {below : List Frame} {meth : Method} {c : Code} {dC : Nat → ClassId} {dI : Nat → Nat → Nat} {dA : Nat → ClassId} {ad : Nat → Nat} {A : Nat → Prop} {N nL cells slots : Nat} {Q : State → Prop} {L : Nat} {xs : Nat → Int32} (h : l_S (p, l, e, R, s, m, args, below, meth, c, dC, dI, dA, ad, A, N, nL, cells, slots, Q) L xs) : va_X (ad 1000) L xs s s.heap ∧ ad 1000 < s.heap.size ∧ ¬ A (ad 1000) := h
theorem l_up_eq {p : Program} {l : Launch} {e : Env} {R : Room} {s : State} {m : MethodId} {args : Array Value} {below : List Frame} {meth : Method} {c : Code} {dC : Nat → ClassId} {dI : Nat → Nat → Nat} {dA : Nat → ClassId} {ad : Nat → Nat} {A : Nat → Prop} {N nL cells slots : Nat} {Q : State → Prop} : l_up (p, l, e, R, s, m, args, below, meth, c, dC, dI, dA, ad, A, N, nL, cells, slots, Q) = (p, l, e, R, s, m, args, below, meth, c, dC, dI, dA, ad, A, N, nL, cells + 1, slots + 6, Q) := rfl
theorem l_upS {x : e_T} {L : Nat} {xs : Nat → Int32} (h : l_S x L xs) : l_S (l_up x) L xs := by
  obtain ⟨p, l, e, R, s, m, args, below, meth, c, dC, dI, dA, ad, A, N, nL, cells, slots, Q⟩ := x
  rw [l_up_eq]
  exact l_S_mk (l_S_of h)
theorem l_callE2 (n : Nat) (w se sp hr lt hd sc : Int32) (so fi wo : Nat → Int32) (D T : St) (im : Bool) (Z : Nat → Sh) (be : Nat → Int32) {x : e_T} {g : Nat → Int64} {S : St} {M : MX} {pc : Nat} {ls : List (Option Value)} {st : List Value} {d i : Int32} (X : e_X x RL cL_law 18) (hP : l_P x) (hZ : ∀ k, k < 8 → okZ (Z k)) (hdx : decode cL_law pc = .ok (.invokestatic 176, 3)) (hcat : (st.map fun v => v.category).sum ≤ 8)
    (kk : ∀ g2 : Nat → Int64, (elemE Z d i = 0 → g2 0 = elemF Z d i) → e_E (l_up x) (pc + 3) ls (.int (elemE Z d i) :: st) (lC (n, w, se, sp, hr, lt, hd, sc, so, fi, wo) D T im Z be g2 S M)) : e_E x pc ls (.ref 32 :: .int i :: .int d :: .ref 0 :: st) (lC (n, w, se, sp, hr, lt, hd, sc, so, fi, wo) D T im Z be g S M) := by
  obtain ⟨p, l, e, R, s, m, args, below, meth, c, dC, dI, dA, ad, A, N, nL, cells, slots, Q⟩ := x
  obtain ⟨hl, hF, hcs, hss, rfl, rfl⟩ := hP
  exact l_callE n w se sp hr lt hd sc so fi wo D T im Z be hl X hF hcs hss hZ hdx hcat kk
theorem lw_element (n : Nat) (w se sp hr lt hd sc : Int32) (so fi wo : Nat → Int32) (I : Nat → Int32) (A : Nat → Nat → Int32) (B : Nat → Nat → Int64) (K : Value) {x : e_T} {D T : St} {im : Bool} {Z : Nat → Sh} {be : Nat → Int32} {g : Nat → Int64} {L k : Nat} {xs : Nat → Int32} (X : e_X x RL cL_law 18) (hSc : l_S x L xs) (hP : l_P x) (hL : L ≤ 3072) (hk : 6 * k + 6 ≤ L) (hR : lwR (n, w, se, sp, hr, lt, hd, sc, so, fi, wo) T im Z be (I, A, B, K))
    (kk : ∀ g2, l_K (l_up x) k g2) : e_E x 1544 (l_ls k) [] (lC (n, w, se, sp, hr, lt, hd, sc, so, fi, wo) D T im Z be g (n, w, se, sp, hr, lt, hd, sc, so, fi, wo) (I, A, B, K)) := by
  refine elW1 X hSc hL hk ?_
  refine l_callE2 n w se sp hr lt hd sc so fi wo D T im Z be X hP (RS_ok hR.2.2.1) dL_law_1558 (Nat.zero_le _) (fun g2 hv => ?_)
  exact elW2 n w se sp hr lt hd sc so fi wo I A B K (l_upX X hP) (l_upS hSc) hL hk hR hv (kk g2)

