/-! ===== a row is the same, if it is the same within its length ===== -/
theorem e_ext_P {D : va_G} {dA : Nat → ClassId} {ad : Nat → Nat} {h : List eC} {H : Heap} {k : Nat} {a b : eC} (hP : va_P D vwCl (e_wd dA ad h) H) (hh : h[k]? = some a) (hab : ∀ q, va_at D vwCl (q, e_rl dA ad a) H → va_at D vwCl (q, e_rl dA ad b) H) : va_P D vwCl (e_wd dA ad (h.set k b)) H := by
  rw [e_wd_P] at hP ⊢
  intro j c hj
  by_cases hjk : j = k
  · subst hjk
    rw [List.getElem?_set_self (List.getElem?_eq_some_iff.mp hh).1] at hj
    cases hj
    exact hab _ (hP j a hh)
  · rw [List.getElem?_set_ne (Ne.symm hjk)] at hj
    exact hP j c hj
theorem e_arr_ext {cI : ClassId} {n : Nat} {f g : Nat → Value} (h : ∀ j, j < n → f j = g j) : arrV cI n f = arrV cI n g := by
  unfold arrV
  congr 1
  apply Array.ext
  · simp
  · intro i h1 h2
    simp only [Array.getElem_ofFn]
    exact h i (by simpa using h1)
section EEXT
variable {x : e_T} {own : String} {cc : ByteArray} {d pc : Nat} {ls : List (Option Value)} {st : List Value} {h : List eC}
theorem ei_exti {k n : Nat} {f : Nat → Int32} (g : Nat → Int32) (hh : h[k]? = some (.inl (0, n, .inl f))) (hg : ∀ j, j < n → f j = g j) {h2 : List eC} (h2e : h.set k (.inl (0, n, .inl g)) = h2) (kk : e_E x pc ls st h2) : e_E x pc ls st h := by
  obtain ⟨p, l, e, R, s, m, args, below, meth, c, dC, dI, dA, ad, A, N, nL, cells, slots, Q⟩ := x
  intro hL hN H locs la hP hS hl
  subst h2e
  refine kk hL (by rw [List.length_set]; exact hN) H locs la (e_ext_P hP hh fun q hq => ?_) hS hl
  show H[q]? = some (arrV (dA 0) n fun j => .int (g j))
  rw [← e_arr_ext (f := fun j => .int (f j)) (g := fun j => .int (g j)) (fun j hj => by rw [hg j hj])]
  exact hq
theorem ei_extl {k n : Nat} {f : Nat → Int64} (g : Nat → Int64) (hh : h[k]? = some (.inl (1, n, .inr (.inl f)))) (hg : ∀ j, j < n → f j = g j) {h2 : List eC} (h2e : h.set k (.inl (1, n, .inr (.inl g))) = h2) (kk : e_E x pc ls st h2) : e_E x pc ls st h := by
  obtain ⟨p, l, e, R, s, m, args, below, meth, c, dC, dI, dA, ad, A, N, nL, cells, slots, Q⟩ := x
  intro hL hN H locs la hP hS hl
  subst h2e
  refine kk hL (by rw [List.length_set]; exact hN) H locs la (e_ext_P hP hh fun q hq => ?_) hS hl
  show H[q]? = some (arrV (dA 1) n fun j => .long (g j))
  rw [← e_arr_ext (f := fun j => .long (f j)) (g := fun j => .long (g j)) (fun j hj => by rw [hg j hj])]
  exact hq
/-- a local that is not needed any more -/
theorem ei_drop (i : Nat) (kk : e_E x pc (ls.set i none) st h) : e_E x pc ls st h := by
  obtain ⟨p, l, e, R, s, m, args, below, meth, c, dC, dI, dA, ad, A, N, nL, cells, slots, Q⟩ := x
  intro hL hN H locs la hP hS hl
  refine kk (by rw [List.length_set]; exact hL) hN H locs la hP hS (e_has_mono hl ?_)
  rintro ⟨j, w⟩ hq
  obtain ⟨k, v, h1, h2, h3⟩ := e_ls_mem.mp hq
  have hki : k ≠ i := by
    rintro rfl
    by_cases hl : k < ls.length
    · rw [List.getElem?_set_self hl] at h1; cases h1
    · rw [List.getElem?_eq_none (by simpa using hl)] at h1; cases h1
  rw [List.getElem?_set_ne (Ne.symm hki)] at h1
  exact e_ls_mem.mpr ⟨k, v, h1, h2, h3⟩
end EEXT
/-- a second string's cells behind the first's -/
def lHat (o : Nat) : St → List eC := fun (n, w, se, sp, hr, lt, hd, sc, so, fi, wo) => [.inr (1, [.ref (o + 1), .ref (o + 2), .ref (o + 3), .int (nI n), .int w, .int se, .int sp, .int hr, .int lt, .int hd, .int sc]), .inl (0, 10, .inl so), .inl (0, 10, .inl fi), .inl (0, 10, .inl wo)]

