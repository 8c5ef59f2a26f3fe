/-! ===== shelves: what is held, sort, figure, kind, size, elements ===== -/
abbrev Sh : Type := Int32 × Int32 × Int32 × Int32 × Nat × (Nat → Int32)
abbrev zH (z : Sh) : Int32 := z.1
abbrev zS (z : Sh) : Int32 := z.2.1
abbrev zF (z : Sh) : Int32 := z.2.2.1
abbrev zK (z : Sh) : Int32 := z.2.2.2.1
abbrev zN (z : Sh) : Nat := z.2.2.2.2.1
abbrev zC (z : Sh) : Nat → Int32 := z.2.2.2.2.2
def okZ (z : Sh) : Prop := (zH z = 0 ∨ zH z = 1 ∨ zH z = 2) ∧ (zH z = 1 → Gd1 (zS z) 7 ∧ Gd1 (zF z) 9) ∧ (zH z = 2 → (zK z = 0 ∨ zK z = 1 ∨ zK z = 2) ∧ zN z ≤ 100)
/-- the reference's rows are those of the shelves -/
def RS (Z : Nat → Sh) (M : MX) : Prop := ∀ d, d < 8 → okZ (Z d) ∧ M.2.1 4 d = zH (Z d) ∧ (zH (Z d) = 1 → M.2.1 5 d = zS (Z d) ∧ M.2.1 6 d = zF (Z d)) ∧
  (zH (Z d) = 2 → M.2.1 7 d = zK (Z d) ∧ M.2.1 8 d = nI (zN (Z d)) ∧ ∀ k, k < 100 → M.2.2.1 9 (100 * d + k) = (zC (Z d) k).toInt64)
theorem RS_k {Z : Nat → Sh} {M M' : MX} (h : RS Z M) (hk : kM M M') : RS Z M' := by
  intro d hd
  obtain ⟨h1, h2, h3, h4⟩ := h d hd
  have e4 := hk.2.1 4 (by omega)
  have e5 := hk.2.1 5 (by omega)
  have e6 := hk.2.1 6 (by omega)
  have e7 := hk.2.1 7 (by omega)
  have e8 := hk.2.1 8 (by omega)
  exact ⟨h1, by rw [e4]; exact h2, fun q => by rw [e5, e6]; exact h3 q, fun q => by rw [e7, e8, hk.2.2]; exact h4 q⟩
theorem nI_mul (a b : Nat) : nI a * nI b = nI (a * b) := by simp [nI, Int32.ofNat_mul]
def wrongRowF (Z : Nat → Sh) (d : Int32) : Int32 := if inI d 0 7 then (if zH (Z (nc d)) = 0 then -11 else if zH (Z (nc d)) = 2 then 0 else -12) else -1
def wrongKeptF (Z : Nat → Sh) (d : Int32) : Int32 := if inI d 0 7 then (if zH (Z (nc d)) = 0 then -11 else if zH (Z (nc d)) = 2 then -12 else 0) else -1
theorem wrongRow_0 {Z : Nat → Sh} {d : Int32} (h : wrongRowF Z d = 0) : ∃ k, k < 8 ∧ d = nI k ∧ zH (Z k) = 2 := by
  unfold wrongRowF at h
  split at h
  · rename_i q
    obtain ⟨k, -, hk, rfl⟩ := (inI_iff (lo := 0) (hi := 7) (by decide) (by decide)).mp q
    rw [nc_nI (by omega)] at h
    split at h
    · exact absurd h (by decide)
    split at h
    · rename_i z; exact ⟨k, by omega, rfl, z⟩
    · exact absurd h (by decide)
  · exact absurd h (by decide)
theorem wrongRow_n {Z : Nat → Sh} {d : Int32} : wrongRowF Z d < 0 ↔ ¬ wrongRowF Z d = 0 := by
  unfold wrongRowF
  split
  · split
    · exact ⟨fun _ => by decide, fun _ => by decide⟩
    split
    · exact ⟨fun h => absurd h (by decide), fun h => absurd rfl h⟩
    · exact ⟨fun _ => by decide, fun _ => by decide⟩
  · exact ⟨fun _ => by decide, fun _ => by decide⟩
theorem wrongRow_ge {Z : Nat → Sh} {d : Int32} : 0 ≤ wrongRowF Z d ↔ wrongRowF Z d = 0 := by
  have h := wrongRow_n (Z := Z) (d := d)
  rw [← Int32.not_lt, h]
  exact Decidable.not_not
theorem wrongKept_0 {Z : Nat → Sh} (hZ : ∀ k, k < 8 → okZ (Z k)) {d : Int32} (h : wrongKeptF Z d = 0) : ∃ k, k < 8 ∧ d = nI k ∧ zH (Z k) = 1 := by
  unfold wrongKeptF at h
  split at h
  · rename_i q
    obtain ⟨k, -, hk, rfl⟩ := (inI_iff (lo := 0) (hi := 7) (by decide) (by decide)).mp q
    rw [nc_nI (by omega)] at h
    split at h
    · exact absurd h (by decide)
    split at h
    · exact absurd h (by decide)
    · rename_i z0 z2
      rcases (hZ k (by omega)).1 with z | z | z
      · exact absurd z z0
      · exact ⟨k, by omega, rfl, z⟩
      · exact absurd z z2
  · exact absurd h (by decide)
theorem wrongKept_n {Z : Nat → Sh} {d : Int32} : wrongKeptF Z d < 0 ↔ ¬ wrongKeptF Z d = 0 := by
  unfold wrongKeptF
  split
  · split
    · exact ⟨fun _ => by decide, fun _ => by decide⟩
    split
    · exact ⟨fun _ => by decide, fun _ => by decide⟩
    · exact ⟨fun h => absurd h (by decide), fun h => absurd rfl h⟩
  · exact ⟨fun _ => by decide, fun _ => by decide⟩
theorem wrongKept_ge {Z : Nat → Sh} {d : Int32} : 0 ≤ wrongKeptF Z d ↔ wrongKeptF Z d = 0 := by
  have h := wrongKept_n (Z := Z) (d := d)
  rw [← Int32.not_lt, h]
  exact Decidable.not_not
def hungS (S : St) (ks fg : Int32) : St := (sN S + 1, sW S ||| bitI (sN S), sE S ||| bitI (sN S), sP S, sH S, sL S, sD S, sC S, upd (sO S) (sN S) ks, upd (sG S) (sN S) fg, upd (sR S) (sN S) 0)
def hangsF (S : St) (Z : Nat → Sh) (d : Int32) : Int32 := if wrongKeptF Z d = 0 then (if sN S = 10 then -2 else nI (sN S)) else wrongKeptF Z d
def hangsS (S : St) (Z : Nat → Sh) (d : Int32) : St := if wrongKeptF Z d = 0 then (if sN S = 10 then S else hungS S (zS (Z (nc d))) (zF (Z (nc d)))) else S
def costF (Z : Nat → Sh) (d : Int32) : Int32 := if wrongKeptF Z d = 0 then priceF (zS (Z (nc d))) (zF (Z (nc d))) else wrongKeptF Z d
def tossF (Z : Nat → Sh) (d : Int32) : Int32 := if wrongKeptF Z d = 0 then failF (zS (Z (nc d))) (zF (Z (nc d))) else wrongKeptF Z d
def setZ (Z : Nat → Sh) (d : Nat) (z : Sh) : Nat → Sh := fun k => if k = d then z else Z k
theorem setZ_on {Z : Nat → Sh} {d : Nat} {z : Sh} : setZ Z d z d = z := by simp [setZ]
theorem setZ_off {Z : Nat → Sh} {d k : Nat} {z : Sh} (h : k ≠ d) : setZ Z d z k = Z k := by simp [setZ, h]
def keepC (d what k fg : Int32) : Bool := inI d 0 7 && (inI what 0 1 && (decide (what = 0) || (inI k 0 7 && inI fg 0 9)))
def keepZ (Z : Nat → Sh) (d what k fg : Int32) : Nat → Sh :=
  if keepC d what k fg then setZ Z (nc d) (if what = 0 then (0, zS (Z (nc d)), zF (Z (nc d)), zK (Z (nc d)), zN (Z (nc d)), zC (Z (nc d))) else (1, k, fg, zK (Z (nc d)), zN (Z (nc d)), zC (Z (nc d)))) else Z
def keepF (d what k fg : Int32) : Int32 := if keepC d what k fg then 0 else -1
def rowC (d s m : Int32) : Bool := inI d 0 7 && (inI s 0 2 && decide (m ≤ 100))
def rowF (d s m : Int32) : Int32 := if rowC d s m then (if m < 0 then -14 else 0) else -1
def rowZ (Z : Nat → Sh) (d s m : Int32) : Nat → Sh := if rowC d s m then (if m < 0 then Z else setZ Z (nc d) (2, zS (Z (nc d)), zF (Z (nc d)), s, nc m, fun _ => 0)) else Z
def narI (v s : Int32) : Int32 := if s = 0 then v.toInt8.toInt32 else if s = 1 then v.toInt16.toInt32 else v
def inRow (z : Sh) (i : Int32) : Bool := hasF (zN z) i
def putF (Z : Nat → Sh) (d i : Int32) : Int32 := if wrongRowF Z d = 0 then (if inRow (Z (nc d)) i then 0 else -13) else wrongRowF Z d
def putZ (Z : Nat → Sh) (d i v : Int32) : Nat → Sh :=
  if wrongRowF Z d = 0 ∧ inRow (Z (nc d)) i = true then setZ Z (nc d) (zH (Z (nc d)), zS (Z (nc d)), zF (Z (nc d)), zK (Z (nc d)), zN (Z (nc d)), upd (zC (Z (nc d))) (nc i) (narI v (zK (Z (nc d))))) else Z
def copyC (Z : Nat → Sh) (d i e j m : Int32) : Bool := decide (0 ≤ m) && (decide (0 ≤ i) && (decide (0 ≤ j) && (decide (i ≤ nI (zN (Z (nc d))) - m) && decide (j ≤ nI (zN (Z (nc e))) - m))))
def copyF (Z : Nat → Sh) (d i e j m : Int32) : Int32 :=
  if inI d 0 7 = true ∧ inI e 0 7 = true then
    (if zH (Z (nc d)) = 0 ∨ zH (Z (nc e)) = 0 then -11 else if ¬ zH (Z (nc d)) = 2 ∨ ¬ zH (Z (nc e)) = 2 ∨ ¬ zK (Z (nc d)) = zK (Z (nc e)) then -12 else if copyC Z d i e j m then m else -13)
  else -1
def copyZ (Z : Nat → Sh) (d i e j m : Int32) : Nat → Sh :=
  if inI d 0 7 = true ∧ inI e 0 7 = true ∧ zH (Z (nc d)) = 2 ∧ zH (Z (nc e)) = 2 ∧ zK (Z (nc d)) = zK (Z (nc e)) ∧ copyC Z d i e j m = true then
    setZ Z (nc e) (zH (Z (nc e)), zS (Z (nc e)), zF (Z (nc e)), zK (Z (nc e)), zN (Z (nc e)), fun k => if nc j ≤ k ∧ k < nc j + nc m then zC (Z (nc d)) (nc i + (k - nc j)) else zC (Z (nc e)) k) else Z
def forgedN (S : St) (z : Sh) : Nat := firstN (fun k => !(decide (k < sN S) && decide (zC z k = sO S k))) 0 (zN z)
def forgedF (S : St) (Z : Nat → Sh) (d : Int32) : Int32 := if wrongRowF Z d = 0 then (if forgedN S (Z (nc d)) = zN (Z (nc d)) then -4 else nI (forgedN S (Z (nc d)))) else wrongRowF Z d
def leastI (k : Int32) : Int32 := if k = 0 then -128 else if k = 1 then -32768 else -2147483648
def skipF (z : Sh) (k : Nat) : Bool := decide (zC z k = leastI (zK z))
theorem i64_eq (a b : Int32) : a.toInt64 = b.toInt64 ↔ a = b := by
  rw [← Int64.toInt_inj, Int32.toInt_toInt64, Int32.toInt_toInt64, Int32.toInt_inj]

