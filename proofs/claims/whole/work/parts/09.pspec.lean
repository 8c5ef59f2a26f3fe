/-! ===== the answers of the calls, and the strings behind them ===== -/
abbrev nc (b : Int32) : Nat := b.toNatClampNeg
theorem nc_nI {k : Nat} (h : k < 2 ^ 31) : nc (nI k) = k := nI_clamp h
theorem in_0_7 (x : Int32) : inF x.toInt64 0 7 = inI x 0 7 := inF_I x 0 7
theorem in_0_9 (x : Int32) : inF x.toInt64 0 9 = inI x 0 9 := inF_I x 0 9
theorem in_0_999 (x : Int32) : inF x.toInt64 0 999 = inI x 0 999 := inF_I x 0 999
theorem in_0_4 (x : Int32) : inF x.toInt64 0 4 = inI x 0 4 := inF_I x 0 4
theorem in_1_60 (x : Int32) : inF x.toInt64 1 60 = inI x 1 60 := inF_I x 1 60
theorem in_0_60 (x : Int32) : inF x.toInt64 0 60 = inI x 0 60 := inF_I x 0 60
theorem in_0_30 (x : Int32) : inF x.toInt64 0 30 = inI x 0 30 := inF_I x 0 30
theorem in_0_2 (x : Int32) : inF x.toInt64 0 2 = inI x 0 2 := inF_I x 0 2
theorem in_0_1 (x : Int32) : inF x.toInt64 0 1 = inI x 0 1 := inF_I x 0 1
theorem in_2_20 (x : Int32) : inF x.toInt64 2 20 = inI x 2 20 := inF_I x 2 20
theorem in_1_20 (x : Int32) : inF x.toInt64 1 20 = inI x 1 20 := inF_I x 1 20
theorem inI_iff {x : Int32} {lo hi : Nat} (h1 : lo < 2 ^ 31) (h2 : hi < 2 ^ 31) : inI x (nI lo) (nI hi) = true ↔ ∃ k, lo ≤ k ∧ k ≤ hi ∧ x = nI k := by
  unfold inI
  simp only [Bool.and_eq_true, decide_eq_true_eq]
  constructor
  · rintro ⟨a, b⟩
    rw [Int32.le_iff_toInt_le, nI_toInt h1] at a
    obtain ⟨k, hk, rfl⟩ := nI_of (x := x) (by rw [Int32.lt_iff_toInt_lt, Int32.toInt_zero]; omega)
    rw [nI_toInt hk] at a
    exact ⟨k, by omega, (nI_leI hk h2).mp b, rfl⟩
  · rintro ⟨k, a, b, rfl⟩
    exact ⟨nI_le a (by omega), nI_le b h2⟩
theorem bit_bz {w : Int32} {b : Nat} (h : Gd1 w 1023) (hb : b < 10) : w >>> (nI b &&& 31) &&& 1 = bz (hasB w b) := by
  obtain ⟨k, hk, rfl⟩ := i32_of (m := 1023) (by decide) h
  have key : ∀ k, k < 1024 → ∀ b, b < 10 → nI k >>> (nI b &&& 31) &&& 1 = bz (hasB (nI k) b) := by decide +kernel
  exact key k (by omega) b hb
def bulbG (S : St) (k : Nat) (what : Int32) : Int32 :=
  if what = 0 then sO S k else if what = 1 then sG S k else if what = 2 then sR S k else if what = 3 then bz (hasB (sW S) k) else if what = 4 then bz (hasB (sE S) k) else if what = 5 then lifeS S k else if what = 6 then glowS S k else bz (leadsF S k (sH S + 1))
def bulbF (S : St) (b what : Int32) : Int32 := if hasF (sN S) b = true ∧ inI what 0 7 = true then bulbG S (nc b) what else -1
def wearsC (S : St) (b v : Int32) : Bool := hasF (sN S) b && inI v 0 999
def wearsF (S : St) (b v : Int32) : Int32 := if wearsC S b v then sR S (nc b) else -1
def wearsR (S : St) (b v : Int32) : Nat → Int32 := if wearsC S b v then upd (sR S) (nc b) v else sR S
def breaksW (S : St) (b : Int32) : Int32 := if hasF (sN S) b then sW S ^^^ bitI (nc b) else sW S
def breaksF (S : St) (b : Int32) : Int32 := if hasF (sN S) b then bz (hasB (sW S ^^^ bitI (nc b)) (nc b)) else -1
def sparesF (S : St) (v : Int32) : Int32 := if inI v 0 9 then sP S else -1
def sparesP (S : St) (v : Int32) : Int32 := if inI v 0 9 then v else sP S
/-- a TWIST -/
def twS (S : St) (b : Nat) : St := (sN S, sW S ||| bitI b, sE S ||| bitI b, sP S - 1, sH S, sL S, nI b, min9 (sC S + tryF (sD S) (nI b)) 9999, upd (sO S) b 6, upd (sG S) b 5, upd (sR S) b 0)
def twistF (S : St) (b : Int32) : Int32 := if hasF (sN S) b then (if sP S ≤ 0 then -3 else tryF (sD S) b) else -1
def twistS (S : St) (b : Int32) : St := if hasF (sN S) b then (if sP S ≤ 0 then S else twS S (nc b)) else S
def canU (n : Nat) (t i j : Int32) : Bool := decide (0 ≤ t) && (decide (t ≤ 4) && strF n i j)
def useF (S : St) (t i j : Int32) : Int32 := if canU (sN S) t i j then bz (useB S t (nc i) (nc j)) else -1
def useSS (S : St) (t i j : Int32) : St := if canU (sN S) t i j then useS S t (nc i) (nc j) else S
def hoursC (S : St) (m : Int32) : Bool := inI m 1 60 && decide (sH S + m ≤ 999)
def hoursF (S : St) (m : Int32) : Int32 := if inI m 1 60 then (if sH S + m ≤ 999 then sL (hoursS S (nc m)) else -3) else -1
def hoursSS (S : St) (m : Int32) : St := if hoursC S m then hoursS S (nc m) else S
def thenF (S : St) (m what : Int32) : Int32 :=
  if inI m 0 60 = true ∧ inI what 0 2 = true then (if what = 0 then sW (hoursS S (nc m)) else if what = 1 then sL (hoursS S (nc m)) else wornAll (sN S) (sR (hoursS S (nc m)))) else -1
def wornThenF (S : St) (b m : Int32) : Int32 := if hasF (sN S) b = true ∧ inI m 0 60 = true then sR (hoursS S (nc m)) (nc b) else -1
def countF (S : St) (what : Int32) : Int32 :=
  if what = 0 then nI (sN S) else if what = 1 then sH S else if what = 2 then sL S else if what = 3 then sP S else if what = 4 then sC S else if what = 5 then sD S else if what = 6 then sW S else if what = 7 then sE S else -1
/-- what no call of the reference but its own changes -/
def kM (M M' : MX) : Prop := (∀ k, k = 11 ∨ k = 12 ∨ k = 30 → M'.1 k = M.1 k) ∧ (∀ c, 4 ≤ c ∧ c ≤ 8 ∨ c = 14 → M'.2.1 c = M.2.1 c) ∧ M'.2.2.1 9 = M.2.2.1 9
theorem kM_rf (M : MX) : kM M M := ⟨fun _ _ => rfl, fun _ _ => rfl, rfl⟩
theorem kM_tr {M M' M2 : MX} (h1 : kM M M') (h2 : kM M' M2) : kM M M2 := ⟨fun k hk => (h2.1 k hk).trans (h1.1 k hk), fun c hc => (h2.2.1 c hc).trans (h1.2.1 c hc), h2.2.2.trans h1.2.2⟩
theorem kM_i {I J : Nat → Int32} {A : Nat → Nat → Int32} {B : Nat → Nat → Int64} {K K' : Value} (h : ∀ k, k = 11 ∨ k = 12 ∨ k = 30 → J k = I k) : kM (I, A, B, K) (J, A, B, K') := ⟨h, fun _ _ => rfl, rfl⟩
theorem kM_13 {I J : Nat → Int32} {A : Nat → Nat → Int32} {f : Nat → Int32} {B : Nat → Nat → Int64} {K K' : Value} (h : ∀ k, k = 11 ∨ k = 12 ∨ k = 30 → J k = I k) : kM (I, A, B, K) (J, updA A 13 f, B, K') := ⟨h, fun c hc => updA_off (by omega), rfl⟩
theorem kM_20 (I : Nat → Int32) (A : Nat → Nat → Int32) (B : Nat → Nat → Int64) (K : Value) (v : Int32) : kM (I, A, B, K) (upd I 20 v, A, B, K) := kM_i fun k hk => pk_un (by omega)
def mP (r : Option Value) (S : St) (M : MX) : Option Value → List eC → Prop := fun r' h' => r' = r ∧ ∃ M', kM M M' ∧ h' = mH S M'
/-- what holds of the reference at all times -/
def mI (M : MX) : Prop := M.1 11 = 0 ∧ M.1 12 = 1

