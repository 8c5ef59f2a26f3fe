/-! ===== hours on ===== -/
theorem itr_r {α : Type} (f : α → Nat → α) : ∀ (n i : Nat) (a : α), itr f a i (n + 1) = f (itr f a i n) (i + n)
  | 0, i, a => rfl
  | n + 1, i, a => by rw [itr_s, itr_r f n (i + 1) (f a i), itr_s]; congr 1; omega
theorem hours_0 (S : St) : hoursS S 0 = S := rfl
theorem hours_s (S : St) (k : Nat) : hoursS S (k + 1) = hourS (hoursS S k) 1 := itr_r _ k 0 S
/-- the first from i on that has it, of m; else the one behind them -/
def firstN (p : Nat → Bool) : Nat → Nat → Nat
  | i, 0 => i
  | i, m + 1 => if p i then i else firstN p (i + 1) m
theorem firstN_ge (p : Nat → Bool) : ∀ (m i : Nat), i ≤ firstN p i m ∧ firstN p i m ≤ i + m
  | 0, i => ⟨Nat.le_refl _, Nat.le_refl _⟩
  | m + 1, i => by
    unfold firstN
    split
    · omega
    · have := firstN_ge p m (i + 1)
      omega
theorem firstN_t {p : Nat → Bool} {i e : Nat} (h : i < e) (hp : p i = true) : firstN p i (e - i) = i := by
  obtain ⟨m, hm⟩ : ∃ m, e - i = m + 1 := ⟨e - i - 1, by omega⟩
  rw [hm, firstN, if_pos hp]
theorem firstN_f {p : Nat → Bool} {i e : Nat} (h : i < e) (hp : p i = false) : firstN p i (e - i) = firstN p (i + 1) (e - (i + 1)) := by
  obtain ⟨m, hm⟩ : ∃ m, e - i = m + 1 := ⟨e - i - 1, by omega⟩
  rw [hm, firstN, if_neg (by rw [hp]; exact Bool.false_ne_true), show e - (i + 1) = m by omega]
theorem firstN_e {p : Nat → Bool} {i e : Nat} (h : e ≤ i) : firstN p i (e - i) = i := by
  rw [show e - i = 0 by omega]; rfl
def tillN (S : St) (b : Nat) : Nat := firstN (fun k => !hasB (sW (hoursS S k)) b) 0 61
def tillF (S : St) (b : Nat) : Int32 := if tillN S b = 61 then -4 else nI (tillN S b)
def darkN (S : St) : Nat := firstN (fun k => !hourB (hoursS S k)) 0 60
def darkF (S : St) : Int32 := if darkN S = 60 then -4 else nI (darkN S + 1)
def long1 (S : St) (q : Int32 × Int32) (k : Nat) : Int32 × Int32 :=
  (if hourB (hoursS S k) then q.1 + 1 else 0, if q.2 < (if hourB (hoursS S k) then q.1 + 1 else 0) then (if hourB (hoursS S k) then q.1 + 1 else 0) else q.2)
def longF (S : St) : Int32 := (itr (long1 S) (0, 0) 0 60).2
def burntF (S : St) (m : Nat) : Int32 := cntF (fun k => hourB (hoursS S k)) 0 0 m
def next1 (S : St) (q : Int32 × Nat) (o : Nat) : Int32 × Nat := if (if hasB (sW S) o then tillN S o else 61) < q.2 then (nI o, if hasB (sW S) o then tillN S o else 61) else q
def nextF (S : St) : Int32 := (itr (next1 S) (-4, 61) 0 (sN S)).1
def goesF (S : St) (b : Int32) : Int32 := if b = -1 then nextF S else if hasF (sN S) b then tillF S (nc b) else -1
def lightsF (S : St) (what : Int32) : Int32 := if what = 0 then bz (burnsF S (sH S + 1)) else if what = 1 then faultsF S else if what = 2 then brownsF S else if what = 3 then longF S else if what = 4 then weakF S else -1
def toolF (S : St) (t i j what : Int32) : Int32 :=
  if canU (sN S) t i j = true ∧ inI what 0 2 = true then (if what = 0 then bz (useB S t (nc i) (nc j)) else if what = 1 then toolT (sD S) t i j else useD t (nc i) (nc j)) else -1
theorem good_at {S : St} (h : Good S) (k : Nat) : Good (hoursS S k) := good_hours h k
theorem faults_0 {S : St} (hn : sN S ≤ 10) : faultsF S = 0 ↔ leadAll S 0 (sN S) (sH S + 1) = true := by
  have key : ∀ (k i : Nat) (a : Int32), i + k ≤ 10 → Gd1 a 1023 → (itr (fun a b => if leadsF S b (sH S + 1) then a else a ||| bitI b) a i k = 0 ↔ a = 0 ∧ itr (fun a b => a && leadsF S b (sH S + 1)) true i k = true) := by
    intro k
    induction k with
    | zero => intro i a _ _; simp [itr]
    | succ k ih =>
      intro i a hk ha
      rw [itr_s, itr_s]
      by_cases h : leadsF S i (sH S + 1) = true
      · rw [if_pos h, h, Bool.and_self]
        exact ih (i + 1) a (by omega) ha
      · rw [if_neg h]
        have hf : leadsF S i (sH S + 1) = false := by simpa using h
        rw [hf, Bool.and_false, itr_and_f, ih (i + 1) _ (by omega) (gd_or ha (by omega))]
        have nz : ¬ a ||| bitI i = 0 := by
          obtain ⟨j, hj, rfl⟩ := i32_of (m := 1023) (by decide) ha
          have kk : ∀ j, j < 1024 → ∀ i, i < 10 → ¬ nI j ||| bitI i = 0 := by decide +kernel
          exact kk j (by omega) i (by omega)
        constructor
        · rintro ⟨z, -⟩; exact absurd z nz
        · rintro ⟨-, z⟩; cases z
  have h := key (sN S) 0 0 (by omega) ⟨by decide, by decide⟩
  unfold faultsF leadAll allF
  rw [h]
  simp
theorem or_0 (x : Int32) : x ||| 0 = x := by
  apply Int32.toBitVec_inj.mp
  rw [Int32.toBitVec_or, show (0 : Int32).toBitVec = 0#32 from rfl, BitVec.or_zero]

