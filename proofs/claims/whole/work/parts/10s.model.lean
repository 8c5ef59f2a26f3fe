/-! ===== the least of a few numbers; a table of stretches ===== -/
def mnN (f : Nat → Nat) (i : Nat) : Nat → Nat
  | 0 => f i
  | n + 1 => min (mnN f i n) (f (i + n + 1))
def amN (f : Nat → Nat) (i : Nat) : Nat → Nat
  | 0 => i
  | n + 1 => if f (i + n + 1) < mnN f i n then i + n + 1 else amN f i n
theorem mnN_le (f : Nat → Nat) (i : Nat) : ∀ n k, k ≤ n → mnN f i n ≤ f (i + k)
  | 0, k, h => by rw [show k = 0 by omega]; exact Nat.le_refl _
  | n + 1, k, h => by
    rcases Nat.lt_or_ge k (n + 1) with q | q
    · exact Nat.le_trans (Nat.min_le_left _ _) (mnN_le f i n k (by omega))
    · rw [show k = n + 1 by omega]; exact Nat.min_le_right _ _
theorem mnN_ext {f g : Nat → Nat} {i : Nat} : ∀ n, (∀ k, i ≤ k → k ≤ i + n → f k = g k) → mnN f i n = mnN g i n
  | 0, h => h i (Nat.le_refl _) (Nat.le_refl _)
  | n + 1, h => by
    show min (mnN f i n) (f (i + n + 1)) = min (mnN g i n) (g (i + n + 1))
    rw [mnN_ext n (fun k h1 h2 => h k h1 (by omega)), h (i + n + 1) (by omega) (by omega)]
theorem amN_sp (f : Nat → Nat) (i : Nat) : ∀ n, i ≤ amN f i n ∧ amN f i n ≤ i + n ∧ f (amN f i n) = mnN f i n ∧ ∀ k, i ≤ k → k < amN f i n → mnN f i n < f k
  | 0 => ⟨Nat.le_refl _, Nat.le_refl _, rfl, fun k h1 h2 => absurd h1 (Nat.not_le.mpr h2)⟩
  | n + 1 => by
    obtain ⟨h1, h2, h3, h4⟩ := amN_sp f i n
    by_cases q : f (i + n + 1) < mnN f i n
    · have e1 : amN f i (n + 1) = i + n + 1 := if_pos q
      have e2 : mnN f i (n + 1) = f (i + n + 1) := Nat.min_eq_right (Nat.le_of_lt q)
      rw [e1, e2]
      refine ⟨by omega, by omega, rfl, fun k a b => ?_⟩
      have := mnN_le f i n (k - i) (by omega)
      rw [show i + (k - i) = k by omega] at this
      omega
    · have e1 : amN f i (n + 1) = amN f i n := if_neg q
      have e2 : mnN f i (n + 1) = mnN f i n := Nat.min_eq_left (by omega)
      rw [e1, e2]
      exact ⟨h1, by omega, h3, h4⟩
def dpN (c : Nat → Nat → Nat → Nat) (op : Nat → Nat → Nat) : Nat → Nat → Nat → Nat
  | 0, _, _ => 0
  | e + 1, a, b => if b ≤ a then 0 else mnN (fun k => c a b k + op (dpN c op e a k) (dpN c op e (k + 1) b)) a (b - a - 1)
theorem dpN_0 {c : Nat → Nat → Nat → Nat} {op : Nat → Nat → Nat} {e a b : Nat} (h : b ≤ a) : dpN c op e a b = 0 := by
  cases e with
  | zero => rfl
  | succ e => exact if_pos h
theorem dpN_st {c : Nat → Nat → Nat → Nat} {op : Nat → Nat → Nat} : ∀ (e e2 a b : Nat), b - a ≤ e → b - a ≤ e2 → dpN c op e a b = dpN c op e2 a b
  | 0, e2, a, b, h1, h2 => by rw [dpN_0 (by omega), dpN_0 (by omega)]
  | e + 1, 0, a, b, h1, h2 => by rw [dpN_0 (by omega), dpN_0 (by omega)]
  | e + 1, e2 + 1, a, b, h1, h2 => by
    by_cases q : b ≤ a
    · rw [dpN_0 q, dpN_0 q]
    · show (if b ≤ a then 0 else _) = (if b ≤ a then 0 else _)
      rw [if_neg q, if_neg q]
      refine mnN_ext _ (fun k a1 a2 => ?_)
      rw [dpN_st e e2 a k (by omega) (by omega), dpN_st e e2 (k + 1) b (by omega) (by omega)]
theorem dpN_le {c : Nat → Nat → Nat → Nat} {op : Nat → Nat → Nat} {C : Nat} (hc : ∀ a b, a < b → b < 10 → c a b a ≤ C) (ho : ∀ z, op 0 z ≤ z) : ∀ (e a b : Nat), b < 10 → dpN c op e a b ≤ C * (b - a)
  | 0, a, b, hb => Nat.zero_le _
  | e + 1, a, b, hb => by
    by_cases q : b ≤ a
    · rw [dpN_0 q]; exact Nat.zero_le _
    · show (if b ≤ a then 0 else _) ≤ _
      rw [if_neg q]
      refine Nat.le_trans (mnN_le _ a (b - a - 1) 0 (Nat.zero_le _)) ?_
      show c a b a + op (dpN c op e a a) (dpN c op e (a + 1) b) ≤ _
      rw [dpN_0 (Nat.le_refl a)]
      have h1 := hc a b (by omega) hb
      have h2 := ho (dpN c op e (a + 1) b)
      have h3 := dpN_le hc ho e (a + 1) b hb
      have h4 : C * (b - a) = C + C * (b - (a + 1)) := by
        rw [show b - a = (b - (a + 1)) + 1 by omega, Nat.mul_add]; omega
      omega
def wW (a b : Nat) : Nat := dpN (fun a _ k => 6 + 2 * (k - a)) max 10 a b
def wM (od : Nat → Nat → Nat) (a b : Nat) : Nat := dpN (fun a b k => (6 + 2 * (k - a)) * od a b) (· + ·) 10 a b
def byW (a b k : Nat) : Nat := 6 + 2 * (k - a) + max (wW a k) (wW (k + 1) b)
def byM (od : Nat → Nat → Nat) (a b k : Nat) : Nat := (6 + 2 * (k - a)) * od a b + (wM od a k + wM od (k + 1) b)
theorem wW_0 {a b : Nat} (h : b ≤ a) : wW a b = 0 := dpN_0 h
theorem wM_0 {od : Nat → Nat → Nat} {a b : Nat} (h : b ≤ a) : wM od a b = 0 := dpN_0 h
theorem wW_s {a b : Nat} (h : a < b) (hb : b < 10) : wW a b = mnN (byW a b) a (b - a - 1) := by
  show (if b ≤ a then 0 else _) = _
  rw [if_neg (by omega)]
  refine mnN_ext _ (fun k a1 a2 => ?_)
  unfold byW wW
  rw [dpN_st 9 10 a k (by omega) (by omega), dpN_st 9 10 (k + 1) b (by omega) (by omega)]
theorem wM_s {od : Nat → Nat → Nat} {a b : Nat} (h : a < b) (hb : b < 10) : wM od a b = mnN (byM od a b) a (b - a - 1) := by
  show (if b ≤ a then 0 else _) = _
  rw [if_neg (by omega)]
  refine mnN_ext _ (fun k a1 a2 => ?_)
  unfold byM wM
  rw [dpN_st 9 10 a k (by omega) (by omega), dpN_st 9 10 (k + 1) b (by omega) (by omega)]
theorem wW_le {a b : Nat} (hb : b < 10) : wW a b ≤ 60 := by
  have h := dpN_le (c := fun a _ k => 6 + 2 * (k - a)) (op := max) (C := 6) (fun a b _ _ => by show 6 + 2 * (a - a) ≤ 6; omega) (fun z => by rw [Nat.zero_max]; exact Nat.le_refl _) 10 a b hb
  have h2 : b - a ≤ 10 := by omega
  unfold wW
  omega
theorem wM_le {od : Nat → Nat → Nat} (ho : ∀ a b, b < 10 → od a b ≤ 10000) {a b : Nat} (hb : b < 10) : wM od a b ≤ 600000 := by
  have h := dpN_le (c := fun a b k => (6 + 2 * (k - a)) * od a b) (op := (· + ·)) (C := 60000) (fun a b _ hb => by
    show (6 + 2 * (a - a)) * od a b ≤ 60000
    have := ho a b hb
    rw [Nat.sub_self]
    omega) (fun z => by show 0 + z ≤ z; omega) 10 a b hb
  have h2 : b - a ≤ 10 := by omega
  unfold wM
  omega
theorem byW_le {a b k : Nat} (hb : b < 10) (hk : k < b) : byW a b k ≤ 100 := by
  have h1 := wW_le (a := a) (b := k) (by omega)
  have h2 := wW_le (a := k + 1) (b := b) hb
  unfold byW
  omega
theorem byM_le {od : Nat → Nat → Nat} (ho : ∀ a b, b < 10 → od a b ≤ 10000) {a b k : Nat} (hb : b < 10) (hk : k < b) : byM od a b k ≤ 2000000 := by
  have h1 := wM_le ho (a := a) (b := k) (by omega)
  have h2 := wM_le ho (a := k + 1) (b := b) hb
  have h3 : (6 + 2 * (k - a)) * od a b ≤ 30 * 10000 := Nat.mul_le_mul (by omega) (ho a b hb)
  unfold byM
  omega
def odN (wo : Nat → Int32) (i e : Nat) : Nat := itr (fun a b => a + (nc (wo b) + 1)) 0 i (e - i)
theorem odd_nI {wo : Nat → Int32} (h : GdV wo 999) : ∀ (k i a : Nat), i + k ≤ 10 → itr (fun a b => a + (wo b + 1)) (nI a) i k = nI (itr (fun a b => a + (nc (wo b) + 1)) a i k) ∧ itr (fun a b => a + (nc (wo b) + 1)) a i k ≤ a + 1000 * k
  | 0, i, a, _ => ⟨rfl, by show a ≤ _; omega⟩
  | k + 1, i, a, hk => by
    obtain ⟨v, hv, he⟩ := i32_of (m := 999) (by decide) (h i (by omega))
    have e1 : nc (wo i) = v := by rw [he]; exact nc_nI (by omega)
    rw [itr_s, itr_s, e1, he, nI_1, nI_add]
    obtain ⟨h1, h2⟩ := odd_nI h k (i + 1) (a + (v + 1)) (by omega)
    exact ⟨h1, by omega⟩
theorem odds_nI {wo : Nat → Int32} (h : GdV wo 999) {i e : Nat} (he : e ≤ 10) (hi : i ≤ e) : oddsF wo i e = nI (odN wo i e) := (odd_nI h (e - i) i 0 (by omega)).1
theorem odN_le {wo : Nat → Int32} (h : GdV wo 999) {i e : Nat} (he : e ≤ 10) : odN wo i e ≤ 10000 := by
  by_cases q : i ≤ e
  · have := (odd_nI h (e - i) i 0 (by omega)).2
    unfold odN
    omega
  · unfold odN
    rw [show e - i = 0 by omega]
    exact Nat.zero_le _
def odS (wo : Nat → Int32) (a b : Nat) : Nat := odN wo a (b + 1)
theorem odS_le {wo : Nat → Int32} (h : GdV wo 999) : ∀ a b, b < 10 → odS wo a b ≤ 10000 := fun a b hb => odN_le h (by omega)
def cutI (a b : Nat) : Int32 := if a = b then -4 else nI (amN (byW a b) a (b - a - 1))
/-! a stretch laid, k by k -/
def lsL (best least by0 : Int32) : Int32 := if best < 0 ∨ by0 < least then by0 else least
def lsB (best least by0 v k : Int32) : Int32 := if best < 0 ∨ by0 = least ∧ by0 < v then k else best
def lsM (k a : Nat) (mean all : Int64) : Int64 := if k = a ∨ all < mean then all else mean
def LSt (od : Nat → Nat → Nat) (a b j : Nat) (best least v : Int32) (mean : Int64) : Prop :=
  (j = a ∧ best = -4 ∧ least = 0 ∧ mean = 0) ∨ (a < j ∧ best = nI (amN (byW a b) a (j - a - 1)) ∧ least = nI (mnN (byW a b) a (j - a - 1)) ∧ v = least ∧ mean = lN (mnN (byM od a b) a (j - a - 1)))
theorem mnN_bd {f : Nat → Nat} {i n m : Nat} (h : f i ≤ m) : mnN f i n ≤ m := Nat.le_trans (mnN_le f i n 0 (Nat.zero_le _)) h
theorem LSt_s {od : Nat → Nat → Nat} (ho : ∀ a b, b < 10 → od a b ≤ 10000) {a b j : Nat} {best least v : Int32} {mean : Int64} (h : LSt od a b j best least v mean) (haj : a ≤ j) (hjb : j < b) (hb : b < 10) :
    LSt od a b (j + 1) (lsB best (lsL best least (nI (byW a b j))) (nI (byW a b j)) v (nI j)) (lsL best least (nI (byW a b j))) (lsL best least (nI (byW a b j))) (lsM j a mean (lN (byM od a b j))) := by
  refine Or.inr ⟨by omega, ?_⟩
  rcases h with ⟨rfl, rfl, rfl, rfl⟩ | ⟨h1, rfl, rfl, rfl, rfl⟩
  · rw [show j + 1 - j - 1 = 0 by omega]
    have e1 : lsL (-4) 0 (nI (byW j b j)) = nI (byW j b j) := if_pos (Or.inl (by decide))
    rw [e1]
    exact ⟨if_pos (Or.inl (by decide)), rfl, rfl, if_pos (Or.inl rfl)⟩
  · obtain ⟨m, hm⟩ : ∃ m, j = a + m + 1 := ⟨j - a - 1, by omega⟩
    have y1 := byW_le (a := a) hb hjb
    have y2 := byM_le ho (a := a) hb hjb
    have z1 : mnN (byW a b) a m ≤ 100 := mnN_bd (byW_le hb (by omega))
    have z2 : mnN (byM od a b) a m ≤ 2000000 := mnN_bd (byM_le ho hb (by omega))
    have sp := amN_sp (byW a b) a m
    rw [show j - a - 1 = m by omega, show j + 1 - a - 1 = m + 1 by omega]
    have nz : ¬ nI (amN (byW a b) a m) < 0 := nI_pos (by omega)
    have e1 : lsL (nI (amN (byW a b) a m)) (nI (mnN (byW a b) a m)) (nI (byW a b j)) = nI (mnN (byW a b) a (m + 1)) := by
      show (if _ then _ else _) = nI (min (mnN (byW a b) a m) (byW a b (a + m + 1)))
      rw [← hm]
      by_cases q : byW a b j < mnN (byW a b) a m
      · rw [if_pos (Or.inr (nI_lt q (by omega))), Nat.min_eq_right (by omega)]
      · rw [if_neg (fun z => z.elim nz (nI_nlt (by omega) (by omega))), Nat.min_eq_left (by omega)]
    rw [e1]
    refine ⟨?_, rfl, rfl, ?_⟩
    · show (if _ then _ else _) = nI (if byW a b (a + m + 1) < mnN (byW a b) a m then a + m + 1 else amN (byW a b) a m)
      rw [← hm]
      have e2 : mnN (byW a b) a (m + 1) = min (mnN (byW a b) a m) (byW a b j) := by rw [hm]; rfl
      rw [e2]
      by_cases q : byW a b j < mnN (byW a b) a m
      · rw [if_pos q, Nat.min_eq_right (by omega), if_pos (Or.inr ⟨rfl, nI_lt q (by omega)⟩)]
      · rw [if_neg q, if_neg (fun z => z.elim nz (fun z => nI_nlt (by omega) (by omega) z.2))]
    · show (if _ then _ else _) = lN (min (mnN (byM od a b) a m) (byM od a b (a + m + 1)))
      rw [← hm]
      by_cases q : byM od a b j < mnN (byM od a b) a m
      · rw [if_pos (Or.inr ((pk_lLT (by omega) (by omega)).mpr q)), Nat.min_eq_right (by omega)]
      · rw [if_neg (fun z => z.elim (by omega) (fun z => q ((pk_lLT (by omega) (by omega)).mp z))), Nat.min_eq_left (by omega)]
theorem LSt_e {od : Nat → Nat → Nat} {a b : Nat} {best least v : Int32} {mean : Int64} (h : LSt od a b b best least v mean) (hb : b < 10) : best = cutI a b ∧ least = nI (wW a b) ∧ mean = lN (wM od a b) := by
  rcases h with ⟨rfl, rfl, rfl, rfl⟩ | ⟨h1, rfl, rfl, rfl, rfl⟩
  · exact ⟨(if_pos rfl).symm, by rw [wW_0 (Nat.le_refl _)]; rfl, by rw [wM_0 (Nat.le_refl _)]; rfl⟩
  · exact ⟨(if_neg (by omega)).symm, by rw [wW_s h1 hb], by rw [wM_s h1 hb]⟩

