/-! ===== orders ===== -/
def sumN (g : Nat → Nat) : Nat → Nat
  | 0 => 0
  | m + 1 => sumN g m + g m
theorem sumN_ext {g k : Nat → Nat} : ∀ m, (∀ j, j < m → g j = k j) → sumN g m = sumN k m
  | 0, _ => rfl
  | m + 1, h => by
    show sumN g m + g m = sumN k m + k m
    rw [sumN_ext m (fun j hj => h j (by omega)), h m (by omega)]
theorem sumN_le {g : Nat → Nat} {C : Nat} : ∀ m, (∀ j, j < m → g j ≤ C) → sumN g m ≤ C * m
  | 0, _ => Nat.zero_le _
  | m + 1, h => by
    have h1 := sumN_le m (fun j hj => h j (by omega))
    have h2 := h m (by omega)
    show sumN g m + g m ≤ C * (m + 1)
    rw [Nat.mul_add]
    omega
theorem sumN_head (g : Nat → Nat) : ∀ m, sumN g (m + 1) = g 0 + sumN (fun k => g (k + 1)) m
  | 0 => by show 0 + g 0 = g 0 + 0; omega
  | m + 1 => by
    have h := sumN_head g m
    show sumN g (m + 1) + g (m + 1) = g 0 + (sumN (fun k => g (k + 1)) m + g (m + 1))
    omega
theorem sumN_rm (g : Nat → Nat) (f : Nat → Nat) : ∀ (m i : Nat), i ≤ m → g (f i) + sumN (fun j => g (rmF f i j)) m = sumN (fun j => g (f j)) (m + 1)
  | 0, i, h => by rw [show i = 0 by omega]; show g (f 0) + 0 = 0 + g (f 0); omega
  | m + 1, i, h => by
    rcases Nat.lt_or_ge m i with q | q
    · have e : i = m + 1 := by omega
      subst e
      have h1 : sumN (fun j => g (rmF f (m + 1) j)) (m + 1) = sumN (fun j => g (f j)) (m + 1) := sumN_ext _ (fun j hj => by unfold rmF; rw [if_pos hj])
      rw [h1]
      show _ = sumN (fun j => g (f j)) (m + 1) + g (f (m + 1))
      omega
    · have h1 := sumN_rm g f m i q
      show g (f i) + (sumN (fun j => g (rmF f i j)) m + g (rmF f i m)) = sumN (fun j => g (f j)) (m + 1) + g (f (m + 1))
      have e : rmF f i m = f (m + 1) := by unfold rmF; rw [if_neg (by omega)]
      rw [e]
      omega
def odO (wo : Nat → Int32) (f : Nat → Nat) (m : Nat) : Nat := sumN (fun j => nc (wo (f j)) + 1) m
def tryN (a b : Nat) : Nat := 8 + (if b ≤ a then a - b else b - a)
def fcN : Nat → Nat
  | 0 => 1
  | m + 1 => (m + 1) * fcN m
theorem fcN_pos : ∀ m, 0 < fcN m
  | 0 => Nat.one_pos
  | m + 1 => Nat.mul_pos (Nat.succ_pos _) (fcN_pos m)
def fwN (wo : Nat → Int32) : Nat → (Nat → Nat) → Nat → Nat
  | 0, _, _ => 0
  | m + 1, f, at0 => mnN (fun i => tryN at0 (f i) * odO wo f (m + 1) + fwN wo m (rmF f i) (f i)) 0 m
def byO (wo : Nat → Int32) (m : Nat) (f : Nat → Nat) (at0 i : Nat) : Nat := tryN at0 (f i) * odO wo f (m + 1) + fwN wo m (rmF f i) (f i)
def grN (wo : Nat → Int32) : Nat → (Nat → Nat) → Nat → Nat → Nat
  | 0, _, _, _ => 0
  | m + 1, f, at0, k => if k = 0 then f (amN (byO wo m f at0) 0 m) else grN wo m (rmF f (amN (byO wo m f at0) 0 m)) (f (amN (byO wo m f at0) 0 m)) (k - 1)
def ntP : Nat → (Nat → Nat) → Nat → Nat → Nat
  | 0, _, _, _ => 0
  | m + 1, f, n, k => if k = 0 then f (n / fcN m) else ntP m (rmF f (n / fcN m)) (n % fcN m) (k - 1)
def csN (wo : Nat → Int32) : Nat → Nat → (Nat → Nat) → Nat
  | 0, _, _ => 0
  | m + 1, at0, p => tryN at0 (p 0) * odO wo p (m + 1) + csN wo m (p 0) (fun k => p (k + 1))
theorem odO_ext {wo : Nat → Int32} {f g : Nat → Nat} {m : Nat} (h : ∀ j, j < m → f j = g j) : odO wo f m = odO wo g m := sumN_ext m (fun j hj => by rw [h j hj])
theorem rm_ext {f g : Nat → Nat} {m i : Nat} (h : ∀ j, j < m + 1 → f j = g j) : ∀ j, j < m → rmF f i j = rmF g i j := fun j hj => by
  unfold rmF
  rw [h j (by omega), h (j + 1) (by omega)]
theorem fwN_ext {wo : Nat → Int32} : ∀ (m : Nat) {f g : Nat → Nat} (at0 : Nat), (∀ j, j < m → f j = g j) → fwN wo m f at0 = fwN wo m g at0
  | 0, _, _, _, _ => rfl
  | m + 1, f, g, at0, h => by
    refine mnN_ext _ (fun k h1 h2 => ?_)
    show tryN at0 (f k) * odO wo f (m + 1) + fwN wo m (rmF f k) (f k) = tryN at0 (g k) * odO wo g (m + 1) + fwN wo m (rmF g k) (g k)
    rw [h k (by omega), odO_ext h, fwN_ext m _ (rm_ext h)]
theorem csN_ext {wo : Nat → Int32} : ∀ (m : Nat) {p q : Nat → Nat} (at0 : Nat), (∀ j, j < m → p j = q j) → csN wo m at0 p = csN wo m at0 q
  | 0, _, _, _, _ => rfl
  | m + 1, p, q, at0, h => by
    show tryN at0 (p 0) * odO wo p (m + 1) + csN wo m (p 0) (fun k => p (k + 1)) = tryN at0 (q 0) * odO wo q (m + 1) + csN wo m (q 0) (fun k => q (k + 1))
    rw [h 0 (by omega), odO_ext h, csN_ext m _ (fun j hj => h (j + 1) (by omega))]
theorem nt_0 {m : Nat} {f : Nat → Nat} {n : Nat} : ntP (m + 1) f n 0 = f (n / fcN m) := if_pos rfl
theorem nt_s {m : Nat} {f : Nat → Nat} {n k : Nat} : ntP (m + 1) f n (k + 1) = ntP m (rmF f (n / fcN m)) (n % fcN m) k := if_neg (Nat.succ_ne_zero k)
theorem sum_nt (g : Nat → Nat) (m : Nat) : ∀ (f : Nat → Nat) (n : Nat), n < fcN m → sumN (fun j => g (ntP m f n j)) m = sumN (fun j => g (f j)) m := by
  induction m with
  | zero => intro f n h; rfl
  | succ m ih =>
    intro f n h
    have hi : n / fcN m ≤ m := by
      have : n / fcN m < m + 1 := (Nat.div_lt_iff_lt_mul (fcN_pos m)).mpr h
      omega
    have h1 := ih (rmF f (n / fcN m)) (n % fcN m) (Nat.mod_lt _ (fcN_pos m))
    have h2 := sumN_rm g f m (n / fcN m) hi
    have h3 := sumN_head (fun j => g (ntP (m + 1) f n j)) m
    have h4 : sumN (fun k => g (ntP (m + 1) f n (k + 1))) m = sumN (fun k => g (ntP m (rmF f (n / fcN m)) (n % fcN m) k)) m := sumN_ext m (fun k _ => by rw [nt_s])
    rw [h3, nt_0, h4, h1, h2]
theorem odO_nt (wo : Nat → Int32) (m : Nat) (f : Nat → Nat) (n : Nat) (h : n < fcN m) : odO wo (ntP m f n) m = odO wo f m := sum_nt (fun z => nc (wo z) + 1) m f n h
theorem cs_nt {wo : Nat → Int32} {m : Nat} {f : Nat → Nat} {n at0 : Nat} (h : n < fcN (m + 1)) : csN wo (m + 1) at0 (ntP (m + 1) f n) = tryN at0 (f (n / fcN m)) * odO wo f (m + 1) + csN wo m (f (n / fcN m)) (ntP m (rmF f (n / fcN m)) (n % fcN m)) := by
  rw [csN, odO_nt wo (m + 1) f n h, nt_0]
  rfl
/-- the first of all orders with the least is that which takes the first best one at each step -/
theorem ord_sp (wo : Nat → Int32) (m : Nat) : ∀ (f : Nat → Nat) (at0 : Nat), (∀ n, n < fcN m → fwN wo m f at0 ≤ csN wo m at0 (ntP m f n)) ∧ ∃ n0, n0 < fcN m ∧ csN wo m at0 (ntP m f n0) = fwN wo m f at0 ∧ (∀ k, k < m → ntP m f n0 k = grN wo m f at0 k) ∧ ∀ n, n < n0 → fwN wo m f at0 < csN wo m at0 (ntP m f n) := by
  induction m with
  | zero => exact fun f at0 => ⟨fun _ _ => Nat.le_refl _, 0, Nat.one_pos, rfl, fun k hk => absurd hk (Nat.not_lt_zero _), fun n hn => absurd hn (Nat.not_lt_zero _)⟩
  | succ m ord_ih =>
    intro f at0
    have hp := fcN_pos m
    have hdiv : ∀ n, n < fcN (m + 1) → n / fcN m ≤ m := fun n h => by
      have : n / fcN m < m + 1 := (Nat.div_lt_iff_lt_mul hp).mpr h
      omega
    have hle : ∀ i, i ≤ m → fwN wo (m + 1) f at0 ≤ byO wo m f at0 i := fun i hi => by
      have := mnN_le (byO wo m f at0) 0 m i hi
      rw [Nat.zero_add] at this
      exact this
    obtain ⟨-, a2, a3, a4⟩ := amN_sp (byO wo m f at0) 0 m
    rw [Nat.zero_add] at a2
    obtain ⟨i1, r0, i2, i3, i4, i5⟩ := ord_ih (rmF f (amN (byO wo m f at0) 0 m)) (f (amN (byO wo m f at0) 0 m))
    refine ⟨fun n hn => ?_, amN (byO wo m f at0) 0 m * fcN m + r0, ?_, ?_, ?_, ?_⟩
    · rw [cs_nt hn]
      have h1 := (ord_ih (rmF f (n / fcN m)) (f (n / fcN m))).1 (n % fcN m) (Nat.mod_lt _ hp)
      have h2 := hle _ (hdiv n hn)
      unfold byO at h2
      omega
    · show _ < (m + 1) * fcN m
      have : amN (byO wo m f at0) 0 m * fcN m ≤ m * fcN m := Nat.mul_le_mul_right _ a2
      rw [Nat.add_mul]
      omega
    · have hn : amN (byO wo m f at0) 0 m * fcN m + r0 < fcN (m + 1) := by
        show _ < (m + 1) * fcN m
        have : amN (byO wo m f at0) 0 m * fcN m ≤ m * fcN m := Nat.mul_le_mul_right _ a2
        rw [Nat.add_mul]
        omega
      have e1 : (amN (byO wo m f at0) 0 m * fcN m + r0) / fcN m = amN (byO wo m f at0) 0 m := by
        rw [Nat.add_comm, Nat.add_mul_div_right _ _ hp, Nat.div_eq_of_lt i2, Nat.zero_add]
      have e2 : (amN (byO wo m f at0) 0 m * fcN m + r0) % fcN m = r0 := by
        rw [Nat.add_comm, Nat.add_mul_mod_self_right, Nat.mod_eq_of_lt i2]
      rw [cs_nt hn, e1, e2, i3]
      exact a3
    · intro k hk
      have e1 : (amN (byO wo m f at0) 0 m * fcN m + r0) / fcN m = amN (byO wo m f at0) 0 m := by
        rw [Nat.add_comm, Nat.add_mul_div_right _ _ hp, Nat.div_eq_of_lt i2, Nat.zero_add]
      have e2 : (amN (byO wo m f at0) 0 m * fcN m + r0) % fcN m = r0 := by
        rw [Nat.add_comm, Nat.add_mul_mod_self_right, Nat.mod_eq_of_lt i2]
      cases k with
      | zero => rw [nt_0, e1]; rfl
      | succ k => rw [nt_s, e1, e2, i4 k (by omega), grN, if_neg (Nat.succ_ne_zero k), Nat.add_sub_cancel]
    · intro n hn
      have hn2 : n < fcN (m + 1) := by
        show _ < (m + 1) * fcN m
        have : amN (byO wo m f at0) 0 m * fcN m ≤ m * fcN m := Nat.mul_le_mul_right _ a2
        rw [Nat.add_mul]
        omega
      rw [cs_nt hn2]
      have hd : n / fcN m ≤ amN (byO wo m f at0) 0 m := by
        have : n / fcN m < amN (byO wo m f at0) 0 m + 1 := (Nat.div_lt_iff_lt_mul hp).mpr (by rw [Nat.add_mul]; omega)
        omega
      rcases Nat.lt_or_ge (n / fcN m) (amN (byO wo m f at0) 0 m) with q | q
      · have h1 := (ord_ih (rmF f (n / fcN m)) (f (n / fcN m))).1 (n % fcN m) (Nat.mod_lt _ hp)
        have h2 := a4 (n / fcN m) (Nat.zero_le _) q
        have h3 : fwN wo (m + 1) f at0 < byO wo m f at0 (n / fcN m) := h2
        unfold byO at h3
        omega
      · have e : n / fcN m = amN (byO wo m f at0) 0 m := by omega
        have hr : n % fcN m < r0 := by
          have h5 := Nat.div_add_mod n (fcN m)
          rw [e, Nat.mul_comm] at h5
          omega
        rw [e]
        have h6 := i5 _ hr
        have h7 : fwN wo (m + 1) f at0 = byO wo m f at0 (amN (byO wo m f at0) 0 m) := a3.symm
        rw [h7]
        unfold byO
        exact Nat.add_lt_add_left h6 _
theorem odO_s (wo : Nat → Int32) (f : Nat → Nat) (m : Nat) : odO wo f (m + 1) = (nc (wo (f 0)) + 1) + odO wo (fun j => f (j + 1)) m := sumN_head (fun j => nc (wo (f j)) + 1) m
theorem csN_s (wo : Nat → Int32) (m at0 : Nat) (p : Nat → Nat) : csN wo (m + 1) at0 p = tryN at0 (p 0) * odO wo p (m + 1) + csN wo m (p 0) (fun k => p (k + 1)) := by rw [csN]
theorem amN_un {f : Nat → Nat} {i n j : Nat} (h1 : i ≤ j) (h2 : j ≤ i + n) (h3 : ∀ k, i ≤ k → k ≤ i + n → f j ≤ f k) (h4 : ∀ k, i ≤ k → k < j → f j < f k) : amN f i n = j ∧ mnN f i n = f j := by
  obtain ⟨a1, a2, a3, a4⟩ := amN_sp f i n
  have b1 := mnN_le f i n (j - i) (by omega)
  rw [show i + (j - i) = j by omega] at b1
  have b2 := h3 _ a1 a2
  have e : mnN f i n = f j := by omega
  refine ⟨?_, e⟩
  rcases Nat.lt_trichotomy (amN f i n) j with q | q | q
  · have := h4 _ a1 q; omega
  · exact q
  · have := a4 j h1 q; omega
/-- what the orders tell: the least, and the first with it -/
theorem ord_all (wo : Nat → Int32) (m : Nat) (f : Nat → Nat) (at0 : Nat) : mnN (fun n => csN wo m at0 (ntP m f n)) 0 (fcN m - 1) = fwN wo m f at0 ∧ ∀ k, k < m → ntP m f (amN (fun n => csN wo m at0 (ntP m f n)) 0 (fcN m - 1)) k = grN wo m f at0 k := by
  obtain ⟨h1, n0, h2, h3, h4, h5⟩ := ord_sp wo m f at0
  have hp := fcN_pos m
  obtain ⟨u1, u2⟩ := amN_un (f := fun n => csN wo m at0 (ntP m f n)) (i := 0) (n := fcN m - 1) (j := n0) (Nat.zero_le _) (by omega) (fun k _ hk => by
    show csN wo m at0 (ntP m f n0) ≤ csN wo m at0 (ntP m f k)
    rw [h3]; exact h1 k (by omega)) (fun k _ hk => by
    show csN wo m at0 (ntP m f n0) < csN wo m at0 (ntP m f k)
    rw [h3]; exact h5 k hk)
  rw [u1, u2]
  exact ⟨h3, h4⟩
def numN (p : Nat → Nat) (m : Nat) : Nat := itr (fun n k => 10 * n + p k) 1 0 m
theorem csN_le {wo : Nat → Int32} : ∀ (m : Nat) (at0 : Nat) (p : Nat → Nat), m ≤ 5 → at0 < 10 → (∀ k, k < m → p k < 10) → (∀ k, k < m → nc (wo (p k)) ≤ 999) → csN wo m at0 p ≤ 17 * 5000 * m
  | 0, _, _, _, _, _, _ => Nat.zero_le _
  | m + 1, at0, p, hm, h1, h2, h3 => by
    have h4 := csN_le m (p 0) (fun k => p (k + 1)) (by omega) (h2 0 (by omega)) (fun k hk => h2 (k + 1) (by omega)) (fun k hk => h3 (k + 1) (by omega))
    have h5 : odO wo p (m + 1) ≤ 1000 * (m + 1) := sumN_le _ (fun j hj => by have := h3 j hj; omega)
    have h6 : tryN at0 (p 0) ≤ 17 := by
      have := h2 0 (by omega)
      unfold tryN
      split <;> omega
    have h7 : tryN at0 (p 0) * odO wo p (m + 1) ≤ 17 * 5000 := Nat.mul_le_mul h6 (by omega)
    show tryN at0 (p 0) * odO wo p (m + 1) + csN wo m (p 0) (fun k => p (k + 1)) ≤ 17 * 5000 * (m + 1)
    omega

