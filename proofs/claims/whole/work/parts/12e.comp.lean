/-! ===== who is out next ===== -/
theorem wear1_mono {so fi : Nat → Int32} {vo : Int32} {q : WR} {b j : Nat} (hb : b < 10) (hj : j < 10) (h : hasB (wear1 so fi vo q b).1 j = true) : hasB q.1 j = true := by
  unfold wear1 at h
  split at h
  · rename_i hq
    dsimp only at h
    split at h
    · rw [hasB_xor hb hj] at h
      by_cases e : j = b
      · rw [e]; exact hq
      · rw [decide_eq_false e, Bool.xor_false] at h
        exact h
    · exact h
  · exact h
theorem wearI_mono0 {so fi : Nat → Int32} {vo : Int32} {j : Nat} (hj : j < 10) : ∀ (k i : Nat) (q : WR), i + k ≤ 10 → hasB (itr (wear1 so fi vo) q i k).1 j = true → hasB q.1 j = true
  | 0, _, _, _, h => h
  | k + 1, i, q, hk, h => by
    rw [itr_s] at h
    exact wear1_mono (by omega) hj (wearI_mono0 hj k (i + 1) _ (by omega) h)
theorem wearI_mono {so fi : Nat → Int32} {vo : Int32} {j : Nat} {q : WR} (hj : j < 10) (k i : Nat) (hk : i + k ≤ 10) (h : hasB (itr (wear1 so fi vo) q i k).1 j = true) : hasB q.1 j = true := wearI_mono0 hj k i q hk h
theorem wear1_off {so fi : Nat → Int32} {vo : Int32} {q : WR} {b j : Nat} (hb : b < 10) (hj : j < 10) (hne : j ≠ b) : hasB (wear1 so fi vo q b).1 j = hasB q.1 j := by
  unfold wear1
  split
  · dsimp only
    split
    · rw [hasB_xor hb hj, decide_eq_false hne, Bool.xor_false]
    · rfl
  · rfl
theorem wearI_off {so fi : Nat → Int32} {vo : Int32} {j : Nat} (hj : j < 10) : ∀ (k i : Nat) (q : WR), i + k ≤ j → hasB (itr (wear1 so fi vo) q i k).1 j = hasB q.1 j
  | 0, _, _, _ => rfl
  | k + 1, i, q, hk => by
    rw [itr_s, wearI_off hj k (i + 1) _ (by omega)]
    exact wear1_off (by omega) hj (by omega)
theorem hour_off {S : St} {j : Nat} (hj : j < 10) (h : sN S ≤ j) : hasB (sW (hourS S 1)) j = hasB (sW S) j := by
  show hasB (hourQ S 1).1 j = _
  unfold hourQ
  split
  · unfold wearV
    exact wearI_off hj (sN S - 0) 0 (sW S, sR S) (by omega)
  · rfl
theorem hours_off {S : St} {j : Nat} (hj : j < 10) (h : sN S ≤ j) : ∀ k, hasB (sW (hoursS S k)) j = hasB (sW S) j
  | 0 => rfl
  | k + 1 => by
    rw [hours_s, hour_off hj (by rw [hours_N]; exact h)]
    exact hours_off hj h k
theorem hour_mono {S : St} (hn : sN S ≤ 10) {j : Nat} (hj : j < 10) (h : hasB (sW (hourS S 1)) j = true) : hasB (sW S) j = true := by
  have h2 : hasB (hourQ S 1).1 j = true := h
  unfold hourQ at h2
  split at h2
  · unfold wearV at h2
    exact wearI_mono (q := (sW S, sR S)) hj (sN S - 0) 0 (by omega) h2
  · exact h2
theorem hours_mono {S : St} (hn : sN S ≤ 10) {j : Nat} (hj : j < 10) : ∀ (m k : Nat), hasB (sW (hoursS S (k + m))) j = true → hasB (sW (hoursS S k)) j = true
  | 0, k, h => h
  | m + 1, k, h => by
    rw [show k + (m + 1) = (k + m) + 1 by omega, hours_s] at h
    exact hours_mono hn hj m k (hour_mono (by rw [hours_N]; exact hn) hj h)
theorem firstN_at {p : Nat → Bool} : ∀ (m i : Nat), firstN p i m < i + m → p (firstN p i m) = true
  | 0, i, h => absurd h (Nat.lt_irrefl _)
  | m + 1, i, h => by
    by_cases q : p i = true
    · have e : firstN p i (m + 1) = i := if_pos q
      rw [e]; exact q
    · have e : firstN p i (m + 1) = firstN p (i + 1) m := if_neg q
      rw [e] at h ⊢
      exact firstN_at m (i + 1) (by omega)
theorem firstN_bf {p : Nat → Bool} : ∀ (m i j : Nat), i ≤ j → j < firstN p i m → p j = false
  | 0, i, j, h1, h2 => absurd h2 (by show ¬ j < i; omega)
  | m + 1, i, j, h1, h2 => by
    cases q : p i
    · have e : firstN p i (m + 1) = firstN p (i + 1) m := if_neg (by rw [q]; exact Bool.false_ne_true)
      rw [e] at h2
      by_cases y : j = i
      · rw [y]; exact q
      · exact firstN_bf m (i + 1) j (by omega) h2
    · have e : firstN p i (m + 1) = i := if_pos q
      rw [e] at h2
      omega
theorem firstN_is {p : Nat → Bool} {m i j : Nat} (h1 : i ≤ j) (h2 : j < i + m) (h3 : p j = true) (h4 : ∀ k, i ≤ k → k < j → p k = false) : firstN p i m = j := by
  have hg := firstN_ge p m i
  rcases Nat.lt_trichotomy (firstN p i m) j with q | q | q
  · have a := firstN_at (p := p) m i (by omega)
    have b := h4 _ hg.1 q
    rw [a] at b
    cases b
  · exact q
  · have a := firstN_bf m i j h1 q
    rw [h3] at a
    cases a
/-- one that is whole now is out by hour k just if it goes by then -/
theorem till_out {S : St} (hn : sN S ≤ 10) {o k : Nat} (ho : o < 10) (hk : k ≤ 60) : hasB (sW (hoursS S k)) o = false ↔ tillN S o ≤ k := by
  constructor
  · intro h
    rcases Nat.lt_or_ge k (tillN S o) with q | q
    · have a := firstN_bf (p := fun k => !hasB (sW (hoursS S k)) o) 61 0 k (Nat.zero_le _) q
      rw [h] at a
      cases a
    · exact q
  · intro h
    have a : (!hasB (sW (hoursS S (tillN S o))) o) = true := firstN_at (p := fun k => !hasB (sW (hoursS S k)) o) 61 0 (by show tillN S o < 0 + 61; omega)
    cases q : hasB (sW (hoursS S k)) o
    · rfl
    · have b := hours_mono hn ho (k - tillN S o) (tillN S o) (by rw [show tillN S o + (k - tillN S o) = k by omega]; exact q)
      rw [b] at a
      cases a
def goneF (S : St) (k : Nat) : Int32 := sW S &&& (sW (hoursS S k) ^^^ (-1))
theorem gone_bit {S : St} {k o : Nat} (ho : o < 10) : hasB (goneF S k) o = (hasB (sW S) o && !hasB (sW (hoursS S k)) o) := by
  unfold goneF
  rw [hasB_bit ho, hasB_bit ho, hasB_bit ho, Int32.toBitVec_and, BitVec.getLsbD_and, Int32.toBitVec_xor, BitVec.getLsbD_xor, m1_bit o (by omega)]
  cases ((sW (hoursS S k)).toBitVec.getLsbD o) <;> rfl
theorem BN_gd {v : Int32} (h : Gd1 v 1023) : BN 10 v := by
  obtain ⟨k, hk, rfl⟩ := i32_of (m := 1023) (by decide) h
  exact BN_lt (by omega) (Nat.le_refl _)
theorem gone_0 {S : St} (h : Good S) {k : Nat} : goneF S k = 0 ↔ ∀ o, o < sN S → hasB (sW S) o = true → hasB (sW (hoursS S k)) o = true := by
  have hn := h.1
  constructor
  · intro e o ho h1
    have a := gone_bit (S := S) (k := k) (o := o) (by omega)
    rw [e, h1] at a
    have z : hasB 0 o = false := by
      have kk : ∀ o, o < 10 → hasB 0 o = false := by decide +kernel
      exact kk o (by omega)
    rw [z] at a
    cases q : hasB (sW (hoursS S k)) o
    · rw [q] at a; cases a
    · rfl
  · intro hh
    refine BN_0 (n := 10) (Nat.le_refl _) (BN_clr (BN_gd h.2.2.2.2.2.2.2.2.1) _) (fun b hb => ?_)
    have a := gone_bit (S := S) (k := k) (o := b) hb
    show hasB (goneF S k) b = false
    rw [a]
    cases q : hasB (sW S) b
    · rfl
    · rcases Nat.lt_or_ge b (sN S) with y | y
      · rw [hh b y q]; rfl
      · rw [hours_off hb y k, q]; rfl
/-- the hour of o, if it is whole now -/
def hrN (S : St) (o : Nat) : Nat := if hasB (sW S) o then tillN S o else 61
theorem next_sp {S : St} {m : Nat} (hm : 0 < m) : (itr (next1 S) (-4, 61) 0 m).2 = min 61 (mnN (hrN S) 0 (m - 1)) ∧ (itr (next1 S) (-4, 61) 0 m).1 = (if mnN (hrN S) 0 (m - 1) < 61 then nI (amN (hrN S) 0 (m - 1)) else -4) := by
  obtain ⟨k, rfl⟩ : ∃ k, m = k + 1 := ⟨m - 1, by omega⟩
  clear hm
  rw [Nat.add_sub_cancel]
  induction k with
  | zero =>
    show (next1 S (-4, 61) 0).2 = min 61 (hrN S 0) ∧ (next1 S (-4, 61) 0).1 = (if hrN S 0 < 61 then nI 0 else -4)
    have e : next1 S (-4, 61) 0 = if hrN S 0 < 61 then (nI 0, hrN S 0) else (-4, 61) := rfl
    rw [e]
    by_cases q : hrN S 0 < 61
    · rw [if_pos q, if_pos q, Nat.min_eq_right (by omega)]; exact ⟨rfl, rfl⟩
    · rw [if_neg q, if_neg q, Nat.min_eq_left (by omega)]; exact ⟨rfl, rfl⟩
  | succ k ih =>
    rw [itr_r, Nat.zero_add]
    have e : ∀ q : Int32 × Nat, next1 S q (k + 1) = if hrN S (k + 1) < q.2 then (nI (k + 1), hrN S (k + 1)) else q := fun q => rfl
    obtain ⟨i1, i2⟩ := ih
    have e1 : mnN (hrN S) 0 (k + 1) = min (mnN (hrN S) 0 k) (hrN S (k + 1)) := by
      show min (mnN (hrN S) 0 k) (hrN S (0 + k + 1)) = _
      rw [Nat.zero_add]
    have e2 : amN (hrN S) 0 (k + 1) = if hrN S (k + 1) < mnN (hrN S) 0 k then k + 1 else amN (hrN S) 0 k := by
      show (if hrN S (0 + k + 1) < mnN (hrN S) 0 k then 0 + k + 1 else amN (hrN S) 0 k) = _
      rw [Nat.zero_add]
    rw [e, i1, e1, e2]
    by_cases q : hrN S (k + 1) < min 61 (mnN (hrN S) 0 k)
    · rw [if_pos q, if_pos (show hrN S (k + 1) < mnN (hrN S) 0 k by omega), Nat.min_eq_right (show hrN S (k + 1) ≤ mnN (hrN S) 0 k by omega), Nat.min_eq_right (by omega), if_pos (by omega)]
      exact ⟨rfl, rfl⟩
    · rw [if_neg q, i2]
      by_cases q2 : mnN (hrN S) 0 k < 61
      · rw [if_pos q2, Nat.min_eq_left (show mnN (hrN S) 0 k ≤ hrN S (k + 1) by omega), if_pos q2, if_neg (by omega)]
        exact ⟨i1, rfl⟩
      · rw [if_neg q2, if_neg (by omega)]
        exact ⟨by rw [i1]; omega, rfl⟩
/-- nobody is out till hour k -/
theorem next_none {S : St} (hn : sN S ≤ 10) (h : ∀ o, o < sN S → hasB (sW S) o = true → hasB (sW (hoursS S 60)) o = true) : nextF S = -4 := by
  unfold nextF
  rcases Nat.eq_zero_or_pos (sN S) with z | z
  · rw [z]; rfl
  · rw [(next_sp z).2, if_neg]
    obtain ⟨-, a2, a3, -⟩ := amN_sp (hrN S) 0 (sN S - 1)
    rw [← a3]
    rw [Nat.zero_add] at a2
    generalize amN (hrN S) 0 (sN S - 1) = j at a2
    unfold hrN
    split
    · rename_i q
      have h1 := h j (by omega) q
      intro y
      have h2 := (till_out hn (show j < 10 by omega) (Nat.le_refl 60)).mpr (by omega)
      rw [h1] at h2
      cases h2
    · omega
/-- the first hour in which one goes: the least of those who do -/
theorem next_at {S : St} (hg : Good S) {k : Nat} (hk1 : 1 ≤ k) (hk : k ≤ 60) (h0 : ∀ o, o < sN S → hasB (sW S) o = true → hasB (sW (hoursS S (k - 1))) o = true) (h1 : ¬ goneF S k = 0) :
    ¬ firstN (hasB (goneF S k)) 0 10 = 10 ∧ nextF S = nI (firstN (hasB (goneF S k)) 0 10) := by
  have hn := hg.1
  have hex : ∃ o, o < sN S ∧ hasB (goneF S k) o = true := by
    refine Classical.byContradiction fun hne => h1 ((gone_0 hg).mpr fun o ho h2 => ?_)
    cases q : hasB (sW (hoursS S k)) o
    · refine absurd ⟨o, ho, ?_⟩ hne
      rw [gone_bit (by omega), h2, q]; rfl
    · rfl
  obtain ⟨o, ho, hgo⟩ := hex
  have hgone : ∀ j, j < sN S → (hasB (goneF S k) j = true ↔ hrN S j ≤ k) := by
    intro j hj
    rw [gone_bit (by omega), Bool.and_eq_true]
    have t := till_out hn (show j < 10 by omega) hk
    unfold hrN
    constructor
    · rintro ⟨a, b⟩
      rw [if_pos a]
      exact t.mp (by simpa using b)
    · intro a
      split at a
      · rename_i q
        exact ⟨q, by rw [t.mpr a]; rfl⟩
      · omega
  have hge : ∀ j, j < sN S → k ≤ hrN S j := by
    intro j hj
    unfold hrN
    split
    · rename_i q
      have h2 := h0 j hj q
      rcases Nat.lt_or_ge (tillN S j) k with y | y
      · have h3 := (till_out hn (show j < 10 by omega) (show k - 1 ≤ 60 by omega)).mpr (by omega)
        rw [h2] at h3
        cases h3
      · exact y
    · omega
  have hf := firstN_ge (hasB (goneF S k)) 10 0
  have hlt : firstN (hasB (goneF S k)) 0 10 ≤ o := by
    rcases Nat.lt_or_ge o (firstN (hasB (goneF S k)) 0 10) with y | y
    · have := firstN_bf 10 0 o (Nat.zero_le _) y
      rw [hgo] at this
      cases this
    · exact y
  have hat := firstN_at (p := hasB (goneF S k)) 10 0 (by omega)
  refine ⟨by omega, ?_⟩
  have u := amN_un (f := hrN S) (i := 0) (n := sN S - 1) (j := firstN (hasB (goneF S k)) 0 10) (Nat.zero_le _) (by omega) (fun j _ hj => by
    have a := (hgone _ (by omega)).mp hat
    have b := hge j (by omega)
    omega) (fun j _ hj => by
    have a := (hgone (firstN (hasB (goneF S k)) 0 10) (by omega)).mp hat
    have b := hge j (by omega)
    have c : ¬ hrN S j ≤ k := fun y => by
      have := (hgone j (by omega)).mpr y
      rw [firstN_bf 10 0 j (Nat.zero_le _) hj] at this
      cases this
    omega)
  unfold nextF
  rw [(next_sp (by omega)).2, u.1, u.2, if_pos]
  have a := (hgone (firstN (hasB (goneF S k)) 0 10) (by omega)).mp hat
  omega

