/-! ===== bits of a set ===== -/
theorem and1_b (y : Int32) : (y &&& 1 = 1) ↔ y.toBitVec.getLsbD 0 = true := by
  rw [← Int32.toBitVec_inj, Int32.toBitVec_and, show (1 : Int32).toBitVec = 1#32 from rfl]
  constructor
  · intro h
    have h2 := congrArg (fun z => BitVec.getLsbD z 0) h
    simpa using h2
  · intro h
    apply BitVec.eq_of_getLsbD_eq
    intro i hi
    rw [BitVec.getLsbD_and]
    by_cases q : i = 0
    · subst q; rw [h]; decide
    · have e : (1#32).getLsbD i = false := by simp [BitVec.getLsbD_one, q]
      rw [e, Bool.and_false]
theorem hasB_bit {b : Nat} (hb : b < 10) (w : Int32) : hasB w b = w.toBitVec.getLsbD b := by
  have hs : ∀ b, b < 10 → ((nI b &&& 31).toBitVec.smod 32).toNat = b := by decide +kernel
  have e : (w >>> (nI b &&& 31)).toBitVec.getLsbD 0 = w.toBitVec.getLsbD b := by
    rw [Int32.toBitVec_shiftRight]
    show (w.toBitVec.sshiftRight ((nI b &&& 31).toBitVec.smod 32).toNat).getLsbD 0 = _
    rw [hs b hb, BitVec.getLsbD_sshiftRight]
    have h1 : b + 0 < 32 := by omega
    rw [if_pos h1, Nat.add_zero]
    rfl
  unfold hasB
  rw [← e]
  by_cases q : (w >>> (nI b &&& 31)).toBitVec.getLsbD 0 = true
  · rw [q]; exact decide_eq_true ((and1_b _).mpr q)
  · have q2 : (w >>> (nI b &&& 31)).toBitVec.getLsbD 0 = false := by simpa using q
    rw [q2]; exact decide_eq_false (fun z => q ((and1_b _).mp z))
theorem bitI_bit : ∀ b, b < 10 → ∀ j, j < 10 → (bitI b).toBitVec.getLsbD j = decide (j = b) := by decide +kernel
theorem bitI_hi : ∀ b, b < 10 → ∀ j, j < 32 → 10 ≤ j → (bitI b).toBitVec.getLsbD j = false := by decide +kernel
theorem m1_bit : ∀ j, j < 32 → (-1 : Int32).toBitVec.getLsbD j = true := by decide +kernel
theorem hasB_or {w : Int32} {b j : Nat} (hb : b < 10) (hj : j < 10) : hasB (w ||| bitI b) j = (hasB w j || decide (j = b)) := by
  rw [hasB_bit hj, hasB_bit hj, Int32.toBitVec_or, BitVec.getLsbD_or, bitI_bit b hb j hj]
theorem hasB_xor {w : Int32} {b j : Nat} (hb : b < 10) (hj : j < 10) : hasB (w ^^^ bitI b) j = (hasB w j ^^ decide (j = b)) := by
  rw [hasB_bit hj, hasB_bit hj, Int32.toBitVec_xor, BitVec.getLsbD_xor, bitI_bit b hb j hj]
theorem hasB_clr {w : Int32} {b j : Nat} (hb : b < 10) (hj : j < 10) : hasB (w &&& (bitI b ^^^ (-1))) j = (hasB w j && !decide (j = b)) := by
  rw [hasB_bit hj, hasB_bit hj, Int32.toBitVec_and, BitVec.getLsbD_and, Int32.toBitVec_xor, BitVec.getLsbD_xor, bitI_bit b hb j hj, m1_bit j (by omega)]
  cases decide (j = b) <;> rfl
/-- no bits from n on -/
def BN (n : Nat) (v : Int32) : Prop := ∀ b, n ≤ b → b < 32 → v.toBitVec.getLsbD b = false
theorem BN_clr {n : Nat} {v : Int32} (h : BN n v) (m : Int32) : BN n (v &&& m) := fun b h1 h2 => by
  rw [Int32.toBitVec_and, BitVec.getLsbD_and, h b h1 h2, Bool.false_and]
theorem BN_0 {n : Nat} (hn : n ≤ 10) {v : Int32} (h : BN n v) (h0 : ∀ b, b < n → hasB v b = false) : v = 0 := by
  apply Int32.toBitVec_inj.mp
  apply BitVec.eq_of_getLsbD_eq
  intro i hi
  rw [show ((0 : Int32).toBitVec).getLsbD i = false from by simp]
  rcases Nat.lt_or_ge i n with q | q
  · rw [← hasB_bit (by omega)]; exact h0 i q
  · exact h i q hi
theorem BN_lt {n s : Nat} (hs : s < 2 ^ n) (hn : n ≤ 10) : BN n (nI s) := fun b h1 h2 => by
  show (BitVec.ofNat 32 s).getLsbD b = false
  rw [BitVec.getLsbD_ofNat, Nat.testBit_lt_two_pow (Nat.lt_of_lt_of_le hs (Nat.pow_le_pow_right (by decide) h1)), Bool.and_false]
/-! ===== the members of a set, by numbers ===== -/
def mc (v : Int32) : Nat → Nat
  | 0 => 0
  | b + 1 => if hasB v b = true then mc v b + 1 else mc v b
def mf (v : Int32) : Nat → Nat → Nat
  | 0, _ => 0
  | b + 1, j => if hasB v b = true ∧ j = mc v b then b else mf v b j
theorem mc_t {v : Int32} {b : Nat} (h : hasB v b = true) : mc v (b + 1) = mc v b + 1 := if_pos h
theorem mc_f {v : Int32} {b : Nat} (h : hasB v b = false) : mc v (b + 1) = mc v b := if_neg (by rw [h]; exact Bool.false_ne_true)
theorem mc_s (v : Int32) (b : Nat) : mc v b ≤ mc v (b + 1) := by
  cases h : hasB v b
  · rw [mc_f h]; exact Nat.le_refl _
  · rw [mc_t h]; exact Nat.le_succ _
theorem mc_mono (v : Int32) {b n : Nat} (h : b ≤ n) : mc v b ≤ mc v n := by
  induction n with
  | zero => rw [show b = 0 by omega]; exact Nat.le_refl _
  | succ n ih =>
    rcases Nat.lt_or_ge b (n + 1) with q | q
    · exact Nat.le_trans (ih (by omega)) (mc_s v n)
    · rw [show b = n + 1 by omega]; exact Nat.le_refl _
theorem mc_le (v : Int32) : ∀ n, mc v n ≤ n
  | 0 => Nat.le_refl _
  | n + 1 => by
    have h := mc_le v n
    cases q : hasB v n
    · rw [mc_f q]; omega
    · rw [mc_t q]; omega
theorem mf_st {v : Int32} {b n j : Nat} (hj : j < mc v b) (h : b ≤ n) : mf v n j = mf v b j := by
  induction n with
  | zero => rw [show b = 0 by omega]
  | succ n ih =>
    rcases Nat.lt_or_ge b (n + 1) with q | q
    · have h2 := mc_mono v (show b ≤ n by omega)
      show (if hasB v n = true ∧ j = mc v n then n else mf v n j) = _
      rw [if_neg (fun z => by omega)]
      exact ih (by omega)
    · rw [show b = n + 1 by omega]
theorem mf_at {v : Int32} {b n : Nat} (hb : hasB v b = true) (h : b < n) : mf v n (mc v b) = b ∧ mc v b < mc v n := by
  have h1 : mc v b < mc v (b + 1) := by rw [mc_t hb]; omega
  refine ⟨?_, Nat.lt_of_lt_of_le h1 (mc_mono v h)⟩
  rw [mf_st h1 h]
  exact if_pos ⟨hb, rfl⟩
theorem mf_in {v : Int32} : ∀ (n i : Nat), i < mc v n → mf v n i < n ∧ hasB v (mf v n i) = true ∧ mc v (mf v n i) = i
  | 0, i, h => absurd h (Nat.not_lt_zero _)
  | n + 1, i, h => by
    by_cases q : hasB v n = true ∧ i = mc v n
    · have e : mf v (n + 1) i = n := if_pos q
      rw [e]
      exact ⟨by omega, q.1, q.2.symm⟩
    · have e : mf v (n + 1) i = mf v n i := if_neg q
      have h2 : i < mc v n := by
        cases z : hasB v n
        · rw [mc_f z] at h; exact h
        · rw [mc_t z] at h
          have : i ≠ mc v n := fun y => q ⟨z, y⟩
          omega
      obtain ⟨h3, h4⟩ := mf_in n i h2
      rw [e]
      exact ⟨by omega, h4⟩
def rmF (f : Nat → Nat) (i : Nat) : Nat → Nat := fun j => if j < i then f j else f (j + 1)
theorem mc_ext {v w : Int32} : ∀ n, (∀ b, b < n → hasB w b = hasB v b) → mc w n = mc v n
  | 0, _ => rfl
  | n + 1, h => by
    have h1 := mc_ext n (fun b hb => h b (by omega))
    have h2 := h n (by omega)
    show (if hasB w n = true then mc w n + 1 else mc w n) = (if hasB v n = true then mc v n + 1 else mc v n)
    rw [h1, h2]
theorem mf_ext {v w : Int32} {j : Nat} : ∀ n, (∀ b, b < n → hasB w b = hasB v b) → mf w n j = mf v n j
  | 0, _ => rfl
  | n + 1, h => by
    have h1 := mf_ext (j := j) n (fun b hb => h b (by omega))
    have h2 := h n (by omega)
    have h3 := mc_ext n (fun b hb => h b (by omega))
    show (if hasB w n = true ∧ j = mc w n then n else mf w n j) = (if hasB v n = true ∧ j = mc v n then n else mf v n j)
    rw [h1, h2, h3]
/-- one less -/
theorem mb_rm {v w : Int32} {c : Nat} (hc : hasB v c = true) (hw : ∀ j, j < 10 → hasB w j = (hasB v j && !decide (j = c))) : ∀ n, c < n → n ≤ 10 → mc w n + 1 = mc v n ∧ ∀ j, j < mc w n → mf w n j = rmF (mf v n) (mc v c) j
  | 0, h, _ => absurd h (Nat.not_lt_zero _)
  | n + 1, h, h10 => by
    rcases Nat.lt_or_ge c n with q | q
    · obtain ⟨h1, h2⟩ := mb_rm hc hw n q (by omega)
      have hn : hasB w n = hasB v n := by rw [hw n (by omega), decide_eq_false (show ¬ n = c by omega)]; simp
      have h3 := (mf_at hc q).2
      cases z : hasB v n
      · have z2 : hasB w n = false := by rw [hn, z]
        rw [mc_f z, mc_f z2]
        refine ⟨h1, fun j hj => ?_⟩
        have e1 : mf w (n + 1) j = mf w n j := mf_st hj (by omega)
        rw [e1, h2 j hj]
        unfold rmF
        rw [mf_st (b := n) (n := n + 1) (show j < mc v n by omega) (by omega), mf_st (b := n) (n := n + 1) (show j + 1 < mc v n by omega) (by omega)]
      · have z2 : hasB w n = true := by rw [hn, z]
        rw [mc_t z, mc_t z2]
        refine ⟨by omega, fun j hj => ?_⟩
        rcases Nat.lt_or_ge j (mc w n) with y | y
        · have e1 : mf w (n + 1) j = mf w n j := mf_st y (by omega)
          rw [e1, h2 j y]
          unfold rmF
          rw [mf_st (b := n) (n := n + 1) (show j < mc v n by omega) (by omega), mf_st (b := n) (n := n + 1) (show j + 1 < mc v n by omega) (by omega)]
        · have e0 : j = mc w n := by omega
          have e1 : mf w (n + 1) j = n := if_pos ⟨z2, e0⟩
          rw [e1]
          unfold rmF
          rw [if_neg (by omega), show j + 1 = mc v n by omega]
          exact (if_pos ⟨z, rfl⟩).symm
    · have e : c = n := by omega
      subst e
      have z2 : hasB w c = false := by rw [hw c (by omega), decide_eq_true rfl]; simp
      have hlow : ∀ b, b < c → hasB w b = hasB v b := fun b hb => by rw [hw b (by omega), decide_eq_false (show ¬ b = c by omega)]; simp
      rw [mc_t hc, mc_f z2, mc_ext c hlow]
      refine ⟨rfl, fun j hj => ?_⟩
      have e1 : mf w (c + 1) j = mf w c j := mf_st (by rw [mc_ext c hlow]; exact hj) (by omega)
      rw [e1, mf_ext c hlow]
      unfold rmF
      rw [if_pos hj, mf_st (b := c) (n := c + 1) hj (by omega)]
/-- how many: the count of the bits -/
theorem wholeN_mc (v : Int32) : ∀ n, wholeN v 0 n = nI (mc v n) := by
  have key : ∀ (k i : Nat), itr (fun a b => if hasB v b then a + 1 else a) (nI (mc v i)) i k = nI (mc v (i + k)) := by
    intro k
    induction k with
    | zero => intro i; rfl
    | succ k ih =>
      intro i
      rw [itr_s]
      cases z : hasB v i
      · rw [if_neg Bool.false_ne_true, ← mc_f z, ih (i + 1), show i + 1 + k = i + (k + 1) by omega]
      · rw [if_pos rfl, nI_1, ← mc_t z, ih (i + 1), show i + 1 + k = i + (k + 1) by omega]
  intro n
  have h := key n 0
  rw [Nat.zero_add] at h
  exact h
theorem mc_BN {n : Nat} {v : Int32} (h : BN n v) : ∀ m, n ≤ m → m ≤ 10 → mc v m = mc v n
  | 0, h1, _ => by rw [show n = 0 by omega]
  | m + 1, h1, h2 => by
    rcases Nat.lt_or_ge n (m + 1) with q | q
    · rw [mc_f (by rw [hasB_bit (by omega)]; exact h m (by omega) (by omega))]
      exact mc_BN h m (by omega) (by omega)
    · rw [show n = m + 1 by omega]
theorem popF_mc {n : Nat} {v : Int32} (h : BN n v) (hn : n ≤ 10) : popF v = nI (mc v n) := by
  show wholeN v 0 10 = _
  rw [wholeN_mc, mc_BN h 10 hn (Nat.le_refl _)]
theorem mc_0 {n : Nat} {v : Int32} (h : BN n v) (hn : n ≤ 10) : mc v n = 0 ↔ v = 0 := by
  constructor
  · intro z
    refine BN_0 hn h (fun b hb => ?_)
    cases q : hasB v b
    · rfl
    · have := (mf_at q hb).2
      omega
  · rintro rfl
    have key : ∀ n, n ≤ 10 → mc 0 n = 0 := by decide +kernel
    exact key n hn

