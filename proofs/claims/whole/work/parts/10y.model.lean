/-! ===== the text of a string ===== -/
def hereF (z : Sh) (p : Nat) : Int32 := if p < zN z then zC z p else -999
def isD (z : Sh) (p : Nat) : Bool := decide (48 ≤ hereF z p) && decide (hereF z p ≤ 57)
def dgN (z : Sh) (p : Nat) : Nat := nc (hereF z p - 48)
def ndC (c : Int32) : Nat := if c = 111 ∨ c = 115 ∨ c = 116 then 1 else if c = 98 ∨ c = 104 then 2 else if c = 117 then 3 else if c = 119 then 4 else 0
def ndF (z : Sh) (p : Nat) : Nat := ndC (hereF z p)
def qdF (z : Sh) (p : Nat) : Nat := firstN (fun j => !isD z j) (p + 1) (ndF z p)
def okS (z : Sh) (p : Nat) : Bool := decide (0 < ndF z p) && (decide (qdF z p = p + 1 + ndF z p) && decide (hereF z (qdF z p) = 59))
def bdF (z : Sh) (p : Nat) : Nat := if ndF z p = 0 then p else qdF z p
def nxF (z : Sh) (p : Nat) : Nat := p + ndF z p + 2
def rdN (z : Sh) : Nat → Nat → Option Nat
  | 0, _ => none
  | e + 1, p => if okS z p = true then (if nxF z p < zN z then rdN z e (nxF z p) else none) else some (bdF z p)
def numA (z : Sh) (p : Nat) : Int32 := if hereF z p = 104 then nI (10 * dgN z (p + 1) + dgN z (p + 2)) else nI (dgN z (p + 1))
def numB (z : Sh) (p : Nat) : Int32 := if hereF z p = 119 then nI (10 * (10 * dgN z (p + 2) + dgN z (p + 3)) + dgN z (p + 4)) else nI (dgN z (p + 2))
def numE (z : Sh) (p : Nat) : Int32 := nI (dgN z (p + 3))
def stpB (S : St) (c a b e : Int32) : Bool :=
  if c = 98 then decide (a ≤ 7) && decide (sN S < 10) else if c = 115 then true else if c = 117 then decide (a < 5) && (decide (b ≤ e) && hasF (sN S) e) else if c = 104 then hoursC S a else hasF (sN S) a && (decide (¬ c = 116) || decide (0 < sP S))
def stpS (S : St) (c a b e : Int32) : St :=
  if c = 98 then hungS S a b else if c = 115 then (sN S, sW S, sE S, a, sH S, sL S, sD S, sC S, sO S, sG S, sR S) else if c = 117 then useS S a (nc b) (nc e) else if c = 104 then hoursS S (nc a)
  else if c = 119 then (sN S, sW S, sE S, sP S, sH S, sL S, sD S, sC S, sO S, sG S, upd (sR S) (nc a) b) else if c = 111 then (sN S, sW S ^^^ bitI (nc a), sE S, sP S, sH S, sL S, sD S, sC S, sO S, sG S, sR S) else twS S (nc a)
def rnN (z : Sh) : Nat → St → Nat → Nat → Int32 × St
  | 0, S, _, k => (nI k, S)
  | f + 1, S, p, k => if p < zN z then (if stpB S (hereF z p) (numA z p) (numB z p) (numE z p) = true then rnN z f (stpS S (hereF z p) (numA z p) (numB z p) (numE z p)) (nxF z p) (k + 1) else (-2000 - nI p, S)) else (nI k, S)
def textF (S : St) (z : Sh) : Int32 := match rdN z 200 0 with
  | some q => -1000 - nI q
  | none => (rnN z 200 S 0 0).1
def textS (S : St) (z : Sh) : St := if 0 ≤ textF S z then (rnN z 200 S 0 0).2 else S
def stringF (S : St) (Z : Nat → Sh) (d : Int32) : Int32 := if wrongRowF Z d = 0 then (if zK (Z (nc d)) = 0 then textF S (Z (nc d)) else -12) else wrongRowF Z d
def stringS (S : St) (Z : Nat → Sh) (d : Int32) : St := if wrongRowF Z d = 0 then (if zK (Z (nc d)) = 0 then textS S (Z (nc d)) else S) else S
/-! digits -/
theorem isD_of {z : Sh} {p : Nat} (h : isD z p = true) : hereF z p = nI (48 + dgN z p) ∧ dgN z p ≤ 9 := by
  unfold isD at h
  obtain ⟨h1, h2⟩ := (Bool.and_eq_true _ _).mp h
  have h3 := of_decide_eq_true h1
  have h4 := of_decide_eq_true h2
  obtain ⟨k, a, b, e⟩ := (inI_iff (x := hereF z p) (lo := 48) (hi := 57) (by decide) (by decide)).mp (by unfold inI; rw [show nI 48 = (48 : Int32) from rfl, show nI 57 = (57 : Int32) from rfl, h1, h2]; rfl)
  have e2 : dgN z p = k - 48 := by
    unfold dgN
    rw [e, show (48 : Int32) = nI 48 from rfl, nI_subN a, nc_nI (by omega)]
  rw [e2, e]
  exact ⟨by congr 1; omega, by omega⟩
theorem dig_v {z : Sh} {p : Nat} (h : isD z p = true) (v : Nat) : nI (10 * v) + hereF z p - 48 = nI (10 * v + dgN z p) := by
  obtain ⟨h1, h2⟩ := isD_of h
  rw [h1, nI_add, show (48 : Int32) = nI 48 from rfl, nI_subN (by omega)]
  congr 1
  omega
def rdS (z : Sh) (q : Nat × Bool × Nat) (_ : Nat) : Nat × Bool × Nat := if (q.2.1 || !isD z q.1) = true then (q.1, true, 0) else (q.1 + 1, false, 10 * q.2.2 + dgN z q.1)
theorem rdS_t {z : Sh} {q : Nat × Bool × Nat} {i : Nat} (h1 : q.2.1 = false) (h2 : isD z q.1 = true) : rdS z q i = (q.1 + 1, false, 10 * q.2.2 + dgN z q.1) := by unfold rdS; rw [h1, h2, if_neg (by decide)]
theorem rdS_f {z : Sh} {q : Nat × Bool × Nat} {i : Nat} (h2 : isD z q.1 = false) : rdS z q i = (q.1, true, 0) := by unfold rdS; rw [h2, if_pos (by simp)]
theorem rdS_b {z : Sh} {q : Nat × Bool × Nat} {i : Nat} (h1 : q.2.1 = true) : rdS z q i = (q.1, true, 0) := by unfold rdS; rw [h1, Bool.true_or, if_pos rfl]
def rD (z : Sh) (q : Nat × Bool × Nat) (m : Nat) : Nat × Bool × Nat := itr (rdS z) (q.1, q.2.1, 0) 0 m
theorem rd_bad (z : Sh) : ∀ (m i p : Nat), itr (rdS z) (p, true, 0) i m = (p, true, 0)
  | 0, _, _ => rfl
  | m + 1, i, p => by rw [itr_s, rdS_b (q := (p, true, 0)) rfl]; exact rd_bad z m (i + 1) p
theorem rd_sp (z : Sh) : ∀ (m i p v : Nat), (itr (rdS z) (p, false, v) i m).1 = firstN (fun j => !isD z j) p m ∧ (itr (rdS z) (p, false, v) i m).2.1 = decide (firstN (fun j => !isD z j) p m < p + m)
  | 0, i, p, v => ⟨rfl, (decide_eq_false (Nat.lt_irrefl _)).symm⟩
  | m + 1, i, p, v => by
    rw [itr_s]
    cases h : isD z p
    · have e : firstN (fun j => !isD z j) p (m + 1) = p := if_pos (by show (!isD z p) = true; rw [h]; rfl)
      rw [e, rdS_f (q := (p, false, v)) h, rd_bad]
      exact ⟨rfl, (decide_eq_true (by omega)).symm⟩
    · have e : firstN (fun j => !isD z j) p (m + 1) = firstN (fun j => !isD z j) (p + 1) m := if_neg (by show ¬ (!isD z p) = true; rw [h]; decide)
      rw [e, rdS_t (q := (p, false, v)) rfl h, show p + (m + 1) = p + 1 + m by omega]
      exact rd_sp z m (i + 1) (p + 1) (10 * v + dgN z p)
theorem firstN_add (p : Nat → Bool) : ∀ (a b i : Nat), firstN p i (a + b) = if firstN p i a = i + a then firstN p (i + a) b else firstN p i a
  | 0, b, i => by rw [Nat.zero_add]; exact (if_pos rfl).symm
  | a + 1, b, i => by
    rw [show a + 1 + b = (a + b) + 1 by omega]
    by_cases h : p i = true
    · have e1 : firstN p i (a + b + 1) = i := if_pos h
      have e2 : firstN p i (a + 1) = i := if_pos h
      rw [e1, e2, if_neg (by omega)]
    · have e1 : firstN p i (a + b + 1) = firstN p (i + 1) (a + b) := if_neg h
      have e2 : firstN p i (a + 1) = firstN p (i + 1) a := if_neg h
      rw [e1, e2, firstN_add p a b (i + 1), show i + (a + 1) = i + 1 + a by omega]
/-- digits read behind digits: as if at once -/
theorem rD_add (z : Sh) (p a b : Nat) (q : Nat × Bool × Nat) (h1 : q.1 = firstN (fun j => !isD z j) p a) (h2 : q.2.1 = decide (firstN (fun j => !isD z j) p a < p + a)) (hb : 0 < b) :
    (rD z q b).1 = firstN (fun j => !isD z j) p (a + b) ∧ (rD z q b).2.1 = decide (firstN (fun j => !isD z j) p (a + b) < p + (a + b)) := by
  obtain ⟨q1, q2, q3⟩ := q
  simp only at h1 h2
  have hg := firstN_ge (fun j => !isD z j) a p
  unfold rD
  rw [firstN_add]
  by_cases e : firstN (fun j => !isD z j) p a = p + a
  · rw [if_pos e]
    rw [e] at h1 h2
    rw [decide_eq_false (Nat.lt_irrefl _)] at h2
    subst h1; subst h2
    have := rd_sp z b 0 (p + a) 0
    rw [show p + (a + b) = p + a + b by omega]
    exact this
  · rw [if_neg e]
    rw [decide_eq_true (by omega)] at h2
    subst h1; subst h2
    rw [rd_bad]
    exact ⟨rfl, (decide_eq_true (by omega)).symm⟩
theorem firstN_all {p : Nat → Bool} : ∀ (m i : Nat), firstN p i m = i + m → ∀ j, i ≤ j → j < i + m → p j = false
  | 0, i, h, j, h1, h2 => absurd h1 (by omega)
  | m + 1, i, h, j, h1, h2 => by
    cases hp : p i
    · have e : firstN p i (m + 1) = firstN p (i + 1) m := if_neg (by rw [hp]; decide)
      rw [e, show i + (m + 1) = i + 1 + m by omega] at h
      by_cases q : j = i
      · rw [q]; exact hp
      · exact firstN_all m (i + 1) h j (by omega) (by omega)
    · have e : firstN p i (m + 1) = i := if_pos hp
      omega
theorem rd_t {z : Sh} {p v i m : Nat} (h : isD z p = true) : itr (rdS z) (p, false, v) i (m + 1) = itr (rdS z) (p + 1, false, 10 * v + dgN z p) (i + 1) m := by
  rw [itr_s, rdS_t (q := (p, false, v)) rfl h]
theorem rD_e (z : Sh) (p x m : Nat) : rD z (p, false, x) m = itr (rdS z) (p, false, 0) 0 m := rfl
theorem rD_1 {z : Sh} {p : Nat} {x : Nat} (h : isD z p = true) : rD z (p, false, x) 1 = (p + 1, false, dgN z p) := by
  rw [rD_e, show (1 : Nat) = 0 + 1 from rfl, rd_t h, itr_0, Nat.mul_zero, Nat.zero_add]
theorem rD_2 {z : Sh} {p : Nat} {x : Nat} (h : isD z p = true) (h2 : isD z (p + 1) = true) : rD z (p, false, x) 2 = (p + 2, false, 10 * dgN z p + dgN z (p + 1)) := by
  have e : itr (rdS z) (p, false, 0) 0 (1 + 1) = (p + 1 + 1, false, 10 * (10 * 0 + dgN z p) + dgN z (p + 1)) := by
    rw [rd_t h, show (1 : Nat) = 0 + 1 from rfl, rd_t h2, itr_0]
  rw [Nat.mul_zero, Nat.zero_add] at e
  exact e
theorem rD_3 {z : Sh} {p : Nat} {x : Nat} (h : isD z p = true) (h2 : isD z (p + 1) = true) (h3 : isD z (p + 2) = true) : rD z (p, false, x) 3 = (p + 3, false, 10 * (10 * dgN z p + dgN z (p + 1)) + dgN z (p + 2)) := by
  have e : itr (rdS z) (p, false, 0) 0 (0 + 1 + 1 + 1) = (p + 1 + 1 + 1, false, 10 * (10 * (10 * 0 + dgN z p) + dgN z (p + 1)) + dgN z (p + 1 + 1)) := by
    rw [rd_t h, rd_t h2, rd_t (show isD z (p + 1 + 1) = true from h3), itr_0]
  rw [show 10 * 0 + dgN z p = dgN z p by omega] at e
  exact e
/-! the numbers of a statement -/
def nq1 (z : Sh) (c : Int32) (p : Nat) : Nat × Bool × Nat := rD z (p, false, 0) (if c = 104 then 2 else 1)
def nq2 (z : Sh) (c : Int32) (p : Nat) : Nat × Bool × Nat := if c = 98 ∨ c = 117 then rD z (nq1 z c p) 1 else nq1 z c p
def nq3 (z : Sh) (c : Int32) (p : Nat) : Nat × Bool × Nat := if c = 119 then rD z (nq2 z c p) 3 else nq2 z c p
def nq4 (z : Sh) (c : Int32) (p : Nat) : Nat × Bool × Nat := if c = 117 then rD z (nq3 z c p) 1 else nq3 z c p
def ng1 (z : Sh) (c : Int32) (p i : Nat) (T : Nat → Int32) : Nat → Int32 := upd T i (nI (nq1 z c p).2.2)
def ng2 (z : Sh) (c : Int32) (p i : Nat) (T : Nat → Int32) : Nat → Int32 := if c = 98 ∨ c = 117 then upd (ng1 z c p i T) (i + 1) (nI (nq2 z c p).2.2) else ng1 z c p i T
def ng3 (z : Sh) (c : Int32) (p i : Nat) (T : Nat → Int32) : Nat → Int32 := if c = 119 then upd (ng2 z c p i T) (i + 1) (nI (nq3 z c p).2.2) else ng2 z c p i T
def ng4 (z : Sh) (c : Int32) (p i : Nat) (T : Nat → Int32) : Nat → Int32 := if c = 117 then upd (ng3 z c p i T) (i + 2) (nI (nq4 z c p).2.2) else ng3 z c p i T
theorem nd_cs {c : Int32} (h : 0 < ndC c) : (c = 111 ∨ c = 115 ∨ c = 116) ∨ c = 98 ∨ c = 104 ∨ c = 117 ∨ c = 119 := by
  unfold ndC at h
  split at h
  · rename_i q; exact Or.inl q
  split at h
  · rename_i q; rcases q with q | q
    · exact Or.inr (Or.inl q)
    · exact Or.inr (Or.inr (Or.inl q))
  split at h
  · rename_i q; exact Or.inr (Or.inr (Or.inr (Or.inl q)))
  split at h
  · rename_i q; exact Or.inr (Or.inr (Or.inr (Or.inr q)))
  · exact absurd h (Nat.lt_irrefl _)
theorem nd_1 {c : Int32} (h : c = 111 ∨ c = 115 ∨ c = 116) : ndC c = 1 := if_pos h
theorem nd_98 : ndC 98 = 2 := by decide +kernel
theorem nd_104 : ndC 104 = 2 := by decide +kernel
theorem nd_117 : ndC 117 = 3 := by decide +kernel
theorem nd_119 : ndC 119 = 4 := by decide +kernel
theorem ne_1 {c : Int32} (h : c = 111 ∨ c = 115 ∨ c = 116) : ¬ c = 104 ∧ ¬ (c = 98 ∨ c = 117) ∧ ¬ c = 119 ∧ ¬ c = 117 ∧ ¬ (c = 98 ∨ c = 117 ∨ c = 119) := by
  rcases h with rfl | rfl | rfl <;> decide
theorem nq_1 (z : Sh) {c : Int32} (p : Nat) (h : c = 111 ∨ c = 115 ∨ c = 116) : nq4 z c p = rD z (p, false, 0) 1 := by
  obtain ⟨h1, h2, h3, h4, -⟩ := ne_1 h
  unfold nq4 nq3 nq2 nq1
  rw [if_neg h4, if_neg h3, if_neg h2, if_neg h1]
theorem nq_98 (z : Sh) (p : Nat) : nq4 z 98 p = rD z (rD z (p, false, 0) 1) 1 := by
  unfold nq4 nq3 nq2 nq1
  rw [if_neg (show ¬ (98 : Int32) = 117 by decide), if_neg (show ¬ (98 : Int32) = 119 by decide), if_pos (show (98 : Int32) = 98 ∨ (98 : Int32) = 117 from Or.inl rfl), if_neg (show ¬ (98 : Int32) = 104 by decide)]
theorem nq_104 (z : Sh) (p : Nat) : nq4 z 104 p = rD z (p, false, 0) 2 := by
  unfold nq4 nq3 nq2 nq1
  rw [if_neg (show ¬ (104 : Int32) = 117 by decide), if_neg (show ¬ (104 : Int32) = 119 by decide), if_neg (show ¬ ((104 : Int32) = 98 ∨ (104 : Int32) = 117) by decide), if_pos (show (104 : Int32) = 104 from rfl)]
theorem nq2_117 (z : Sh) (p : Nat) : nq2 z 117 p = rD z (rD z (p, false, 0) 1) 1 := by
  unfold nq2 nq1
  rw [if_pos (show (117 : Int32) = 98 ∨ (117 : Int32) = 117 from Or.inr rfl), if_neg (show ¬ (117 : Int32) = 104 by decide)]
theorem nq_117 (z : Sh) (p : Nat) : nq4 z 117 p = rD z (rD z (rD z (p, false, 0) 1) 1) 1 := by
  unfold nq4 nq3
  rw [if_pos (show (117 : Int32) = 117 from rfl), if_neg (show ¬ (117 : Int32) = 119 by decide), nq2_117]
theorem nq3_119 (z : Sh) (p : Nat) : nq3 z 119 p = rD z (rD z (p, false, 0) 1) 3 := by
  unfold nq3 nq2 nq1
  rw [if_pos (show (119 : Int32) = 119 from rfl), if_neg (show ¬ ((119 : Int32) = 98 ∨ (119 : Int32) = 117) by decide), if_neg (show ¬ (119 : Int32) = 104 by decide)]
theorem nq_119 (z : Sh) (p : Nat) : nq4 z 119 p = rD z (rD z (p, false, 0) 1) 3 := by
  unfold nq4
  rw [if_neg (show ¬ (119 : Int32) = 117 by decide), nq3_119]
/-- how far the numbers are read -/
def farQ (z : Sh) (p m : Nat) (q : Nat × Bool × Nat) : Prop := q.1 = firstN (fun j => !isD z j) p m ∧ q.2.1 = decide (firstN (fun j => !isD z j) p m < p + m)
theorem farQ_0 (z : Sh) (p m : Nat) : farQ z p m (rD z (p, false, 0) m) := rd_sp z m 0 p 0
theorem farQ_s {z : Sh} {p a b : Nat} {q : Nat × Bool × Nat} (h : farQ z p a q) (hb : 0 < b) : farQ z p (a + b) (rD z q b) := rD_add z p a b q h.1 h.2 hb
theorem nq_sp (z : Sh) {c : Int32} (h : 0 < ndC c) (p : Nat) : farQ z p (ndC c) (nq4 z c p) := by
  rcases nd_cs h with hc | rfl | rfl | rfl | rfl
  · rw [nd_1 hc, nq_1 z p hc]; exact farQ_0 z p 1
  · rw [nd_98, nq_98]; exact farQ_s (farQ_0 z p 1) (by decide)
  · rw [nd_104, nq_104]; exact farQ_0 z p 2
  · rw [nd_117, nq_117]; exact farQ_s (farQ_s (farQ_0 z p 1) (by decide)) (by decide)
  · rw [nd_119, nq_119]; exact farQ_s (farQ_0 z p 1) (by decide)
/-- the numbers, where all are read -/
def ToldOk (c na nb ne : Int32) (T : Nat → Int32) (i : Nat) : Prop := T i = na ∧ (c = 98 ∨ c = 117 ∨ c = 119 → T (i + 1) = nb) ∧ (c = 117 → T (i + 2) = ne)
theorem ng_sp (z : Sh) {c : Int32} (h : 0 < ndC c) (p i : Nat) (T : Nat → Int32) (hc : hereF z p = c) (hd : ∀ j, p + 1 ≤ j → j < p + 1 + ndC c → isD z j = true) : ToldOk c (numA z p) (numB z p) (numE z p) (ng4 z c (p + 1) i T) i := by
  have d1 := hd (p + 1) (by omega) (by omega)
  rcases nd_cs h with hl | rfl | rfl | rfl | rfl
  · obtain ⟨h1, h2, h3, h4, h5⟩ := ne_1 hl
    have e : ng4 z c (p + 1) i T = upd T i (nI (rD z (p + 1, false, 0) 1).2.2) := by
      unfold ng4 ng3 ng2 ng1 nq1
      rw [if_neg h4, if_neg h3, if_neg h2, if_neg h1]
    have ea : numA z p = nI (dgN z (p + 1)) := by unfold numA; rw [hc, if_neg h1]
    rw [e, ea]
    refine ⟨by rw [pk_us, rD_1 d1], fun q => ?_, fun q => absurd q h4⟩
    rcases q with q | q | q
    · exact absurd (Or.inl q) h5
    · exact absurd (Or.inr (Or.inl q)) h5
    · exact absurd (Or.inr (Or.inr q)) h5
  · rw [nd_98] at hd
    have d2 := hd (p + 2) (by omega) (by omega)
    have e : ng4 z 98 (p + 1) i T = upd (upd T i (nI (rD z (p + 1, false, 0) 1).2.2)) (i + 1) (nI (rD z (rD z (p + 1, false, 0) 1) 1).2.2) := by
      unfold ng4 ng3 ng2 ng1 nq2 nq1
      rw [if_neg (show ¬ (98 : Int32) = 117 by decide), if_neg (show ¬ (98 : Int32) = 119 by decide), if_pos (show (98 : Int32) = 98 ∨ (98 : Int32) = 117 from Or.inl rfl), if_pos (show (98 : Int32) = 98 ∨ (98 : Int32) = 117 from Or.inl rfl), if_neg (show ¬ (98 : Int32) = 104 by decide)]
    have ea : numA z p = nI (dgN z (p + 1)) := by unfold numA; rw [hc, if_neg (show ¬ (98 : Int32) = 104 by decide)]
    have eb : numB z p = nI (dgN z (p + 2)) := by unfold numB; rw [hc, if_neg (show ¬ (98 : Int32) = 119 by decide)]
    rw [e, ea, eb]
    exact ⟨by rw [pk_un (by omega), pk_us, rD_1 d1], fun _ => by rw [pk_us, rD_1 d1, rD_1 d2], fun q => absurd q (by decide)⟩
  · rw [nd_104] at hd
    have d2 := hd (p + 2) (by omega) (by omega)
    have e : ng4 z 104 (p + 1) i T = upd T i (nI (rD z (p + 1, false, 0) 2).2.2) := by
      unfold ng4 ng3 ng2 ng1 nq1
      rw [if_neg (show ¬ (104 : Int32) = 117 by decide), if_neg (show ¬ (104 : Int32) = 119 by decide), if_neg (show ¬ ((104 : Int32) = 98 ∨ (104 : Int32) = 117) by decide), if_pos (show (104 : Int32) = 104 from rfl)]
    have ea : numA z p = nI (10 * dgN z (p + 1) + dgN z (p + 2)) := by unfold numA; rw [hc, if_pos rfl]
    rw [e, ea]
    exact ⟨by rw [pk_us, rD_2 d1 d2], fun q => absurd q (by decide), fun q => absurd q (by decide)⟩
  · rw [nd_117] at hd
    have d2 := hd (p + 2) (by omega) (by omega)
    have d3 := hd (p + 3) (by omega) (by omega)
    have e : ng4 z 117 (p + 1) i T = upd (upd (upd T i (nI (rD z (p + 1, false, 0) 1).2.2)) (i + 1) (nI (rD z (rD z (p + 1, false, 0) 1) 1).2.2)) (i + 2) (nI (rD z (rD z (rD z (p + 1, false, 0) 1) 1) 1).2.2) := by
      unfold ng4 ng3 ng2
      rw [if_pos (show (117 : Int32) = 117 from rfl), if_neg (show ¬ (117 : Int32) = 119 by decide), if_pos (show (117 : Int32) = 98 ∨ (117 : Int32) = 117 from Or.inr rfl), nq_117, nq2_117]
      unfold ng1 nq1
      rw [if_neg (show ¬ (117 : Int32) = 104 by decide)]
    have ea : numA z p = nI (dgN z (p + 1)) := by unfold numA; rw [hc, if_neg (show ¬ (117 : Int32) = 104 by decide)]
    have eb : numB z p = nI (dgN z (p + 2)) := by unfold numB; rw [hc, if_neg (show ¬ (117 : Int32) = 119 by decide)]
    rw [e, ea, eb]
    exact ⟨by rw [pk_un (by omega), pk_un (by omega), pk_us, rD_1 d1], fun _ => by rw [pk_un (by omega), pk_us, rD_1 d1, rD_1 d2], fun _ => by rw [pk_us, rD_1 d1, rD_1 d2, rD_1 d3]; rfl⟩
  · rw [nd_119] at hd
    have d2 := hd (p + 2) (by omega) (by omega)
    have d3 := hd (p + 3) (by omega) (by omega)
    have d4 := hd (p + 4) (by omega) (by omega)
    have e : ng4 z 119 (p + 1) i T = upd (upd T i (nI (rD z (p + 1, false, 0) 1).2.2)) (i + 1) (nI (rD z (rD z (p + 1, false, 0) 1) 3).2.2) := by
      unfold ng4 ng3 ng2
      rw [if_neg (show ¬ (119 : Int32) = 117 by decide), if_pos (show (119 : Int32) = 119 from rfl), if_neg (show ¬ ((119 : Int32) = 98 ∨ (119 : Int32) = 117) by decide), nq3_119]
      unfold ng1 nq1
      rw [if_neg (show ¬ (119 : Int32) = 104 by decide)]
    have ea : numA z p = nI (dgN z (p + 1)) := by unfold numA; rw [hc, if_neg (show ¬ (119 : Int32) = 104 by decide)]
    have eb : numB z p = nI (10 * (10 * dgN z (p + 2) + dgN z (p + 3)) + dgN z (p + 4)) := by unfold numB; rw [hc, if_pos rfl]
    rw [e, ea, eb]
    exact ⟨by rw [pk_un (by omega), pk_us, rD_1 d1], fun _ => by rw [pk_us, rD_1 d1, rD_3 d2 d3 d4], fun q => absurd q (by decide)⟩
theorem ng_off (z : Sh) (c : Int32) (p i : Nat) (T : Nat → Int32) {j : Nat} (h : j < i) : ng4 z c p i T j = T j := by
  have h1 : ng1 z c p i T j = T j := pk_un (by omega)
  have h2 : ng2 z c p i T j = T j := by
    unfold ng2; split
    · rw [pk_un (by omega)]; exact h1
    · exact h1
  have h3 : ng3 z c p i T j = T j := by
    unfold ng3; split
    · rw [pk_un (by omega)]; exact h2
    · exact h2
  unfold ng4; split
  · rw [pk_un (by omega)]; exact h3
  · exact h3
theorem isD_in {z : Sh} {p : Nat} : inF (hereF z p).toInt64 48 57 = isD z p := inF_I (hereF z p) 48 57
theorem rD_le (z : Sh) (q : Nat × Bool × Nat) : ∀ (m i : Nat) (v : Nat), (itr (rdS z) (q.1, q.2.1, v) i m).1 ≤ q.1 + m := by
  obtain ⟨q1, q2, q3⟩ := q
  intro m
  induction m generalizing q1 q2 with
  | zero => intro i v; exact Nat.le_refl _
  | succ m ih =>
    intro i v
    rw [itr_s]
    by_cases h : (q2 || !isD z q1) = true
    · have e : rdS z (q1, q2, v) i = (q1, true, 0) := if_pos h
      show (itr (rdS z) (rdS z (q1, q2, v) i) (i + 1) m).1 ≤ q1 + (m + 1)
      rw [e]
      have := ih q1 true (i + 1) 0
      simp only at this
      omega
    · have e : rdS z (q1, q2, v) i = (q1 + 1, false, 10 * v + dgN z q1) := if_neg h
      show (itr (rdS z) (rdS z (q1, q2, v) i) (i + 1) m).1 ≤ q1 + (m + 1)
      rw [e]
      have := ih (q1 + 1) false (i + 1) (10 * v + dgN z q1)
      simp only at this
      omega

