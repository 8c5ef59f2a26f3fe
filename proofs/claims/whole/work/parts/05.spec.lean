/-! ===== what the words of the document say, as functions of a string ===== -/
abbrev bitI (b : Nat) : Int32 := 1 <<< (nI b &&& 31)
def hasB (w : Int32) (b : Nat) : Bool := decide (w >>> (nI b &&& 31) &&& 1 = 1)
def hasF (n : Nat) (b : Int32) : Bool := decide (0 ≤ b) && decide (b < nI n)
def divs (dv h : Int32) : Bool := decide (0 < dv) && decide (h - h / dv * dv = 0)
def leadsF (S : St) (b : Nat) (h : Int32) : Bool :=
  if sO S b = 1 then hasB (sW S) b && hasB (sE S) b
  else if sO S b = 2 then hasB (sW S) b && (decide (sR S b < 10 * sG S b) || divs 2 h)
  else if sO S b = 3 then true
  else if sO S b = 4 then hasB (sW S) b && !divs (sG S b + 2) h
  else hasB (sW S) b
def lifeF (so fi : Int32) : Int32 :=
  if so = 2 then (60 + 10 * fi) / 2 else if so = 5 then 60 + 10 * fi - 20 else if so = 6 then 150 else if so = 7 then 2 * (60 + 10 * fi - 20) else 60 + 10 * fi
def glowF (so fi : Int32) : Int32 :=
  if so = 2 then 1 else if so = 3 then 0 else if so = 5 then 3 else if so = 6 then 4 + fi / 2 else if so = 7 then 5 else 4
def priceF (so fi : Int32) : Int32 :=
  if so = 1 then 1 else if so = 2 then fi + 2 else if so = 3 then 0 else if so = 4 then 7 else if so = 5 then 2 * fi else if so = 6 then 3 else if so = 7 then 2 * fi + 1 else fi
def failF (so fi : Int32) : Int32 :=
  if fi = 0 then -15 else if so = 2 ∨ so = 3 ∨ so = 6 then -15 else if so = 4 then 100 + fi else if so = 5 ∨ so = 7 then 200 + priceF so fi else fi
abbrev lifeS (S : St) (b : Nat) : Int32 := lifeF (sO S b) (sG S b)
abbrev glowS (S : St) (b : Nat) : Int32 := glowF (sO S b) (sG S b)
def brownF (S : St) (b : Nat) : Bool := decide (lifeS S b / 2 ≤ sR S b)
/-- n steps from i on -/
def itr {α : Type} (f : α → Nat → α) : α → Nat → Nat → α
  | a, _, 0 => a
  | a, i, n + 1 => itr f (f a i) (i + 1) n
theorem itr_0 {α : Type} (f : α → Nat → α) (a : α) (i : Nat) : itr f a i 0 = a := rfl
theorem itr_s {α : Type} (f : α → Nat → α) (a : α) (i n : Nat) : itr f a i (n + 1) = itr f (f a i) (i + 1) n := rfl
theorem itr_lt {α : Type} (f : α → Nat → α) (a : α) {i e : Nat} (h : i < e) : itr f a i (e - i) = itr f (f a i) (i + 1) (e - (i + 1)) := by
  obtain ⟨n, hn⟩ : ∃ n, e - i = n + 1 := ⟨e - i - 1, by omega⟩
  rw [hn, itr_s, show e - (i + 1) = n by omega]
theorem itr_ge {α : Type} (f : α → Nat → α) (a : α) {i e : Nat} (h : e ≤ i) : itr f a i (e - i) = a := by
  rw [show e - i = 0 by omega]; rfl
def allF (p : Nat → Bool) (i e : Nat) : Bool := itr (fun a b => a && p b) true i (e - i)
theorem itr_and_f (p : Nat → Bool) : ∀ (n i : Nat), itr (fun a b => a && p b) false i n = false
  | 0, _ => rfl
  | n + 1, i => by rw [itr_s, Bool.false_and]; exact itr_and_f p n (i + 1)
theorem allF_ge {p : Nat → Bool} {i e : Nat} (h : e ≤ i) : allF p i e = true := itr_ge _ _ h
theorem allF_lt {p : Nat → Bool} {i e : Nat} (h : i < e) : allF p i e = (p i && allF p (i + 1) e) := by
  unfold allF
  rw [itr_lt _ _ h]
  cases hp : p i
  · simp only [hp, Bool.and_false, Bool.false_and]; exact itr_and_f p _ _
  · simp only [Bool.true_and, hp]
/-- how many have it -/
def cntF (p : Nat → Bool) (a : Int32) (i e : Nat) : Int32 := itr (fun a b => if p b then a + 1 else a) a i (e - i)
theorem cntF_ge {p : Nat → Bool} {a : Int32} {i e : Nat} (h : e ≤ i) : cntF p a i e = a := itr_ge _ _ h
theorem cntF_lt {p : Nat → Bool} {a : Int32} {i e : Nat} (h : i < e) : cntF p a i e = cntF p (if p i then a + 1 else a) (i + 1) e := itr_lt _ _ h
def leadAll (S : St) (i e : Nat) (h : Int32) : Bool := allF (fun b => leadsF S b h) i e
theorem leadAll_ge {S : St} {i e : Nat} {hr : Int32} (h : e ≤ i) : leadAll S i e hr = true := allF_ge h
theorem leadAll_lt {S : St} {i e : Nat} {hr : Int32} (h : i < e) : leadAll S i e hr = (leadsF S i hr && leadAll S (i + 1) e hr) := allF_lt h
def wholeN (w : Int32) (i e : Nat) : Int32 := cntF (fun b => hasB w b) 0 i e
def burnsF (S : St) (h : Int32) : Bool := decide (0 < sN S) && leadAll S 0 (sN S) h
abbrev min9 (a b : Int32) : Int32 := if b < a then b else a
def voltsF (many times : Int32) : Int32 := if many ≤ 0 then 0 else 60 / many * times
theorem nI_le0 {n : Nat} (h : n < 2 ^ 31) : nI n ≤ 0 ↔ n = 0 := by
  constructor
  · intro q
    rcases Nat.eq_zero_or_pos n with z | z
    · exact z
    · exact absurd q (nI_nle z h)
  · rintro rfl
    decide
abbrev WR : Type := Int32 × (Nat → Int32)
/-- one bulb has burnt -/
def wear1 (so fi : Nat → Int32) (vo : Int32) (q : WR) (b : Nat) : WR :=
  if hasB q.1 b then (if lifeF (so b) (fi b) ≤ min9 (q.2 b + glowF (so b) (fi b) + vo) 999 then q.1 ^^^ bitI b else q.1, upd q.2 b (min9 (q.2 b + glowF (so b) (fi b) + vo) 999)) else q
def wearV (S : St) (i e : Nat) (times : Int32) : WR := itr (wear1 (sO S) (sG S) (voltsF (wholeN (sW S) i e) times)) (sW S, sR S) i (e - i)
def unseat1 (so fi : Nat → Int32) (hr : Int32) (se : Int32) (b : Nat) : Int32 := if so b = 1 ∧ divs (fi b + 3) hr = true then se &&& (bitI b ^^^ (-1)) else se
def unseatF (n : Nat) (so fi : Nat → Int32) (hr se : Int32) : Int32 := itr (unseat1 so fi hr) se 0 n
def hourB (S : St) : Bool := burnsF S (sH S + 1)
def hourQ (S : St) (times : Int32) : WR := if hourB S then wearV S 0 (sN S) times else (sW S, sR S)
def hourL (S : St) : Int32 := if hourB S then min9 (sL S + 1) 999 else sL S
def hourE (S : St) : Int32 := unseatF (sN S) (sO S) (sG S) (sH S + 1) (sE S)
/-- an hour -/
def hourS (S : St) (t : Int32) : St := (sN S, (hourQ S t).1, hourE S, sP S, sH S + 1, hourL S, sD S, sC S, sO S, sG S, (hourQ S t).2)
def hoursS (S : St) (n : Nat) : St := itr (fun S _ => hourS S 1) S 0 n
def frostS (S : St) (n : Nat) (fr : Int32) : St := itr (fun S k => hourS S (if hasB fr k then 2 else 1)) S 0 n
def partQ (S : St) (i e : Nat) (hr : Int32) : WR := if leadAll S i e hr then wearV S i e 1 else (sW S, sR S)
def partN (S : St) (i e : Nat) (hr : Int32) : Int32 := if leadAll S i e hr then wholeN (sW S) i e else 0
def cut1 (S : St) (k : Nat) : St := (sN S, (partQ S 0 k (sH S + 1)).1, sE S, sP S, sH S + 1, sL S, sD S, sC S, sO S, sG S, (partQ S 0 k (sH S + 1)).2)
def cutS (S : St) (k : Nat) : St := (sN S, (partQ (cut1 S k) k (sN S) (sH S + 1)).1, hourE S, sP S, sH S + 1, sL S, sD S, sC S, sO S, sG S, (partQ (cut1 S k) k (sN S) (sH S + 1)).2)
def cutN (S : St) (k : Nat) : Int32 := partN S 0 k (sH S + 1) + partN (cut1 S k) k (sN S) (sH S + 1)
def wornAll (n : Nat) (wo : Nat → Int32) : Int32 := itr (fun a b => a + wo b) 0 0 n
def faultsF (S : St) : Int32 := itr (fun a b => if leadsF S b (sH S + 1) then a else a ||| bitI b) 0 0 (sN S)
def brownsF (S : St) : Int32 := itr (fun a b => if brownF S b then a ||| bitI b else a) 0 0 (sN S)
def weak1 (S : St) (q : Int32 × Int32) (b : Nat) : Int32 × Int32 := if hasB (sW S) b = true ∧ (q.1 = -4 ∨ lifeS S b - sR S b < q.2) then (nI b, lifeS S b - sR S b) else q
def weakF (S : St) : Int32 := (itr (weak1 S) (-4, 0) 0 (sN S)).1
def absF (x : Int32) : Int32 := if 0 ≤ x then x else 0 - x
def tryF (a b : Int32) : Int32 := 8 + absF (a - b)
def wireF (i j : Int32) : Int32 := 6 + 2 * (j - i)
def toolT (hd tool i j : Int32) : Int32 :=
  if tool = 0 then 2 + absF (hd - i) else if tool = 1 then 1 + absF (hd - i) else if tool = 2 then 3 + (j - i) + absF (hd - i) else if tool = 3 then wireF i j + absF (hd - i) else tryF hd i
def tellsF (S : St) (tool : Int32) (i j : Nat) : Bool :=
  if tool = 0 then brownF S i else if tool = 1 then leadAll S 0 (sN S) (sH S + 1) else if tool = 2 then leadAll S i (j + 1) (sH S + 1)
  else if tool = 3 then leadAll S 0 i (sH S + 1) && leadAll S (j + 1) (sN S) (sH S + 1) else leadAll S 0 i (sH S + 1) && leadAll S (i + 1) (sN S) (sH S + 1)
def useE (tool se : Int32) (i : Nat) : Int32 := if tool = 1 then se ||| bitI i else se
def useD (tool : Int32) (i j : Nat) : Int32 := if tool = 2 ∨ tool = 3 then nI j else nI i
def useS (S : St) (tool : Int32) (i j : Nat) : St := (sN S, sW S, useE tool (sE S) i, sP S, sH S, sL S, useD tool i j, min9 (sC S + toolT (sD S) tool (nI i) (nI j)) 9999, sO S, sG S, sR S)
def useB (S : St) (tool : Int32) (i j : Nat) : Bool := tellsF (useS S tool i j) tool i j
def draw1 (q : WR) (b : Nat) : WR := (q.1 * 1103515245 + 12345, upd q.2 b (((q.1 * 1103515245 + 12345) &&& 2147483647) / 65536 - ((q.1 * 1103515245 + 12345) &&& 2147483647) / 65536 / 10 * 10))
def drawF (n : Nat) (z : Int32) (fi : Nat → Int32) : WR := itr draw1 (z, fi) 0 n
def oddsF (wo : Nat → Int32) (i e : Nat) : Int32 := itr (fun a b => a + (wo b + 1)) 0 i (e - i)
def strF (n : Nat) (a b : Int32) : Bool := hasF n a && (hasF n b && decide (a ≤ b))

