/-! all orders of steps: the reference's rows of found locks -/
def tkZ (f z : Zf) (k : Nat) : Zf := va_cpy f z (55 * k) 0 53
def smI (f z : Zf) (k : Nat) : Nat → Bool
  | 0 => true
  | i + 1 => smI f z k i && decide (f (55 * k + i) = z i)
def bkB (f : Zf) (bo bt : Int32) (k : Nat) : Bool := decide (f (55 * k + 53) = bo) && decide (f (55 * k + 53 + 1) = bt)
def samB (f z : Zf) (bo bt : Int32) (k : Nat) : Bool := bkB f bo bt k && smI f z k 53
def hasB (f z : Zf) (bo bt : Int32) : Nat → Bool
  | 0 => false
  | n + 1 => hasB f z bo bt n || samB f z bo bt n
def colF (f z : Zf) (bo bt : Int32) (n : Nat) : Zf := upd (upd (va_cpy z f 0 (55 * n) 53) (55 * n + 53) bo) (55 * n + 53 + 1) bt
def colB (f z : Zf) (bo bt : Int32) (n : Nat) : Bool := hasB f z bo bt n || !decide (n = 300)
def colR (f z : Zf) (bo bt : Int32) (n : Nat) : Zf := if hasB f z bo bt n = true then f else if n = 300 then f else colF f z bo bt n
def colN (f z : Zf) (bo bt : Int32) (n : Nat) : Nat := if hasB f z bo bt n = true then n else if n = 300 then n else n + 1
theorem smI_le {f z : Zf} {k : Nat} : ∀ {i j : Nat}, i ≤ j → smI f z k j = true → smI f z k i = true
  | i, 0, h, _ => by rw [show i = 0 by omega]; rfl
  | i, j + 1, h, e => by
    by_cases q : i = j + 1
    · rw [q]; exact e
    · simp only [smI, Bool.and_eq_true] at e
      exact smI_le (by omega) e.1
theorem sam_false {f z : Zf} {bo bt : Int32} {k i : Nat} (hi : i ≤ 53) (h : (bkB f bo bt k && smI f z k i) = false) : samB f z bo bt k = false := by
  cases hb : bkB f bo bt k
  · simp [samB, hb]
  · cases hs : smI f z k 53
    · simp [samB, hs]
    · rw [hb, smI_le hi hs] at h
      cases h
theorem hasB_of {f z : Zf} {bo bt : Int32} {k : Nat} : ∀ {n : Nat}, k < n → samB f z bo bt k = true → hasB f z bo bt n = true
  | 0, h, _ => absurd h (Nat.not_lt_zero k)
  | n + 1, h, e => by
    simp only [hasB, Bool.or_eq_true]
    by_cases q : k = n
    · rw [← q]; exact Or.inr e
    · exact Or.inl (hasB_of (by omega) e)
theorem tkZ_hi {f z : Zf} {k j : Nat} (h : 53 ≤ j) : tkZ f z k j = z j := by
  simp only [tkZ, va_cpy]
  rw [if_neg (by omega)]
theorem tkZ_lo {f z : Zf} {k j : Nat} (h : j < 53) : tkZ f z k j = f (55 * k + j) := by
  simp only [tkZ, va_cpy]
  rw [if_pos (by omega), Nat.sub_zero]
theorem tk_row {f f' z w : Zf} {k : Nat} (h1 : ∀ i : Nat, i < 53 → f' (55 * k + i) = f (55 * k + i)) (h2 : ∀ j : Nat, 53 ≤ j → w j = z j) : tkZ f' w k = tkZ f z k := by
  funext j
  rcases Nat.lt_or_ge j 53 with q | q
  · rw [tkZ_lo q, tkZ_lo q]; exact h1 j q
  · rw [tkZ_hi q, tkZ_hi q]; exact h2 j q
theorem colR_row {f z : Zf} {bo bt : Int32} {n k i : Nat} (hk : k < n) (hi : i < 55) : colR f z bo bt n (55 * k + i) = f (55 * k + i) := by
  unfold colR
  split
  · rfl
  · split
    · rfl
    · simp only [colF, upd, va_cpy]
      rw [if_neg (by omega), if_neg (by omega), if_neg (by omega)]
theorem colN_le {f z : Zf} {bo bt : Int32} {n : Nat} (h : n ≤ 300) : n ≤ colN f z bo bt n ∧ colN f z bo bt n ≤ 300 := by
  unfold colN
  split
  · omega
  · split <;> omega
/-- from the row k, t its lock: what one of both can do -/
def flA (f t : Zf) (k v p : Nat) : Bool := decide (f (55 * k + p) = 0) && !isLook t v
def flb (t : Zf) (v : Nat) : Int32 := bI (decide (chM t v v = 0))
def fF1 (f t : Zf) (k a n : Nat) : Zf := if flA f t k a 53 = true then colR f (chM t a) (flb t a) (f (55 * k + 53 + 1)) n else f
def fN1 (f t : Zf) (k a n : Nat) : Nat := if flA f t k a 53 = true then colN f (chM t a) (flb t a) (f (55 * k + 53 + 1)) n else n
def fK1 (f t : Zf) (k a n : Nat) : Bool := if flA f t k a 53 = true then colB f (chM t a) (flb t a) (f (55 * k + 53 + 1)) n else true
def fA2 (f t : Zf) (k a b n : Nat) : Bool := fK1 f t k a n && (decide (f (55 * k + 53 + 1) = 0) && !isLook t b)
def fF2 (f t : Zf) (k a b n : Nat) : Zf := if fA2 f t k a b n = true then colR (fF1 f t k a n) (chM t b) (f (55 * k + 53)) (flb t b) (fN1 f t k a n) else fF1 f t k a n
def fN2 (f t : Zf) (k a b n : Nat) : Nat := if fA2 f t k a b n = true then colN (fF1 f t k a n) (chM t b) (f (55 * k + 53)) (flb t b) (fN1 f t k a n) else fN1 f t k a n
def fK2 (f t : Zf) (k a b n : Nat) : Bool := if fA2 f t k a b n = true then colB (fF1 f t k a n) (chM t b) (f (55 * k + 53)) (flb t b) (fN1 f t k a n) else fK1 f t k a n
theorem fN1_le {f t : Zf} {k a n : Nat} (h : n ≤ 300) : n ≤ fN1 f t k a n ∧ fN1 f t k a n ≤ 300 := by
  unfold fN1
  split
  · exact colN_le h
  · omega
theorem fF1_row {f t : Zf} {k a n j i : Nat} (hj : j < n) (hi : i < 55) : fF1 f t k a n (55 * j + i) = f (55 * j + i) := by
  unfold fF1
  split
  · exact colR_row hj hi
  · rfl
theorem fN2_le {f t : Zf} {k a b n : Nat} (h : n ≤ 300) : n ≤ fN2 f t k a b n ∧ fN2 f t k a b n ≤ 300 := by
  have h1 := fN1_le (f := f) (t := t) (k := k) (a := a) h
  unfold fN2
  split
  · have h2 := colN_le (f := fF1 f t k a n) (z := chM t b) (bo := f (55 * k + 53)) (bt := flb t b) h1.2
    omega
  · exact h1
/-- the rows, how many, whether they have room: after j rows were followed -/
def orS (f z : Zf) (a b : Nat) : Nat → Zf × Nat × Bool
  | 0 => (colR f z 0 0 0, colN f z 0 0 0, colB f z 0 0 0)
  | j + 1 => (fF2 (orS f z a b j).1 (tkZ (orS f z a b j).1 z j) j a b (orS f z a b j).2.1, fN2 (orS f z a b j).1 (tkZ (orS f z a b j).1 z j) j a b (orS f z a b j).2.1, fK2 (orS f z a b j).1 (tkZ (orS f z a b j).1 z j) j a b (orS f z a b j).2.1)
theorem orS_le (f z : Zf) (a b : Nat) : ∀ j : Nat, (orS f z a b j).2.1 ≤ 300
  | 0 => (colN_le (f := f) (z := z) (bo := 0) (bt := 0) (n := 0) (by omega)).2
  | j + 1 => (fN2_le (orS_le f z a b j)).2
def OrOk (f z : Zf) (a b J : Nat) : Prop := (∀ j : Nat, j < J → j < (orS f z a b j).2.1 ∧ (orS f z a b j).2.2 = true) ∧ ((orS f z a b J).2.1 ≤ J ∨ (orS f z a b J).2.2 = false) ∧ (∀ j k : Nat, j ≤ J → k < (orS f z a b j).2.1 → Wf (tkZ (orS f z a b j).1 z k)) ∧ J ≤ 300
/-- both inside; nobody of those who go on can but look -/
def inB2 (t : Zf) (a b : Nat) : Bool := decide (t a = 4) && decide (t b = 4)
def stuB (f t : Zf) (k a b : Nat) : Bool := (decide (f (55 * k + 53) = 0) || decide (f (55 * k + 53 + 1) = 0)) && (decide (f (55 * k + 53) = 1) || isLook t a) && (decide (f (55 * k + 53 + 1) = 1) || isLook t b)
def cfN (f z : Zf) (a b : Nat) (w : Bool) : Nat → Int32
  | 0 => 0
  | k + 1 => cfN f z a b w k + bI (if w = true then inB2 (tkZ f z k) a b else stuB f (tkZ f z k) k a b)
def okO (x y w : Int32) : Bool := isV x && isV y && inB w 0 2 && !decide (x = y)
def ordA (f z : Zf) (x y w : Int32) (J : Nat) : Int32 :=
  if isV x = false ∨ isV y = false then -1
  else if inB w 0 2 = false ∨ x = y then -2
  else if (orS f z (ix x) (ix y) J).2.2 = false then -5
  else if w = 0 then nI (orS f z (ix x) (ix y) J).2.1
  else cfN (orS f z (ix x) (ix y) J).1 z (ix x) (ix y) (decide (w = 1)) (orS f z (ix x) (ix y) J).2.1
theorem rest_eq {z sp y : Zf} (h : ∀ j : Nat, 53 ≤ j → y j = z j) : va_cpy (va_cpy z sp 0 0 86) y 0 0 86 = z := by
  funext j
  simp only [va_cpy]
  rcases Nat.lt_or_ge j 86 with q | q
  · rw [if_pos (by omega), if_pos (by omega)]
    congr 1
    omega
  · rw [if_neg (by omega)]
    exact h j (by omega)
theorem or_lt {f z : Zf} {a b J k : Nat} (h : OrOk f z a b J) (hk : k ≤ J) (h1 : k < (orS f z a b k).2.1) (h2 : (orS f z a b k).2.2 = true) : k < J := by
  rcases Nat.lt_or_ge k J with q | q
  · exact q
  · rw [Nat.le_antisymm hk q] at h1 h2
    rcases h.2.1 with e | e
    · exact absurd h1 (by omega)
    · rw [e] at h2; cases h2
theorem or_eq {f z : Zf} {a b J k : Nat} (h : OrOk f z a b J) (hk : k ≤ J) (h1 : (orS f z a b k).2.1 ≤ k ∨ (orS f z a b k).2.2 = false) : k = J := by
  rcases Nat.lt_or_ge k J with q | q
  · have := h.1 k q
    rcases h1 with e | e
    · exact absurd this.1 (by omega)
    · rw [e] at this; exact absurd this.2 (by decide)
  · omega
