/-! the reference's object and what its calls answer, as functions -/
abbrev mO (q : Nat → Nat) (st ik ln sT fm bo bt : Int32) : List Value := [.ref (q 0), .ref (q 1), .ref (q 2), .int st, .ref (q 3), .int ik, .ref (q 4), .int ln, .ref (q 5), .ref (q 6), .ref (q 7), .ref (q 8), .ref (q 9), .int sT, .ref (q 10), .int fm, .int bo, .int bt]
def nxP (b : Bool) (p z : Zf) (st : Nat) : Zf := if b = true then recP p z st else p
def nxN (b : Bool) (st : Nat) : Nat := if b = true then recN st else st
def nxZ (b : Bool) (z w : Zf) : Zf := if b = true then w else z
theorem nxN_le {b : Bool} {st : Nat} (h : st ≤ 4) : nxN b st ≤ 4 := by
  unfold nxN; split
  · exact recN_le h
  · exact h
def okB (z : Zf) (x : Int32) : Bool := inB x 0 3 && !decide (0 < cntZ z 6)
def buildA (z : Zf) (x : Int32) : Int32 := if inB x 0 3 = false then -1 else if 0 < cntZ z 6 then -4 else z 60
def stepA (z : Zf) (x : Int32) : Int32 := if isV x = true then stM z (ix x) (ix x) else -1
def itS (z : Zf) (v : Nat) : Nat → Zf
  | 0 => z
  | n + 1 => stM (itS z v n) v
def stp (z : Zf) (v : Nat) : Bool := decide (z v = 4) || decide (z v = 0) || isLook z v
def GoOk (z : Zf) (v N : Nat) : Prop := 0 < N ∧ N < 1000 ∧ (∀ j : Nat, j ≤ N → Wf (itS z v j)) ∧ ∀ j : Nat, 0 < j → j ≤ N → stp (itS z v j) v = decide (j = N)
def okG (z : Zf) (x : Int32) : Bool := isV x && !isLook z (ix x)
def goA (z : Zf) (x : Int32) (N : Nat) : Int32 := if isV x = false then -1 else if isLook z (ix x) = true then -5 else nI N
def okH (z : Zf) (x : Int32) : Bool := !decide (x < 0) && !decide (x = z 61)
def shufA (z : Zf) (x : Int32) : Int32 := if x < 0 then -2 else if x = z 61 then -5 else z 61
/-- a lot -/
def lcg (x : Int32) : Int32 := (x.toInt64 * 1103515245 + 12345 - (x.toInt64 * 1103515245 + 12345) / 2147483648 * 2147483648).toInt32
def lotR (x y : Int32) : Int32 := (lcg y / 65536) - (lcg y / 65536) / bitsM x 6 * bitsM x 6
def lotM (x y : Int32) : Int32 := pickM x (lotR x y) 6
def drZ (z : Zf) (x : Int32) : Nat → Zf
  | 0 => z
  | n + 1 => stM (upd (drZ z x n) 61 (lcg (drZ z x n 61))) (ix (lotM x (drZ z x n 61)))
def okD (x n : Int32) : Bool := inB x 1 63 && inB n 1 200
def DrOk (z : Zf) (x : Int32) (n : Nat) : Prop := (¬ bitsM x 6 = 0) ∧ ∀ j : Nat, j < n → Wf (drZ z x j) ∧ ∃ v : Nat, v < 6 ∧ lotM x (drZ z x j 61) = nI v
def drawA (z : Zf) (x n : Int32) : Int32 := if okD x n = true then sumZ (drZ z x (ix n)) 74 6 - sumZ z 74 6 else -2
/-- rounds -/
def rdZ (z : Zf) : Nat → Zf
  | 0 => z
  | i + 1 => if rdZ z i i = 0 then rdZ z i else stM (rdZ z i) i
def frZ (z : Zf) : Nat → Zf
  | 0 => z
  | n + 1 => rdZ (frZ z n) 6
def FiOk (z : Zf) (N : Nat) : Prop := N < 1000 ∧ (∀ j i : Nat, j ≤ N → i ≤ 6 → Wf (rdZ (frZ z j) i)) ∧ (∀ j : Nat, j < N → 0 < cntZ (frZ z j) 6) ∧ ¬ 0 < cntZ (frZ z N) 6
def finA (z : Zf) (N : Nat) : Int32 := sumZ (frZ z N) 62 6 - sumZ z 62 6
def okF (z : Zf) : Bool := !decide (cntZ z 6 = 0)
def finishA (z : Zf) (N : Nat) : Int32 := if cntZ z 6 = 0 then -5 else finA z N
def lineA (z : Zf) (x : Int32) : Int32 := if x < 0 then -2 else if x < z 53 then z (54 + ix x) else -5
def cardA (z : Zf) (x : Int32) : Int32 := if inB x 0 6 = false then -1 else if z 60 = 1 then z (42 + ix x) else -5
def lookA (z : Zf) (x : Int32) : Int32 := if isV x = false then -1 else bI (isLook z (ix x))
def touchA (z : Zf) (x : Int32) : Int32 := if isV x = false then -1 else costM (z 60) (z (ix x))
def visA (z : Zf) (x w : Int32) : Int32 :=
  if isV x = false then -1
  else if w = 0 then z (ix x)
  else if w = 1 then z (62 + ix x)
  else if w = 2 then z (68 + ix x)
  else if w = 3 then z (74 + ix x)
  else if w = 4 then z (80 + ix x)
  else if w = 5 then (if z 60 = 0 ∧ ¬ z (6 + ix x) = -1 then z (6 + ix x) else -5)
  else if w = 6 then (if z 60 = 0 ∧ inB (z (ix x)) 2 3 = true then z (18 + ix x) else if z 60 = 1 ∧ ¬ z (ix x) < 3 then z (30 + ix x) else -5)
  else if w = 7 then (if z 60 = 1 then z (24 + ix x) else -5)
  else if w = 8 then (if z 60 = 2 ∧ 0 < z (ix x) then z (36 + ix x) else -5)
  else if w = 9 then (if z 60 = 0 then z (12 + ix x) else -5)
  else if w = 10 then plc z (ix x) (ix (z 53))
  else -2
def totA (z : Zf) (st ln : Nat) (w : Int32) : Int32 :=
  if w = 0 then z 60
  else if w = 1 then insM z 6
  else if w = 2 then (if 1 < z 60 ∨ z 49 = -1 then -5 else z 49)
  else if w = 3 then cntZ z 6
  else if w = 4 then atM z 2 6
  else if w = 5 then sumZ z 62 6
  else if w = 6 then sumZ z 68 6
  else if w = 7 then sumZ z 74 6
  else if w = 8 then sumZ z 80 6
  else if w = 9 then (if z 60 = 2 then z 50 else -5)
  else if w = 10 then (if z 60 = 2 then z 51 else -5)
  else if w = 11 then (if z 60 = 3 then z 52 else -5)
  else if w = 12 then z 61
  else if w = 13 then nI st
  else if w = 14 then nI ln
  else -2
