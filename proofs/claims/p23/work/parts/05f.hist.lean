/-! the other side's history: four states, by their addresses A j k and what they hold, h j -/
def hA (A : Nat → Nat → Nat) : Nat → Option Nat := fun j => if j < 4 then some (A j 0) else none
def rotA (A : Nat → Nat → Nat) : Nat → Nat → Nat := fun j => if j = 3 then A 0 else A (j + 1)
def rmA (A : Nat → Nat → Nat) (r : Nat) : Nat → Nat → Nat := if r = 4 then rotA A else A
def rmH (h : Nat → Zf) (z : Zf) (r : Nat) : Nat → Zf := fun j => if r = 4 then (if j = 3 then z else h (j + 1)) else if j = r then z else h j
def nxA (b : Bool) (A : Nat → Nat → Nat) (r : Nat) : Nat → Nat → Nat := if b = true then rmA A r else A
def nxH (b : Bool) (h : Nat → Zf) (z : Zf) (r : Nat) : Nat → Zf := if b = true then rmH h z r else h
theorem hA_rot (A : Nat → Nat → Nat) : va_up (va_up (va_up (va_up (hA A) 0 (some (A 1 0))) 1 (some (A 2 0))) 2 (some (A 3 0))) 3 (some (A 0 0)) = hA (rotA A) := by
  funext j
  simp only [va_up, hA, rotA]
  by_cases h3 : j = 3
  · subst h3; rfl
  · by_cases h2 : j = 2
    · subst h2; rfl
    · by_cases h1 : j = 1
      · subst h1; rfl
      · by_cases h0 : j = 0
        · subst h0; rfl
        · rw [if_neg h3, if_neg h2, if_neg h1, if_neg h0, if_neg (by omega), if_neg (by omega)]
