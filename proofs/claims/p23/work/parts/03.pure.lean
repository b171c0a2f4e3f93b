/-! The state as the reference holds it: z, 86 numbers; what a step does to it. -/
abbrev Zf : Type := Nat → Int32
def ix (x : Int32) : Nat := x.toNatClampNeg
theorem ix_nI {n : Nat} (h : n < 2 ^ 31) : ix (nI n) = n := nI_clamp h
def inB (x a b : Int32) : Bool := decide (a ≤ x) && decide (x ≤ b)
def isV (x : Int32) : Bool := inB x 0 5
def isLook (z : Zf) (v : Nat) : Bool :=
  if z 60 = 0 then (decide (z v = 3) && decide (z (12 + v) = 1)) || (decide (z v = 6) && decide (z (6 + v) = -1))
  else if z v = 3 then (if z 60 = 1 then decide (z (42 + ix (z (30 + v))) = 1) else if z 60 = 2 then !decide (z (36 + v) = z 51) else decide (z 52 = 1))
  else false
def costM (k s : Int32) : Int32 :=
  if k = 0 then (if s = 1 ∨ s = 2 ∨ s = 5 ∨ s = 7 then 1 else 0)
  else if k = 1 then (if s = 1 ∨ s = 3 then 1 else 0)
  else if k = 2 then 1
  else if s = 0 then 0 else 1
def chN (z : Zf) (v : Nat) : Zf :=
  if z v = 0 then upd (upd (upd z (6 + v) (-1)) (12 + v) 1) v 1
  else if z v = 1 then upd (upd (upd z (18 + v) (z 49)) v (if z 49 = -1 then 4 else 2)) 49 (nI v)
  else if z v = 2 then upd (upd z (6 + ix (z (18 + v))) (nI v)) v 3
  else if z v = 3 then upd (upd z (18 + v) (-1)) v 4
  else if z v = 4 then upd z v (if z (6 + v) = -1 then 5 else 7)
  else if z v = 5 then upd (upd z v (if z 49 = nI v then 0 else 6)) 49 (if z 49 = nI v then -1 else z 49)
  else if z v = 6 then upd z v 7
  else upd (upd z (12 + ix (z (6 + v))) 0) v 0
def chW (z : Zf) (v : Nat) : Zf :=
  if z v = 0 then upd (upd z (42 + ix (z (24 + v))) 1) v 1
  else if z v = 1 then upd (upd (upd z (30 + v) (z 49)) 49 (z (24 + v))) v 3
  else if z v = 3 then upd z v 4
  else upd (upd (upd (upd z (42 + ix (z (24 + v))) 0) (24 + v) (z (30 + v))) (30 + v) (-1)) v 0
def chT (z : Zf) (v : Nat) : Zf :=
  if z v = 0 then upd (upd (upd z (36 + v) (z 50)) 50 (z 50 + 1)) v 3
  else if z v = 3 then upd z v 4
  else upd (upd (upd z 51 (z 51 + 1)) (36 + v) (-1)) v 0
def chG (z : Zf) (v : Nat) : Zf := upd (upd z 52 (if z v = 0 then z 52 else if z v = 3 then 1 else 0)) v (if z v = 0 then 3 else if z v = 3 then 4 else 0)
def chM (z : Zf) (v : Nat) : Zf := if z 60 = 0 then chN z v else if z 60 = 1 then chW z v else if z 60 = 2 then chT z v else chG z v
/-- the last place of v in line, or -5 -/
def plc (z : Zf) (v : Nat) : Nat → Int32
  | 0 => -5
  | n + 1 => if z (54 + n) = nI v then nI n else plc z v n
/-- out of the places from p on the next one each, n times -/
def shl (z : Zf) (p : Nat) : Nat → Zf
  | 0 => z
  | n + 1 => upd (shl z p n) (54 + (p + n)) (shl z p n (54 + (p + n + 1)))
def sumZ (z : Zf) (c : Nat) : Nat → Int32
  | 0 => 0
  | n + 1 => sumZ z c n + z (c + n)
def cntZ (z : Zf) : Nat → Int32
  | 0 => 0
  | n + 1 => cntZ z n + (if z n = 0 then 0 else 1)
theorem cpy_0 {α : Type} (f g : Nat → α) (sp dp : Nat) : va_cpy f g sp dp 0 = g := by
  funext k
  simp only [va_cpy]
  rw [if_neg (by omega)]
theorem cpy_succ (f g : Nat → Int32) (sp dp n : Nat) : upd (va_cpy f g sp dp n) (dp + n) (f (sp + n)) = va_cpy f g sp dp (n + 1) := by
  funext k
  simp only [va_cpy, upd]
  by_cases h1 : k = dp + n
  · subst h1
    rw [if_pos rfl, if_pos (by omega)]
    congr 1
    omega
  · rw [if_neg h1]
    by_cases h2 : dp ≤ k ∧ k < dp + n
    · rw [if_pos h2, if_pos (by omega)]
    · rw [if_neg h2, if_neg (by omega)]
/-- one step, counted: the reference's makeStep -/
def st3 (z : Zf) (v : Nat) : Zf := upd (upd (upd z (62 + v) (z (62 + v) + 1)) (68 + v) (z (68 + v) + bI (isLook z v))) (80 + v) (z (80 + v) + costM (z 60) (z v))
def lvM (z : Zf) (v : Nat) : Zf := if plc z v (ix (z 53)) = -5 then z else shl (upd z 53 (z 53 - 1)) (ix (plc z v (ix (z 53)))) (ix (z 53) - 1 - ix (plc z v (ix (z 53))))
def st5 (z : Zf) (v : Nat) : Zf := if z v = 0 then lvM (upd z (74 + v) (z (74 + v) + 1)) v else z
def st6 (z : Zf) (v : Nat) (s : Int32) : Zf := if z 60 < 3 ∧ s < 2 ∧ ¬ z v < 2 then upd (upd z (54 + ix (z 53)) (nI v)) 53 (z 53 + 1) else z
def stM (z : Zf) (v : Nat) : Zf := if isLook z v = true then st3 z v else st6 (st5 (chM (st3 z v) v) v) v (z v)
/-- what keeps every place in its row -/
def Wf (z : Zf) : Prop :=
  (∃ k : Nat, k < 4 ∧ z 60 = nI k) ∧ (∃ m : Nat, m ≤ 6 ∧ z 53 = nI m) ∧
  (z 60 = 0 → ∀ v : Nat, v < 6 → z v = 2 → ∃ a : Nat, a < 6 ∧ z (18 + v) = nI a) ∧
  (z 60 = 0 → ∀ v : Nat, v < 6 → ¬ z v = 0 → ¬ z v = 1 → ¬ z v = 2 → ¬ z v = 3 → ¬ z v = 4 → ¬ z v = 5 → ¬ z v = 6 → ∃ a : Nat, a < 6 ∧ z (6 + v) = nI a) ∧
  (z 60 = 1 → ∀ v : Nat, v < 6 → ∃ a : Nat, a < 7 ∧ z (24 + v) = nI a) ∧
  (z 60 = 1 → ∀ v : Nat, v < 6 → z v = 3 → ∃ a : Nat, a < 7 ∧ z (30 + v) = nI a)
theorem Wf.k {z : Zf} (h : Wf z) : ∃ k : Nat, k < 4 ∧ z 60 = nI k := h.1
theorem Wf.m {z : Zf} (h : Wf z) : ∃ m : Nat, m ≤ 6 ∧ z 53 = nI m := h.2.1
theorem Wf.a {z : Zf} (h : Wf z) {v : Nat} (k : z 60 = 0) (hv : v < 6) (hs : z v = 2) : ∃ a : Nat, a < 6 ∧ z (18 + v) = nI a := h.2.2.1 k v hv hs
theorem Wf.n {z : Zf} (h : Wf z) {v : Nat} (k : z 60 = 0) (hv : v < 6) (h0 : ¬ z v = 0) (h1 : ¬ z v = 1) (h2 : ¬ z v = 2) (h3 : ¬ z v = 3) (h4 : ¬ z v = 4) (h5 : ¬ z v = 5) (h6 : ¬ z v = 6) : ∃ a : Nat, a < 6 ∧ z (6 + v) = nI a := h.2.2.2.1 k v hv h0 h1 h2 h3 h4 h5 h6
theorem Wf.o {z : Zf} (h : Wf z) {v : Nat} (k : z 60 = 1) (hv : v < 6) : ∃ a : Nat, a < 7 ∧ z (24 + v) = nI a := h.2.2.2.2.1 k v hv
theorem Wf.w {z : Zf} (h : Wf z) {v : Nat} (k : z 60 = 1) (hv : v < 6) (hs : z v = 3) : ∃ a : Nat, a < 7 ∧ z (30 + v) = nI a := h.2.2.2.2.2 k v hv hs
theorem Wf.far {z : Zf} (h : Wf z) {i : Nat} (hi : 61 ≤ i) (x : Int32) : Wf (upd z i x) := by
  have e : ∀ j : Nat, j < 61 → upd z i x j = z j := fun j hj => by simp only [upd]; rw [if_neg (by omega)]
  obtain ⟨h1, h2, h3, h4, h5, h6⟩ := h
  refine ⟨?_, ?_, ?_, ?_, ?_, ?_⟩
  · rw [e 60 (by omega)]; exact h1
  · rw [e 53 (by omega)]; exact h2
  · rw [e 60 (by omega)]; intro k v hv
    rw [e v (by omega), e (18 + v) (by omega)]; exact h3 k v hv
  · rw [e 60 (by omega)]; intro k v hv
    rw [e v (by omega), e (6 + v) (by omega)]; exact h4 k v hv
  · rw [e 60 (by omega)]; intro k v hv
    rw [e (24 + v) (by omega)]; exact h5 k v hv
  · rw [e 60 (by omega)]; intro k v hv
    rw [e v (by omega), e (30 + v) (by omega)]; exact h6 k v hv
