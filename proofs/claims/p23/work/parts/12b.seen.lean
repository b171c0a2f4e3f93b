/-! all that is told of a state, as one number -/
theorem nI_inj {a b : Nat} (ha : a < 2 ^ 31) (hb : b < 2 ^ 31) (h : nI a = nI b) : a = b := (nI_eq ha hb).mp h
def sA (z : Zf) : Nat → Int64
  | 0 => 53
  | k + 1 => 31 * sA z k + (totA z 0 0 (nI k)).toInt64
def sB (z : Zf) : Nat → Int64
  | 0 => sA z 13
  | k + 1 => 31 * sB z k + (visA z (nI (k / 11)) (nI (k % 11))).toInt64
def sC (z : Zf) : Nat → Int64
  | 0 => sB z 66
  | k + 1 => 31 * (31 * sC z k + (lineA z (nI k)).toInt64) + (cardA z (nI k)).toInt64
def seenZ (z : Zf) : Int64 := sC z 7
theorem tot_r (z : Zf) (r n k : Nat) (hk : k < 13) : totA z r n (nI k) = totA z 0 0 (nI k) := by
  have h13 : ¬ nI k = 13 := fun q => by
    have := nI_inj (show k < 2 ^ 31 by omega) (show 13 < 2 ^ 31 by omega) q
    omega
  have h14 : ¬ nI k = 14 := fun q => by
    have := nI_inj (show k < 2 ^ 31 by omega) (show 14 < 2 ^ 31 by omega) q
    omega
  unfold totA
  rw [if_neg h13, if_neg h14, if_neg h13, if_neg h14]
/-! answers at written numbers -/
theorem totA_0 (z : Zf) (r n : Nat) : totA z r n 0 = z 60 := rfl
theorem totA_1 (z : Zf) (r n : Nat) : totA z r n 1 = insM z 6 := rfl
theorem totA_2 (z : Zf) (r n : Nat) : totA z r n 2 = (if 1 < z 60 ∨ z 49 = -1 then -5 else z 49) := rfl
theorem totA_3 (z : Zf) (r n : Nat) : totA z r n 3 = cntZ z 6 := rfl
theorem totA_5 (z : Zf) (r n : Nat) : totA z r n 5 = sumZ z 62 6 := rfl
theorem totA_6 (z : Zf) (r n : Nat) : totA z r n 6 = sumZ z 68 6 := rfl
theorem totA_7 (z : Zf) (r n : Nat) : totA z r n 7 = sumZ z 74 6 := rfl
theorem totA_8 (z : Zf) (r n : Nat) : totA z r n 8 = sumZ z 80 6 := rfl
theorem totA_10 (z : Zf) (r n : Nat) : totA z r n 10 = (if z 60 = 2 then z 51 else -5) := rfl
theorem totA_12 (z : Zf) (r n : Nat) : totA z r n 12 = z 61 := rfl
theorem totA_13 (z : Zf) (r n : Nat) : totA z r n 13 = nI r := rfl
theorem visA_v (z : Zf) {v : Nat} (hv : v < 6) : visA z (nI v) 0 = z v ∧ visA z (nI v) 1 = z (62 + v) ∧ visA z (nI v) 2 = z (68 + v) ∧ visA z (nI v) 3 = z (74 + v) ∧ visA z (nI v) 8 = (if z 60 = 2 ∧ 0 < z v then z (36 + v) else -5) ∧ visA z (nI v) 10 = plc z v (ix (z 53)) ∧ visA z (nI v) 4 = z (80 + v) := by
  unfold visA
  rw [ix_nI (show v < 2 ^ 31 by omega), isV_nI hv]
  exact ⟨rfl, rfl, rfl, rfl, rfl, rfl, rfl⟩
theorem visA_0 (z : Zf) {v : Nat} (hv : v < 6) : visA z (nI v) 0 = z v := (visA_v z hv).1
theorem visA_1 (z : Zf) {v : Nat} (hv : v < 6) : visA z (nI v) 1 = z (62 + v) := (visA_v z hv).2.1
theorem visA_2 (z : Zf) {v : Nat} (hv : v < 6) : visA z (nI v) 2 = z (68 + v) := (visA_v z hv).2.2.1
theorem visA_3 (z : Zf) {v : Nat} (hv : v < 6) : visA z (nI v) 3 = z (74 + v) := (visA_v z hv).2.2.2.1
theorem visA_8 (z : Zf) {v : Nat} (hv : v < 6) : visA z (nI v) 8 = (if z 60 = 2 ∧ 0 < z v then z (36 + v) else -5) := (visA_v z hv).2.2.2.2.1
theorem visA_10 (z : Zf) {v : Nat} (hv : v < 6) : visA z (nI v) 10 = plc z v (ix (z 53)) := (visA_v z hv).2.2.2.2.2.1
theorem visA_4 (z : Zf) {v : Nat} (hv : v < 6) : visA z (nI v) 4 = z (80 + v) := (visA_v z hv).2.2.2.2.2.2
theorem lookA_v (z : Zf) {v : Nat} (hv : v < 6) : lookA z (nI v) = bI (isLook z v) := by
  unfold lookA
  rw [ix_nI (show v < 2 ^ 31 by omega), if_neg (by rw [isV_nI hv]; decide)]
theorem touchA_v (z : Zf) {v : Nat} (hv : v < 6) : touchA z (nI v) = costM (z 60) (z v) := by
  unfold touchA
  rw [ix_nI (show v < 2 ^ 31 by omega), if_neg (by rw [isV_nI hv]; decide)]
abbrev rA : Room := { frames := 8, cells := 0, slots := 0, locals := 180 }
abbrev rB : Room := { frames := 9, cells := 0, slots := 0, locals := 240 }
