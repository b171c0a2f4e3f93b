theorem clM_hi (z : Zf) : ∀ (n : Nat), n ≤ 6 → ∀ j : Nat, 42 ≤ j → clM z n j = z j
  | 0, _, _, _ => rfl
  | n + 1, h, j, hj => by
    simp only [clM]
    rw [pk_un (by omega), pk_un (by omega), pk_un (by omega), pk_un (by omega), pk_un (by omega)]
    exact clM_hi z n (by omega) j hj
theorem clr_hi {z : Zf} {k : Int32} {j : Nat} (h1 : 53 ≤ j) (h2 : j ≠ 60) : clrM z k j = z j := by
  simp only [clrM]
  rw [pk_un h2, pk_un (by omega), clM_hi _ 6 (by omega) j (by omega)]
  simp only [zrM]
  rw [if_neg (by omega)]
theorem clr_cnt (z : Zf) (k : Int32) : cntC (clrM z k) = cntC z := by
  funext j
  simp only [cntC]
  rw [clr_hi (by omega) (by omega)]
theorem clr_lin (z : Zf) (k : Int32) : linC (clrM z k) = linC z := by
  funext j
  simp only [linC]
  by_cases h : j < 6
  · rw [if_pos h, if_pos h, clr_hi (by omega) (by omega)]
  · rw [if_neg h, if_neg h]
theorem enc_far (z : Zf) {i : Nat} (h : 61 ≤ i) (x : Int32) : encC (upd z i x) = encC z := by
  funext j
  by_cases hj : j < 54
  · simp only [encC]
    rw [pk_un (show 60 ≠ i by omega), pk_un (show 49 ≠ i by omega), pk_un (show j ≠ i by omega), pk_un (show j - 36 ≠ i by omega)]
  · rw [enc_hi (by omega), enc_hi (by omega)]
theorem x_cnt (z : Zf) (x : Int32) : cntC (upd z 61 x) = cntC z := by
  funext j
  simp only [cntC]
  rw [pk_un (by omega)]
theorem x_lin (z : Zf) (x : Int32) : linC (upd z 61 x) = linC z := by
  funext j
  simp only [linC]
  by_cases h : j < 6
  · rw [if_pos h, if_pos h, pk_un (by omega)]
  · rw [if_neg h, if_neg h]
theorem inB_lt {x a b : Int32} (h : x < a) : inB x a b = false := by simp [inB, Int32.not_le.mpr h]
theorem inB_gt {x a b : Int32} (h : b < x) : inB x a b = false := by simp [inB, Int32.not_le.mpr h]
theorem inB_in {x a b : Int32} (h1 : ¬ x < a) (h2 : ¬ b < x) : inB x a b = true := by simp [inB, Int32.not_lt.mp h1, Int32.not_lt.mp h2]
theorem lt4 {x : Int32} : x < 4 ↔ ¬ 3 < x := by rw [show (x < 4) ↔ x ≤ 3 from lt_le (n := 3) (by omega)]; exact (Int32.not_lt).symm
theorem lt64 {x : Int32} : x < 64 ↔ ¬ 63 < x := by rw [show (x < 64) ↔ x ≤ 63 from lt_le (n := 63) (by omega)]; exact (Int32.not_lt).symm
/-- what a visitor is asked for is alike on both sides -/
def VisOk (z : Zf) : Prop := (∀ v : Nat, v < 6 → tN (z (6 + v)) = visA z (nI v) 5 ∧ (if z 60 = 1 then tN (z (30 + v)) else tN (z (18 + v))) = visA z (nI v) 6 ∧ (if z 60 = 2 ∧ ¬ z v = 0 then z (36 + v) else -5) = visA z (nI v) 8) ∧ (if z 60 = 0 then tN (z 49) else if z 60 = 1 then z 49 else -5) = totA z 0 0 2
