/-! what the loop keeps -/
theorem recN_lt {r : Nat} (h : r < 4) : recN r = r + 1 := if_neg (by omega)
theorem recN_4 {r : Nat} (h : ¬ r < 4) (h4 : r ≤ 4) : recN r = 4 := if_pos (by omega)
theorem recN_pos {r : Nat} : 0 < recN r := by
  unfold recN
  split <;> omega
theorem recN_le4 {r : Nat} (h : r ≤ 4) : recN r ≤ 4 := recN_le h
theorem rm_last {hz : Nat → Zf} {z : Zf} {r : Nat} (h : r ≤ 4) : rmH hz z r (recN r - 1) = z := by
  by_cases e : r < 4
  · rw [recN_lt e]
    unfold rmH
    rw [if_neg (by omega), if_pos (by omega)]
  · rw [recN_4 e h]
    unfold rmH
    rw [if_pos (by omega), if_pos (by omega)]
theorem un_last {hz : Nat → Zf} {z y : Zf} {r : Nat} (h : r ≤ 4) : (if recN r = 0 then y else rmH hz z r (recN r - 1)) = z := by
  rw [if_neg (by have := recN_pos (r := r); omega), rm_last h]
theorem un_ans {r : Nat} : (if recN r = 0 then (-5 : Int32) else nI (recN r - 1)) = nI (recN r - 1) := if_neg (by have := recN_pos (r := r); omega)
theorem IsO.und {G : Gx} {x0 : Nat} {z y : Zf} {r : Nat} {hz : Nat → Zf} {kb : Bool} {zp : Zf} {w : va_W} (hr : r ≤ 4) (h : IsO G x0 (if recN r = 0 then y else rmH hz z r (recN r - 1)) (recN r - 1) (rmH hz z r) kb zp w) : IsO G x0 z (recN r - 1) (rmH hz z r) kb zp w := by
  rw [un_last hr] at h
  exact h
def Gd1 (B : Nat) (z : Zf) : Prop := G3 z ∧ Ct z B
def GA (B : Nat) (z : Zf) (r : Nat) (hz : Nat → Zf) (zp : Zf) : Prop := Gd1 B z ∧ (∀ j : Nat, j < r → Gd1 B (hz j)) ∧ Gd1 B zp
theorem Gd1.le {B C : Nat} {z : Zf} (h : Gd1 B z) (hB : B ≤ C) : Gd1 C z := ⟨h.1, h.2.le hB⟩
theorem GA.le {B C : Nat} {z : Zf} {r : Nat} {hz : Nat → Zf} {zp : Zf} (h : GA B z r hz zp) (hB : B ≤ C) : GA C z r hz zp := ⟨h.1.le hB, fun j hj => (h.2.1 j hj).le hB, h.2.2.le hB⟩
theorem GA.rm {B : Nat} {z y : Zf} {r : Nat} {hz : Nat → Zf} {zp : Zf} (hr : r ≤ 4) (h : GA B z r hz zp) (hy : Gd1 B y) : GA B y (recN r) (rmH hz z r) zp := by
  refine ⟨hy, fun j hj => ?_, h.2.2⟩
  unfold rmH
  by_cases e : r = 4
  · rw [if_pos e]
    have : recN r = 4 := if_pos e
    by_cases e3 : j = 3
    · rw [if_pos e3]
      exact h.1
    · rw [if_neg e3]
      exact h.2.1 (j + 1) (by omega)
  · rw [if_neg e]
    have : recN r = r + 1 := if_neg e
    by_cases e3 : j = r
    · rw [if_pos e3]
      exact h.1
    · rw [if_neg e3]
      exact h.2.1 j (by omega)
theorem GA.un {B : Nat} {z y : Zf} {r s : Nat} {hz : Nat → Zf} {zp : Zf} (h : GA B y r hz zp) (hz0 : Gd1 B z) (hs : s ≤ r) : GA B z s hz zp := ⟨hz0, fun j hj => h.2.1 j (by omega), h.2.2⟩
theorem GA.keep {B : Nat} {z : Zf} {r : Nat} {hz : Nat → Zf} {zp : Zf} (h : GA B z r hz zp) : GA B z r hz z := ⟨h.1, h.2.1, h.1⟩
theorem nI_n9 {j : Nat} (h : j < 2 ^ 31) : ¬ nI j ≤ -9 := fun q => by
  have t := nI_pos' h
  exact absurd (Int32.le_trans t q) (by decide)
theorem zI_x1 : zI 61 = 1 := by decide
theorem zI_k0 : zI 60 = 0 := by decide
theorem zI_t1 : zI 49 = -1 := by decide
theorem zI_c6 : cntZ zI 6 = 0 := by decide
theorem zI_G3 : G3 zI := G3.of (by rw [zI_k0]; decide)
theorem zI_Ct : Ct zI 0 := fun v hv => ⟨0, 0, Nat.le_refl 0, Nat.le_refl 0, by rcases (show v = 0 ∨ v = 1 ∨ v = 2 ∨ v = 3 ∨ v = 4 ∨ v = 5 by omega) with rfl | rfl | rfl | rfl | rfl | rfl <;> decide, by rcases (show v = 0 ∨ v = 1 ∨ v = 2 ∨ v = 3 ∨ v = 4 ∨ v = 5 by omega) with rfl | rfl | rfl | rfl | rfl | rfl <;> decide⟩
