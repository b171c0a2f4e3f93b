/-! the other side's state: counts, line, and what its step does -/
def cntC (z : Zf) : Zf := fun j => if j < 24 then z (62 + j) else 0
def linC (z : Zf) : Zf := fun j => if j < 6 then z (54 + j) else 0
theorem cnt_at {z : Zf} {j : Nat} (h : j < 24) : cntC z j = z (62 + j) := by simp [cntC, h]
theorem lin_at {z : Zf} {j : Nat} (h : j < 6) : linC z j = z (54 + j) := by simp [linC, h]
theorem cnt_cpy (z w : Zf) : va_cpy (cntC z) (cntC w) 0 0 24 = cntC z := by
  funext j
  simp only [va_cpy, cntC]
  by_cases h : j < 24
  · rw [if_pos (by omega), if_pos (by omega), if_pos h]; congr 1; omega
  · rw [if_neg (by omega), if_neg h, if_neg h]
theorem lin_cpy (z w : Zf) : va_cpy (linC z) (linC w) 0 0 6 = linC z := by
  funext j
  simp only [va_cpy, linC]
  by_cases h : j < 6
  · rw [if_pos (by omega), if_pos (by omega), if_pos h]; congr 1; omega
  · rw [if_neg (by omega), if_neg h, if_neg h]
theorem fb_holes : ∀ (m n : Nat) (f : Nat → Nat), (∀ i, i < n → f i < m) → (∀ i j, i < j → j < n → f i ≠ f j) → n ≤ m := by
  intro m
  induction m with
  | zero =>
    intro n f h1 _
    rcases Nat.eq_zero_or_pos n with h | h
    · omega
    · exact absurd (h1 0 h) (Nat.not_lt_zero _)
  | succ m ih =>
    intro n f h1 h2
    by_cases hx : ∃ i, i < n ∧ f i = m
    · obtain ⟨a, ha, hfa⟩ := hx
      have hg := ih (n - 1) (fun i => if i < a then f i else f (i + 1)) (by
        intro i hi
        by_cases q : i < a
        · simp only [if_pos q]
          have b1 := h1 i (by omega)
          have b2 := h2 i a q ha
          omega
        · simp only [if_neg q]
          have b1 := h1 (i + 1) (by omega)
          have b2 := h2 a (i + 1) (by omega) (by omega)
          omega) (by
        intro i j hij hj
        by_cases q : i < a
        · by_cases r : j < a
          · simp only [if_pos q, if_pos r]
            exact h2 i j hij (by omega)
          · simp only [if_pos q, if_neg r]
            exact h2 i (j + 1) (by omega) (by omega)
        · have r : ¬ j < a := by omega
          simp only [if_neg q, if_neg r]
          exact h2 (i + 1) (j + 1) (by omega) (by omega))
      omega
    · have hg := ih n f (fun i hi => by
        have b1 := h1 i hi
        have b2 : f i ≠ m := fun e => hx ⟨i, hi, e⟩
        omega) h2
      omega
theorem cnt_eq (z : Zf) : ∀ n : Nat, cntZ z n + atM z 0 n = nI n
  | 0 => rfl
  | n + 1 => by
    have ih := cnt_eq z n
    simp only [cntZ, atM]
    by_cases h : z n = 0
    · rw [if_pos h, if_pos h, Int32.add_zero, ← Int32.add_assoc, ih]; exact nI_1 n
    · rw [if_neg h, if_neg h, Int32.add_zero, Int32.add_assoc, Int32.add_comm 1, ← Int32.add_assoc, ih]; exact nI_1 n
theorem pres_eq (z : Zf) : 6 - atM z 0 6 = cntZ z 6 := by
  have h := cnt_eq z 6
  rw [show (6 : Int32) = nI 6 from rfl, ← h, Int32.add_sub_cancel]
/-- the line: m places, each a visitor, none twice, and who is in it -/
def Li (z : Zf) : Prop := ∃ m : Nat, m ≤ 6 ∧ z 53 = nI m ∧ (∀ i : Nat, i < m → ∃ u : Nat, u < 6 ∧ z (54 + i) = nI u) ∧ (∀ i j : Nat, i < m → j < m → z (54 + i) = z (54 + j) → i = j) ∧ ∀ v : Nat, v < 6 → (quB z v = true ↔ ∃ i : Nat, i < m ∧ z (54 + i) = nI v)
theorem plc_of {z : Zf} {v m i : Nat} (hi : i < m) (h : z (54 + i) = nI v) (hu : ∀ j : Nat, j < m → z (54 + j) = nI v → j = i) : plc z v m = nI i := by
  induction m with
  | zero => exact absurd hi (Nat.not_lt_zero i)
  | succ m ih =>
    simp only [plc]
    by_cases q : z (54 + m) = nI v
    · rw [if_pos q, hu m (by omega) q]
    · rw [if_neg q]
      have hne : i ≠ m := fun e => q (by rw [← e]; exact h)
      exact ih (by omega) (fun j hj => hu j (by omega))
theorem plc_none {z : Zf} {v m : Nat} (hu : ∀ j : Nat, j < m → ¬ z (54 + j) = nI v) : plc z v m = -5 := by
  induction m with
  | zero => rfl
  | succ m ih =>
    simp only [plc]
    rw [if_neg (hu m (by omega))]
    exact ih (fun j hj => hu j (by omega))
def zlC (z : Zf) (v : Nat) : Zf := if isLook z v = true then z else chM z v
def cn1 (z : Zf) (v : Nat) : Zf := upd (upd (cntC z) v (z (62 + v) + 1)) (18 + v) (z (62 + (18 + v)) + costM (z 60) (z v))
def cn2 (z : Zf) (v : Nat) : Zf := if isLook z v = true then upd (cn1 z v) (6 + v) (z (62 + (6 + v)) + 1) else cn1 z v
def cnA (z : Zf) (v : Nat) : Zf := if zlC z v v = 0 then upd (cn2 z v) (12 + v) (z (62 + (12 + v)) + 1) else cn2 z v
def joA (z : Zf) (v : Nat) : Bool := !quB z v && quB (zlC z v) v
def leA (z : Zf) (v : Nat) : Bool := quB z v && !quB (zlC z v) v
/-- those of the first n places that are not v, moved together: the row and how many -/
def lvR (f : Zf) (x : Int32) : Nat → Zf × Nat
  | 0 => (f, 0)
  | n + 1 => if (lvR f x n).1 n = x then lvR f x n else (upd (lvR f x n).1 (lvR f x n).2 ((lvR f x n).1 n), (lvR f x n).2 + 1)
theorem lvR_le (f : Zf) (x : Int32) : ∀ n : Nat, (lvR f x n).2 ≤ n
  | 0 => Nat.le_refl 0
  | n + 1 => by
    have := lvR_le f x n
    simp only [lvR]
    split
    · omega
    · show (lvR f x n).2 + 1 ≤ n + 1
      omega
def liA (z : Zf) (v : Nat) : Zf := if joA z v = true then upd (linC z) (ix (z 53)) (nI v) else if leA z v = true then (lvR (linC z) (nI v) (ix (z 53))).1 else linC z
def lnA (z : Zf) (v : Nat) : Int32 := if joA z v = true then z 53 + 1 else if leA z v = true then nI (lvR (linC z) (nI v) (ix (z 53))).2 else z 53
/-- a place is left for one who joins -/
theorem join_room {z : Zf} {v m : Nat} (hv : v < 6) (h : Li z) (h53 : z 53 = nI m) (hm : m ≤ 6) (hq : quB z v = false) : m < 6 := by
  obtain ⟨m', hm', e53, h1, h2, h3⟩ := h
  have em : m' = m := by
    rw [h53] at e53
    exact ((nI_eq (by omega) (by omega)).mp e53).symm
  subst em
  rcases Nat.lt_or_ge m' 6 with q | q
  · exact q
  · exfalso
    have hno : ¬ ∃ i : Nat, i < m' ∧ z (54 + i) = nI v := fun e => by rw [(h3 v hv).mpr e] at hq; cases hq
    have e6 : m' = 6 := by omega
    subst e6
    have hu : ∀ i : Nat, ∃ u : Nat, i < 6 → u < 6 ∧ z (54 + i) = nI u := fun i => by
      by_cases q : i < 6
      · obtain ⟨u, a, b⟩ := h1 i q
        exact ⟨u, fun _ => ⟨a, b⟩⟩
      · exact ⟨0, fun e => absurd e q⟩
    have key := fb_holes 6 7 (fun i => if i < 6 then Classical.choose (hu i) else v) (fun i hi => by
      by_cases q : i < 6
      · simp only [if_pos q]
        exact (Classical.choose_spec (hu i) q).1
      · simp only [if_neg q]
        exact hv) (fun i j hij hj => by
      have qi : i < 6 := by omega
      simp only [if_pos qi]
      have ci := Classical.choose_spec (hu i) qi
      by_cases qj : j < 6
      · simp only [if_pos qj]
        have cj := Classical.choose_spec (hu j) qj
        intro e
        have := h2 i j qi qj (by rw [ci.2, cj.2, e])
        omega
      · simp only [if_neg qj]
        intro e
        exact hno ⟨i, qi, by rw [ci.2, e]⟩)
    omega
