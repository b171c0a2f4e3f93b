/-! what holds of every lock that can be reached: m visitors g 0 .. in line -/
def LnOk (m : Nat) (g : Nat → Nat) : Prop := m ≤ 6 ∧ (∀ i : Nat, i < m → g i < 6) ∧ ∀ i j : Nat, i < m → j < m → g i = g j → i = j
def Out (m : Nat) (g : Nat → Nat) (v : Nat) : Prop := ∀ i : Nat, i < m → g i ≠ v
def A0 (z : Zf) (m : Nat) (g : Nat → Nat) : Prop :=
  (∀ v : Nat, v < 6 → Out m g v → (z v = 0 ∨ (z v = 1 ∧ z (6 + v) = -1 ∧ z (12 + v) = 1)) ∧ z (18 + v) = -1) ∧
  (∀ v : Nat, v < 6 → (z (6 + v) = -1 ∨ ∃ a : Nat, a < 6 ∧ z (6 + v) = nI a) ∧ (z (12 + v) = 0 ∨ z (12 + v) = 1)) ∧
  (m = 0 → z 49 = -1) ∧ (∀ i : Nat, i + 1 = m → z 49 = nI (g i) ∧ z (6 + g i) = -1) ∧
  (∀ i : Nat, i + 1 < m → z (12 + g (i + 1)) = 1 ∧ z (18 + g (i + 1)) = nI (g i) ∧ ((z (g (i + 1)) = 2 ∧ z (6 + g i) = -1) ∨ (z (g (i + 1)) = 3 ∧ z (6 + g i) = nI (g (i + 1))))) ∧
  (0 < m → (z (g 0) = 3 ∧ z (12 + g 0) = 0 ∧ ∃ a : Nat, a < 6 ∧ z (18 + g 0) = nI a) ∨ (z (18 + g 0) = -1 ∧ (z (g 0) = 4 ∨ z (g 0) = 5 ∨ (z (g 0) = 6 ∧ 1 < m) ∨ (z (g 0) = 7 ∧ ¬ z (6 + g 0) = -1))))


theorem in_or {m v : Nat} {g : Nat → Nat} : Out m g v ∨ ∃ i : Nat, i < m ∧ g i = v := by
  by_cases h : ∃ i : Nat, i < m ∧ g i = v
  · exact Or.inr h
  · exact Or.inl (fun i hi e => h ⟨i, hi, e⟩)
def snocG (m : Nat) (g : Nat → Nat) (v : Nat) : Nat → Nat := fun i => if i = m then v else g i
theorem ln_snoc {m v : Nat} {g : Nat → Nat} (hv : v < 6) (hl : LnOk m g) (ho : Out m g v) : LnOk (m + 1) (snocG m g v) := by
  obtain ⟨l1, l2, l3⟩ := hl
  have b1 : ∀ i : Nat, i < m + 1 → snocG m g v i < 6 := by
    intro i hi
    have := l2 i
    unfold snocG
    grind
  have b2 : ∀ i j : Nat, i < m + 1 → j < m + 1 → snocG m g v i = snocG m g v j → i = j := by
    intro i j hi hj
    have := l3 i j
    have := ho i
    have := ho j
    unfold snocG
    grind
  refine ⟨fb_holes 6 (m + 1) (snocG m g v) b1 (fun i j hij hj e => ?_), b1, b2⟩
  have := b2 i j (by omega) hj e
  omega
theorem ln_shift {m : Nat} {g : Nat → Nat} (hl : LnOk (m + 1) g) : LnOk m (fun i => g (i + 1)) := by
  obtain ⟨l1, l2, l3⟩ := hl
  refine ⟨by omega, fun i hi => l2 (i + 1) (by omega), fun i j hi hj e => ?_⟩
  have := l3 (i + 1) (j + 1) (by omega) (by omega) e
  omega
theorem A0_in {z : Zf} {m v i : Nat} {g : Nat → Nat} (h : A0 z m g) (hi : i < m) (e : g i = v) : z v = 2 ∨ z v = 3 ∨ (i = 0 ∧ (z v = 4 ∨ z v = 5 ∨ z v = 6 ∨ z v = 7)) := by
  obtain ⟨a1, a2, a3, a4, a5, a6⟩ := h
  rcases i with _ | i
  · have := a6 hi
    grind
  · have := a5 i hi
    grind
theorem A0_out {z : Zf} {m v : Nat} {g : Nat → Nat} (h : A0 z m g) (hs : z v = 0 ∨ z v = 1) : Out m g v := by
  intro i hi e
  have := A0_in h hi e
  grind
theorem A0_fst {z : Zf} {m v : Nat} {g : Nat → Nat} (hv : v < 6) (h : A0 z m g) (hs : z v = 4 ∨ z v = 5 ∨ z v = 6 ∨ z v = 7) : 0 < m ∧ g 0 = v := by
  rcases in_or (m := m) (v := v) (g := g) with ho | ⟨i, hi, e⟩
  · have := h.1 v hv ho
    grind
  · have := A0_in h hi e
    grind

theorem A0_0 {z : Zf} {m v : Nat} {g : Nat → Nat} (hv : v < 6) (hl : LnOk m g) (h : A0 z m g) (hs : z v = 0) : A0 (upd (upd (upd z (6 + v) (-1)) (12 + v) 1) v 1) m g := by
  have ho := A0_out h (Or.inl hs)
  obtain ⟨l1, l2, l3⟩ := hl
  obtain ⟨a1, a2, a3, a4, a5, a6⟩ := h
  refine ⟨?_, ?_, ?_, ?_, ?_, ?_⟩
  · intro w hw how
    have t1 := a1 w hw
    have t2 := a2 w hw
    clear a1 a2 a3 a4 a5 a6 l1 l2 l3
    try simp (disch := omega) only [pk_un, pk_us]
    try simp only [upd]
    grind (splits := 24)
  · intro w hw
    have t2 := a2 w hw
    clear a1 a2 a3 a4 a5 a6 l1 l2 l3
    try simp (disch := omega) only [pk_un, pk_us]
    try simp only [upd]
    grind (splits := 24)
  · intro hm
    have t3 := a3
    clear a1 a2 a3 a4 a5 a6 l1 l2 l3
    try simp (disch := omega) only [pk_un, pk_us]
    try simp only [upd]
    grind (splits := 24)
  · intro i hi
    have t4 := a4 i
    have := l2 i
    have := ho i
    clear a1 a2 a3 a4 a5 a6 l1 l2 l3
    try simp (disch := omega) only [pk_un, pk_us]
    try simp only [upd]
    grind (splits := 24)
  · intro i hi
    have t5 := a5 i
    have := l2 i
    have := l2 (i + 1)
    have := ho i
    have := ho (i + 1)
    clear a1 a2 a3 a4 a5 a6 l1 l2 l3
    try simp (disch := omega) only [pk_un, pk_us]
    try simp only [upd]
    grind (splits := 24)
  · intro hm
    have t6 := a6
    have := l2 0
    have := ho 0
    clear a1 a2 a3 a4 a5 a6 l1 l2 l3
    try simp (disch := omega) only [pk_un, pk_us]
    try simp only [upd]
    grind (splits := 24)

theorem A0_1a {z : Zf} {m v : Nat} {g : Nat → Nat} (hv : v < 6) (hl : LnOk m g) (h : A0 z m g) (hs : z v = 1) (hm0 : m = 0) : A0 (upd (upd (upd z (18 + v) (z 49)) v (if z 49 = -1 then 4 else 2)) 49 (nI v)) 1 (snocG 0 g v) := by
  have ho := A0_out h (Or.inr hs)
  have hv1 := h.1 v hv ho
  subst hm0
  obtain ⟨l1, l2, l3⟩ := hl
  obtain ⟨a1, a2, a3, a4, a5, a6⟩ := h
  refine ⟨?_, ?_, ?_, ?_, ?_, ?_⟩
  · intro w hw how
    have t1 := a1 w hw
    have t2 := a2 w hw
    have := how 0 (by omega)
    have := l2 0
    unfold snocG at *
    have q : Out 0 g w := fun i hi => absurd hi (Nat.not_lt_zero i)
    clear a1 a2 a3 a4 a5 a6 l1 l2 l3
    try simp (disch := omega) only [pk_un, pk_us]
    try simp only [upd]
    grind (splits := 24)
  · intro w hw
    have t2 := a2 w hw
    clear a1 a2 a3 a4 a5 a6 l1 l2 l3
    try simp (disch := omega) only [pk_un, pk_us]
    try simp only [upd]
    grind (splits := 24)
  · intro hm
    have t3 := a3
    clear a1 a2 a3 a4 a5 a6 l1 l2 l3
    try simp (disch := omega) only [pk_un, pk_us]
    try simp only [upd]
    grind (splits := 24)
  · intro i hi
    have t4 := a4 i
    have := l2 i
    unfold snocG
    clear a1 a2 a3 a4 a5 a6 l1 l2 l3
    try simp (disch := omega) only [pk_un, pk_us]
    try simp only [upd]
    grind (splits := 24)
  · intro i hi
    have t5 := a5 i
    have := l2 i
    have := l2 (i + 1)
    unfold snocG
    clear a1 a2 a3 a4 a5 a6 l1 l2 l3
    try simp (disch := omega) only [pk_un, pk_us]
    try simp only [upd]
    grind (splits := 24)
  · intro hm
    have t6 := a6
    have := l2 0
    have t3 := a3 rfl
    have e0 : snocG 0 g v 0 = v := if_pos rfl
    rw [e0]
    clear a1 a2 a3 a4 a5 a6 l1 l2 l3
    try simp (disch := omega) only [pk_un, pk_us]
    try simp only [upd]
    grind (splits := 24)

theorem A0_1b {z : Zf} {m v : Nat} {g : Nat → Nat} (hv : v < 6) (hl : LnOk m g) (h : A0 z m g) (hs : z v = 1) (hm0 : 0 < m) : A0 (upd (upd (upd z (18 + v) (z 49)) v (if z 49 = -1 then 4 else 2)) 49 (nI v)) (m + 1) (snocG m g v) := by
  have ho := A0_out h (Or.inr hs)
  have hv1 := h.1 v hv ho
  obtain ⟨k, rfl⟩ : ∃ k : Nat, m = k + 1 := ⟨m - 1, by omega⟩
  have hk := h.2.2.2.1 k rfl
  have hgk := hl.2.1 k (by omega)
  have h49 : ¬ z 49 = -1 := by rw [hk.1]; exact nI_m1 (by omega)
  have hok := ho k (by omega)
  obtain ⟨l1, l2, l3⟩ := hl
  obtain ⟨a1, a2, a3, a4, a5, a6⟩ := h
  refine ⟨?_, ?_, ?_, ?_, ?_, ?_⟩
  · intro w hw how
    have t1 := a1 w hw
    have t2 := a2 w hw
    have q : Out (k + 1) g w := fun i hi e => how i (by omega) (by unfold snocG; rw [if_neg (by omega)]; exact e)
    have q2 := how (k + 1) (by omega)
    unfold snocG at q2
    clear a1 a2 a3 a4 a5 a6 l1 l2 l3
    try simp (disch := omega) only [pk_un, pk_us]
    try simp only [upd]
    grind (splits := 24)
  · intro w hw
    have t2 := a2 w hw
    clear a1 a2 a3 a4 a5 a6 l1 l2 l3
    try simp (disch := omega) only [pk_un, pk_us]
    try simp only [upd]
    grind (splits := 24)
  · intro hm
    have t3 := a3
    clear a1 a2 a3 a4 a5 a6 l1 l2 l3
    try simp (disch := omega) only [pk_un, pk_us]
    try simp only [upd]
    grind (splits := 24)
  · intro i hi
    have t4 := a4 i
    have := l2 i
    unfold snocG
    clear a1 a2 a3 a4 a5 a6 l1 l2 l3
    try simp (disch := omega) only [pk_un, pk_us]
    try simp only [upd]
    grind (splits := 24)
  · intro i hi
    have t5 := a5 i
    have := l2 i
    have := l2 (i + 1)
    have := ho i
    have := ho (i + 1)
    have := l3 i k
    unfold snocG
    clear a1 a2 a3 a4 a5 a6 l1 l2 l3
    try simp (disch := omega) only [pk_un, pk_us]
    try simp only [upd]
    grind (splits := 24)
  · intro hm
    have t6 := a6
    have := l2 0
    have := ho 0
    unfold snocG
    clear a1 a2 a3 a4 a5 a6 l1 l2 l3
    try simp (disch := omega) only [pk_un, pk_us]
    try simp only [upd]
    grind (splits := 24)

theorem A0_2 {z : Zf} {m v : Nat} {g : Nat → Nat} (hv : v < 6) (hl : LnOk m g) (h : A0 z m g) (hs : z v = 2) : A0 (upd (upd z (6 + ix (z (18 + v))) (nI v)) v 3) m g := by
  obtain ⟨i0, hi0, hg1, hah⟩ : ∃ i0 : Nat, i0 + 1 < m ∧ g (i0 + 1) = v ∧ z (18 + v) = nI (g i0) := by
    rcases in_or (m := m) (v := v) (g := g) with ho | ⟨i, hi, e⟩
    · have := h.1 v hv ho
      grind
    · rcases i with _ | i
      · have := h.2.2.2.2.2 hi
        grind
      · have := h.2.2.2.2.1 i hi
        exact ⟨i, hi, e, by rw [← e]; exact this.2.1⟩
  have hb := hl.2.1 i0 (by omega)
  rw [hah, ix_nI (by omega)]
  have n1 : ¬ nI v = -1 := nI_m1 (by omega)
  have hne : g i0 ≠ v := fun e => by have := hl.2.2 i0 (i0 + 1) (by omega) hi0 (by rw [hg1, e]); omega
  obtain ⟨l1, l2, l3⟩ := hl
  obtain ⟨a1, a2, a3, a4, a5, a6⟩ := h
  refine ⟨?_, ?_, ?_, ?_, ?_, ?_⟩
  · intro w hw how
    have t1 := a1 w hw
    have t2 := a2 w hw
    have := how (i0 + 1) hi0
    have := how i0 (by omega)
    clear a1 a2 a3 a4 a5 a6 l1 l2 l3
    try simp (disch := omega) only [pk_un, pk_us]
    try simp only [upd]
    grind (splits := 24)
  · intro w hw
    have t2 := a2 w hw
    clear a1 a2 a3 a4 a5 a6 l1 l2 l3
    try simp (disch := omega) only [pk_un, pk_us]
    try simp only [upd]
    grind (splits := 24)
  · intro hm
    have t3 := a3
    clear a1 a2 a3 a4 a5 a6 l1 l2 l3
    try simp (disch := omega) only [pk_un, pk_us]
    try simp only [upd]
    grind (splits := 24)
  · intro i hi
    have t4 := a4 i
    have := l2 i
    have := l3 i i0
    have := l3 i (i0 + 1)
    clear a1 a2 a3 a4 a5 a6 l1 l2 l3
    try simp (disch := omega) only [pk_un, pk_us]
    try simp only [upd]
    grind (splits := 24)
  · intro i hi
    have t5 := a5 i
    have := l2 i
    have := l2 (i + 1)
    have := l3 i i0
    have := l3 (i + 1) (i0 + 1)
    clear a1 a2 a3 a4 a5 a6 l1 l2 l3
    try simp (disch := omega) only [pk_un, pk_us]
    try simp only [upd]
    grind (splits := 24)
  · intro hm
    have t6 := a6
    have := l2 0
    have := l3 0 i0
    have := l3 0 (i0 + 1)
    clear a1 a2 a3 a4 a5 a6 l1 l2 l3
    try simp (disch := omega) only [pk_un, pk_us]
    try simp only [upd]
    grind (splits := 24)

theorem A0_3 {z : Zf} {m v : Nat} {g : Nat → Nat} (hv : v < 6) (hl : LnOk m g) (h : A0 z m g) (hs : z v = 3) (hf : ¬ z (12 + v) = 1) : A0 (upd (upd z (18 + v) (-1)) v 4) m g := by
  have hf0 : 0 < m ∧ g 0 = v := by
    rcases in_or (m := m) (v := v) (g := g) with ho | ⟨i, hi, e⟩
    · have := h.1 v hv ho
      grind
    · rcases i with _ | i
      · exact ⟨hi, e⟩
      · have := h.2.2.2.2.1 i hi
        grind
  obtain ⟨l1, l2, l3⟩ := hl
  obtain ⟨a1, a2, a3, a4, a5, a6⟩ := h
  refine ⟨?_, ?_, ?_, ?_, ?_, ?_⟩
  · intro w hw how
    have t1 := a1 w hw
    have t2 := a2 w hw
    have := how 0 hf0.1
    clear a1 a2 a3 a4 a5 a6 l1 l2 l3
    try simp (disch := omega) only [pk_un, pk_us]
    try simp only [upd]
    grind (splits := 24)
  · intro w hw
    have t2 := a2 w hw
    clear a1 a2 a3 a4 a5 a6 l1 l2 l3
    try simp (disch := omega) only [pk_un, pk_us]
    try simp only [upd]
    grind (splits := 24)
  · intro hm
    have t3 := a3
    clear a1 a2 a3 a4 a5 a6 l1 l2 l3
    try simp (disch := omega) only [pk_un, pk_us]
    try simp only [upd]
    grind (splits := 24)
  · intro i hi
    have t4 := a4 i
    have := l2 i
    clear a1 a2 a3 a4 a5 a6 l1 l2 l3
    try simp (disch := omega) only [pk_un, pk_us]
    try simp only [upd]
    grind (splits := 24)
  · intro i hi
    have t5 := a5 i
    have := l2 i
    have := l2 (i + 1)
    have := l3 0 (i + 1)
    clear a1 a2 a3 a4 a5 a6 l1 l2 l3
    try simp (disch := omega) only [pk_un, pk_us]
    try simp only [upd]
    grind (splits := 24)
  · intro hm
    have t6 := a6
    have := l2 0
    clear a1 a2 a3 a4 a5 a6 l1 l2 l3
    try simp (disch := omega) only [pk_un, pk_us]
    try simp only [upd]
    grind (splits := 24)

theorem A0_4 {z : Zf} {m v : Nat} {g : Nat → Nat} (hv : v < 6) (hl : LnOk m g) (h : A0 z m g) (hs : z v = 4) : A0 (upd z v (if z (6 + v) = -1 then 5 else 7)) m g := by
  have hf0 := A0_fst hv h (Or.inl hs)
  obtain ⟨l1, l2, l3⟩ := hl
  obtain ⟨a1, a2, a3, a4, a5, a6⟩ := h
  refine ⟨?_, ?_, ?_, ?_, ?_, ?_⟩
  · intro w hw how
    have t1 := a1 w hw
    have t2 := a2 w hw
    have := how 0 hf0.1
    clear a1 a2 a3 a4 a5 a6 l1 l2 l3
    try simp (disch := omega) only [pk_un, pk_us]
    try simp only [upd]
    grind (splits := 24)
  · intro w hw
    have t2 := a2 w hw
    clear a1 a2 a3 a4 a5 a6 l1 l2 l3
    try simp (disch := omega) only [pk_un, pk_us]
    try simp only [upd]
    grind (splits := 24)
  · intro hm
    have t3 := a3
    clear a1 a2 a3 a4 a5 a6 l1 l2 l3
    try simp (disch := omega) only [pk_un, pk_us]
    try simp only [upd]
    grind (splits := 24)
  · intro i hi
    have t4 := a4 i
    have := l2 i
    clear a1 a2 a3 a4 a5 a6 l1 l2 l3
    try simp (disch := omega) only [pk_un, pk_us]
    try simp only [upd]
    grind (splits := 24)
  · intro i hi
    have t5 := a5 i
    have := l2 i
    have := l2 (i + 1)
    have := l3 0 (i + 1)
    clear a1 a2 a3 a4 a5 a6 l1 l2 l3
    try simp (disch := omega) only [pk_un, pk_us]
    try simp only [upd]
    grind (splits := 24)
  · intro hm
    have t6 := a6
    have := l2 0
    clear a1 a2 a3 a4 a5 a6 l1 l2 l3
    try simp (disch := omega) only [pk_un, pk_us]
    try simp only [upd]
    grind (splits := 24)

theorem A0_5a {z : Zf} {m v : Nat} {g : Nat → Nat} (hv : v < 6) (hl : LnOk m g) (h : A0 z m g) (hs : z v = 5) (hm1 : m = 1) (ht : z 49 = nI v) : A0 (upd (upd z v (if z 49 = nI v then 0 else 6)) 49 (if z 49 = nI v then -1 else z 49)) 0 (fun i => g (i + 1)) := by
  have hf0 := A0_fst hv h (Or.inr (Or.inl hs))
  subst hm1
  obtain ⟨l1, l2, l3⟩ := hl
  obtain ⟨a1, a2, a3, a4, a5, a6⟩ := h
  refine ⟨?_, ?_, ?_, ?_, ?_, ?_⟩
  · intro w hw how
    have t1 := a1 w hw
    have t2 := a2 w hw
    have t6 := a6 hf0.1
    have q : w ≠ v → Out 1 g w := fun e i hi e2 => e (by rw [← e2, show i = 0 by omega]; exact hf0.2)
    clear a1 a2 a3 a4 a5 a6 l1 l2 l3
    try simp (disch := omega) only [pk_un, pk_us]
    try simp only [upd]
    grind (splits := 24)
  · intro w hw
    have t2 := a2 w hw
    clear a1 a2 a3 a4 a5 a6 l1 l2 l3
    try simp (disch := omega) only [pk_un, pk_us]
    try simp only [upd]
    grind (splits := 24)
  · intro hm
    have t3 := a3
    clear a1 a2 a3 a4 a5 a6 l1 l2 l3
    try simp (disch := omega) only [pk_un, pk_us]
    try simp only [upd]
    grind (splits := 24)
  · intro i hi
    have t4 := a4 i
    have := l2 i
    clear a1 a2 a3 a4 a5 a6 l1 l2 l3
    try simp (disch := omega) only [pk_un, pk_us]
    try simp only [upd]
    grind (splits := 24)
  · intro i hi
    have t5 := a5 i
    have := l2 i
    have := l2 (i + 1)
    clear a1 a2 a3 a4 a5 a6 l1 l2 l3
    try simp (disch := omega) only [pk_un, pk_us]
    try simp only [upd]
    grind (splits := 24)
  · intro hm
    have t6 := a6
    have := l2 0
    clear a1 a2 a3 a4 a5 a6 l1 l2 l3
    try simp (disch := omega) only [pk_un, pk_us]
    try simp only [upd]
    grind (splits := 24)

theorem A0_5b {z : Zf} {m v : Nat} {g : Nat → Nat} (hv : v < 6) (hl : LnOk m g) (h : A0 z m g) (hs : z v = 5) (ht : ¬ z 49 = nI v) : A0 (upd (upd z v (if z 49 = nI v then 0 else 6)) 49 (if z 49 = nI v then -1 else z 49)) m g := by
  have hf0 := A0_fst hv h (Or.inr (Or.inl hs))
  have hm2 : 1 < m := by
    rcases Nat.lt_or_ge 1 m with q | q
    · exact q
    · have := h.2.2.2.1 0 (by omega)
      grind
  obtain ⟨l1, l2, l3⟩ := hl
  obtain ⟨a1, a2, a3, a4, a5, a6⟩ := h
  refine ⟨?_, ?_, ?_, ?_, ?_, ?_⟩
  · intro w hw how
    have t1 := a1 w hw
    have t2 := a2 w hw
    have := how 0 hf0.1
    clear a1 a2 a3 a4 a5 a6 l1 l2 l3
    try simp (disch := omega) only [pk_un, pk_us]
    try simp only [upd]
    grind (splits := 24)
  · intro w hw
    have t2 := a2 w hw
    clear a1 a2 a3 a4 a5 a6 l1 l2 l3
    try simp (disch := omega) only [pk_un, pk_us]
    try simp only [upd]
    grind (splits := 24)
  · intro hm
    have t3 := a3
    clear a1 a2 a3 a4 a5 a6 l1 l2 l3
    try simp (disch := omega) only [pk_un, pk_us]
    try simp only [upd]
    grind (splits := 24)
  · intro i hi
    have t4 := a4 i
    have := l2 i
    clear a1 a2 a3 a4 a5 a6 l1 l2 l3
    try simp (disch := omega) only [pk_un, pk_us]
    try simp only [upd]
    grind (splits := 24)
  · intro i hi
    have t5 := a5 i
    have := l2 i
    have := l2 (i + 1)
    have := l3 0 (i + 1)
    clear a1 a2 a3 a4 a5 a6 l1 l2 l3
    try simp (disch := omega) only [pk_un, pk_us]
    try simp only [upd]
    grind (splits := 24)
  · intro hm
    have t6 := a6
    have := l2 0
    clear a1 a2 a3 a4 a5 a6 l1 l2 l3
    try simp (disch := omega) only [pk_un, pk_us]
    try simp only [upd]
    grind (splits := 24)

theorem A0_6 {z : Zf} {m v : Nat} {g : Nat → Nat} (hv : v < 6) (hl : LnOk m g) (h : A0 z m g) (hs : z v = 6) (hn : ¬ z (6 + v) = -1) : A0 (upd z v 7) m g := by
  have hf0 := A0_fst hv h (Or.inr (Or.inr (Or.inl hs)))
  obtain ⟨l1, l2, l3⟩ := hl
  obtain ⟨a1, a2, a3, a4, a5, a6⟩ := h
  refine ⟨?_, ?_, ?_, ?_, ?_, ?_⟩
  · intro w hw how
    have t1 := a1 w hw
    have t2 := a2 w hw
    have := how 0 hf0.1
    clear a1 a2 a3 a4 a5 a6 l1 l2 l3
    try simp (disch := omega) only [pk_un, pk_us]
    try simp only [upd]
    grind (splits := 24)
  · intro w hw
    have t2 := a2 w hw
    clear a1 a2 a3 a4 a5 a6 l1 l2 l3
    try simp (disch := omega) only [pk_un, pk_us]
    try simp only [upd]
    grind (splits := 24)
  · intro hm
    have t3 := a3
    clear a1 a2 a3 a4 a5 a6 l1 l2 l3
    try simp (disch := omega) only [pk_un, pk_us]
    try simp only [upd]
    grind (splits := 24)
  · intro i hi
    have t4 := a4 i
    have := l2 i
    clear a1 a2 a3 a4 a5 a6 l1 l2 l3
    try simp (disch := omega) only [pk_un, pk_us]
    try simp only [upd]
    grind (splits := 24)
  · intro i hi
    have t5 := a5 i
    have := l2 i
    have := l2 (i + 1)
    have := l3 0 (i + 1)
    clear a1 a2 a3 a4 a5 a6 l1 l2 l3
    try simp (disch := omega) only [pk_un, pk_us]
    try simp only [upd]
    grind (splits := 24)
  · intro hm
    have t6 := a6
    have := l2 0
    clear a1 a2 a3 a4 a5 a6 l1 l2 l3
    try simp (disch := omega) only [pk_un, pk_us]
    try simp only [upd]
    grind (splits := 24)

theorem A0_7 {z : Zf} {m v : Nat} {g : Nat → Nat} (hv : v < 6) (hl : LnOk m g) (h : A0 z m g) (hs : z v = 7) : A0 (upd (upd z (12 + ix (z (6 + v))) 0) v 0) (m - 1) (fun i => g (i + 1)) := by
  have hf0 := A0_fst hv h (Or.inr (Or.inr (Or.inr hs)))
  have hn : ¬ z (6 + v) = -1 := by
    have := h.2.2.2.2.2 hf0.1
    grind
  have hm2 : 1 < m := by
    rcases Nat.lt_or_ge 1 m with q | q
    · exact q
    · have := h.2.2.2.1 0 (by omega)
      grind
  have h01 := h.2.2.2.2.1 0 hm2
  have hx : z (6 + v) = nI (g 1) ∧ z (g 1) = 3 := by grind
  have hg1 := hl.2.1 1 hm2
  rw [hx.1, ix_nI (by omega)]
  have hv1 : g 1 ≠ v := fun e => by have := hl.2.2 0 1 hf0.1 hm2 (by rw [hf0.2, e]); omega
  obtain ⟨l1, l2, l3⟩ := hl
  obtain ⟨a1, a2, a3, a4, a5, a6⟩ := h
  refine ⟨?_, ?_, ?_, ?_, ?_, ?_⟩
  · intro w hw how
    have t1 := a1 w hw
    have t2 := a2 w hw
    have q : w ≠ v → Out m g w := fun e i hi e2 => by rcases i with _ | i; exact e (by rw [← e2]; exact hf0.2); exact how i (by omega) e2
    have t6 := a6 hf0.1
    clear a1 a2 a3 a4 a5 a6 l1 l2 l3
    try simp (disch := omega) only [pk_un, pk_us]
    try simp only [upd]
    grind (splits := 24)
  · intro w hw
    have t2 := a2 w hw
    clear a1 a2 a3 a4 a5 a6 l1 l2 l3
    try simp (disch := omega) only [pk_un, pk_us]
    try simp only [upd]
    grind (splits := 24)
  · intro hm
    have t3 := a3
    clear a1 a2 a3 a4 a5 a6 l1 l2 l3
    try simp (disch := omega) only [pk_un, pk_us]
    try simp only [upd]
    grind (splits := 24)
  · intro i hi
    have t4 := a4 i
    have := l2 i
    have := a4 (i + 1)
    have := l3 0 (i + 1)
    have := l2 (i + 1)
    have := l3 1 (i + 1)
    clear a1 a2 a3 a4 a5 a6 l1 l2 l3
    try simp (disch := omega) only [pk_un, pk_us]
    try simp only [upd]
    grind (splits := 24)
  · intro i hi
    have t5 := a5 i
    have := l2 i
    have := l2 (i + 1)
    have := a5 (i + 1)
    have := l2 (i + 2)
    have := l3 1 (i + 1)
    have := l3 1 (i + 2)
    have := l3 0 (i + 1)
    have := l3 0 (i + 2)
    clear a1 a2 a3 a4 a5 a6 l1 l2 l3
    try simp (disch := omega) only [pk_un, pk_us]
    try simp only [upd]
    grind (splits := 24)
  · intro hm
    have t6 := a6
    have := l2 0
    have := l3 1 0
    clear a1 a2 a3 a4 a5 a6 l1 l2 l3
    try simp (disch := omega) only [pk_un, pk_us]
    try simp only [upd]
    grind (splits := 24)
