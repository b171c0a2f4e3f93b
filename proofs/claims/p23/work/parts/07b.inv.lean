/-- kind 1: o v the card of v, e the card that nobody has -/
def A1 (z : Zf) (m : Nat) (g o : Nat → Nat) (e : Nat) : Prop := e < 7 ∧
  (∀ v : Nat, v < 6 → o v < 7 ∧ o v ≠ e ∧ z (24 + v) = nI (o v) ∧ ((z v = 0 ∧ z (42 + o v) = 0) ∨ (¬ z v = 0 ∧ z (42 + o v) = 1))) ∧
  (∀ u v : Nat, u < 6 → v < 6 → o u = o v → u = v) ∧ z (42 + e) = 0 ∧ (∀ c : Nat, c < 7 → z (42 + c) = 0 ∨ z (42 + c) = 1) ∧
  (∀ v : Nat, v < 6 → Out m g v → (z v = 0 ∨ z v = 1) ∧ z (30 + v) = -1) ∧
  (m = 0 → z 49 = nI e) ∧ (∀ i : Nat, i + 1 = m → z 49 = nI (o (g i))) ∧
  (∀ i : Nat, i + 1 < m → z (g (i + 1)) = 3 ∧ z (30 + g (i + 1)) = nI (o (g i))) ∧
  (0 < m → (z (g 0) = 3 ∨ z (g 0) = 4) ∧ z (30 + g 0) = nI e)
theorem A1_in {z : Zf} {m v i : Nat} {g o : Nat → Nat} {e : Nat} (h : A1 z m g o e) (hi : i < m) (q : g i = v) : z v = 3 ∨ (i = 0 ∧ z v = 4) := by
  obtain ⟨b0, b1, b2, b3, b8, b4, b5, b5', b6, b7⟩ := h
  rcases i with _ | i
  · have := b7 hi
    grind
  · have := b6 i hi
    grind
theorem A1_out {z : Zf} {m v : Nat} {g o : Nat → Nat} {e : Nat} (h : A1 z m g o e) (hs : z v = 0 ∨ z v = 1) : Out m g v := by
  intro i hi q
  have := A1_in h hi q
  grind

theorem A1_0 {z : Zf} {m v : Nat} {g o : Nat → Nat} {e : Nat} (hv : v < 6) (hl : LnOk m g) (h : A1 z m g o e) (hs : z v = 0) : A1 (upd (upd z (42 + ix (z (24 + v))) 1) v 1) m g o e := by
  have e24 : z (24 + v) = nI (o v) := (h.2.1 v hv).2.2.1
  have hb : o v < 7 := (h.2.1 v hv).1
  rw [e24, ix_nI (by omega)]
  have ho := A1_out h (Or.inl hs)
  obtain ⟨l1, l2, l3⟩ := hl
  have hov := h.2.1 v hv
  obtain ⟨b0, b1, b2, b3, b8, b4, b5, b5', b6, b7⟩ := h
  refine ⟨by omega, ?_, ?_, ?_, ?_, ?_, ?_, ?_, ?_, ?_⟩
  · intro w hw
    have t1 := b1 w hw
    have t2 := b2 v w hv hw
    clear b1 b2 b3 b8 b4 b5 b5' b6 b7 l1 l2 l3
    try simp (disch := omega) only [pk_un, pk_us]
    try simp only [upd]
    all_goals grind (splits := 24)
  · intro u w hu hw
    have t2 := b2 u w hu hw
    clear b1 b2 b3 b8 b4 b5 b5' b6 b7 l1 l2 l3
    try simp (disch := omega) only [pk_un, pk_us]
    try simp only [upd]
    all_goals grind (splits := 24)
  · have t3 := b3
    clear b1 b2 b3 b8 b4 b5 b5' b6 b7 l1 l2 l3
    try simp (disch := omega) only [pk_un, pk_us]
    try simp only [upd]
    all_goals grind (splits := 24)
  · intro c hc
    have t8 := b8 c hc
    clear b1 b2 b3 b8 b4 b5 b5' b6 b7 l1 l2 l3
    try simp (disch := omega) only [pk_un, pk_us]
    try simp only [upd]
    all_goals grind (splits := 24)
  · intro w hw how
    have t4 := b4 w hw
    have t1 := b1 w hw
    clear b1 b2 b3 b8 b4 b5 b5' b6 b7 l1 l2 l3
    try simp (disch := omega) only [pk_un, pk_us]
    try simp only [upd]
    all_goals grind (splits := 24)
  · intro hm
    have t5 := b5
    clear b1 b2 b3 b8 b4 b5 b5' b6 b7 l1 l2 l3
    try simp (disch := omega) only [pk_un, pk_us]
    try simp only [upd]
    all_goals grind (splits := 24)
  · intro i hi
    have t5 := b5' i
    have := l2 i
    have := ho i
    clear b1 b2 b3 b8 b4 b5 b5' b6 b7 l1 l2 l3
    try simp (disch := omega) only [pk_un, pk_us]
    try simp only [upd]
    all_goals grind (splits := 24)
  · intro i hi
    have t6 := b6 i
    have := l2 i
    have := l2 (i + 1)
    have := ho i
    have := ho (i + 1)
    clear b1 b2 b3 b8 b4 b5 b5' b6 b7 l1 l2 l3
    try simp (disch := omega) only [pk_un, pk_us]
    try simp only [upd]
    all_goals grind (splits := 24)
  · intro hm
    have t7 := b7
    have := l2 0
    have := ho 0
    clear b1 b2 b3 b8 b4 b5 b5' b6 b7 l1 l2 l3
    try simp (disch := omega) only [pk_un, pk_us]
    try simp only [upd]
    all_goals grind (splits := 24)

theorem A1_1 {z : Zf} {m v : Nat} {g o : Nat → Nat} {e : Nat} (hv : v < 6) (hl : LnOk m g) (h : A1 z m g o e) (hs : z v = 1) : A1 (upd (upd (upd z (30 + v) (z 49)) 49 (z (24 + v))) v 3) (m + 1) (snocG m g v) o e := by
  have e24 : z (24 + v) = nI (o v) := (h.2.1 v hv).2.2.1
  have hb : o v < 7 := (h.2.1 v hv).1
  have ho := A1_out h (Or.inr hs)
  have hm : m = 0 ∨ ∃ k : Nat, m = k + 1 := by rcases m with _ | k; exact Or.inl rfl; exact Or.inr ⟨k, rfl⟩
  obtain ⟨l1, l2, l3⟩ := hl
  have hov := h.2.1 v hv
  obtain ⟨b0, b1, b2, b3, b8, b4, b5, b5', b6, b7⟩ := h
  refine ⟨by omega, ?_, ?_, ?_, ?_, ?_, ?_, ?_, ?_, ?_⟩
  · intro w hw
    have t1 := b1 w hw
    have t2 := b2 v w hv hw
    clear b1 b2 b3 b8 b4 b5 b5' b6 b7 l1 l2 l3
    try simp (disch := omega) only [pk_un, pk_us]
    try simp only [upd]
    all_goals grind (splits := 24)
  · intro u w hu hw
    have t2 := b2 u w hu hw
    clear b1 b2 b3 b8 b4 b5 b5' b6 b7 l1 l2 l3
    try simp (disch := omega) only [pk_un, pk_us]
    try simp only [upd]
    all_goals grind (splits := 24)
  · have t3 := b3
    clear b1 b2 b3 b8 b4 b5 b5' b6 b7 l1 l2 l3
    try simp (disch := omega) only [pk_un, pk_us]
    try simp only [upd]
    all_goals grind (splits := 24)
  · intro c hc
    have t8 := b8 c hc
    clear b1 b2 b3 b8 b4 b5 b5' b6 b7 l1 l2 l3
    try simp (disch := omega) only [pk_un, pk_us]
    try simp only [upd]
    all_goals grind (splits := 24)
  · intro w hw how
    have t4 := b4 w hw
    have t1 := b1 w hw
    have q : Out m g w := fun i hi e => how i (by omega) (by unfold snocG; rw [if_neg (by omega)]; exact e)
    have q2 := how m (by omega)
    have q3 : snocG m g v m = v := if_pos rfl
    clear b1 b2 b3 b8 b4 b5 b5' b6 b7 l1 l2 l3
    try simp (disch := omega) only [pk_un, pk_us]
    try simp only [upd]
    all_goals grind (splits := 24)
  · intro hm
    have t5 := b5
    clear b1 b2 b3 b8 b4 b5 b5' b6 b7 l1 l2 l3
    try simp (disch := omega) only [pk_un, pk_us]
    try simp only [upd]
    all_goals grind (splits := 24)
  · intro i hi
    have t5 := b5' i
    have := l2 i
    have q3 : snocG m g v i = v := if_pos (by omega)
    rw [q3]
    clear b1 b2 b3 b8 b4 b5 b5' b6 b7 l1 l2 l3
    try simp (disch := omega) only [pk_un, pk_us]
    try simp only [upd]
    all_goals grind (splits := 24)
  · intro i hi
    have t6 := b6 i
    have := l2 i
    have := l2 (i + 1)
    have q3 : snocG m g v i = g i := if_neg (by omega)
    rw [q3]
    have q4 : snocG m g v (i + 1) = if i + 1 = m then v else g (i + 1) := rfl
    rw [q4]
    have := ho i
    have := ho (i + 1)
    have t9 := b5' i
    by_cases q5 : i + 1 = m
    · rw [if_pos q5]
      clear b1 b2 b3 b8 b4 b5 b5' b6 b7 l1 l2 l3
      simp only [upd]
      grind (splits := 24)
    rw [if_neg q5]
    clear b1 b2 b3 b8 b4 b5 b5' b6 b7 l1 l2 l3
    try simp (disch := omega) only [pk_un, pk_us]
    try simp only [upd]
    all_goals grind (splits := 24)
  · intro hm
    have t7 := b7
    have := l2 0
    have q4 : snocG m g v 0 = if 0 = m then v else g 0 := rfl
    rw [q4]
    have := ho 0
    by_cases q5 : 0 = m
    · rw [if_pos q5]
      clear b1 b2 b3 b8 b4 b5' b6 b7 l1 l2 l3
      simp only [upd]
      grind (splits := 24)
    rw [if_neg q5]
    clear b1 b2 b3 b8 b4 b5 b5' b6 b7 l1 l2 l3
    try simp (disch := omega) only [pk_un, pk_us]
    try simp only [upd]
    all_goals grind (splits := 24)

theorem A1_3 {z : Zf} {m v : Nat} {g o : Nat → Nat} {e : Nat} (hv : v < 6) (hl : LnOk m g) (h : A1 z m g o e) (hs : z v = 3) (hc : ¬ z (42 + ix (z (30 + v))) = 1) : A1 (upd z v 4) m g o e := by
  have hf0 : 0 < m ∧ g 0 = v := by
    rcases in_or (m := m) (v := v) (g := g) with ho | ⟨i, hi, q⟩
    · have := h.2.2.2.2.2.1 v hv ho
      grind
    · rcases i with _ | i
      · exact ⟨hi, q⟩
      · exfalso
        have t := h.2.2.2.2.2.2.2.2.1 i hi
        rw [q] at t
        have hgi := hl.2.1 i (by omega)
        have t2 := h.2.1 (g i) hgi
        have t3 := A1_in h (show i < m by omega) rfl
        rw [t.2, ix_nI (by omega)] at hc
        grind
  obtain ⟨l1, l2, l3⟩ := hl
  have hov := h.2.1 v hv
  obtain ⟨b0, b1, b2, b3, b8, b4, b5, b5', b6, b7⟩ := h
  refine ⟨by omega, ?_, ?_, ?_, ?_, ?_, ?_, ?_, ?_, ?_⟩
  · intro w hw
    have t1 := b1 w hw
    have t2 := b2 v w hv hw
    clear b1 b2 b3 b8 b4 b5 b5' b6 b7 l1 l2 l3
    try simp (disch := omega) only [pk_un, pk_us]
    try simp only [upd]
    all_goals grind (splits := 24)
  · intro u w hu hw
    have t2 := b2 u w hu hw
    clear b1 b2 b3 b8 b4 b5 b5' b6 b7 l1 l2 l3
    try simp (disch := omega) only [pk_un, pk_us]
    try simp only [upd]
    all_goals grind (splits := 24)
  · have t3 := b3
    clear b1 b2 b3 b8 b4 b5 b5' b6 b7 l1 l2 l3
    try simp (disch := omega) only [pk_un, pk_us]
    try simp only [upd]
    all_goals grind (splits := 24)
  · intro c hc
    have t8 := b8 c hc
    clear b1 b2 b3 b8 b4 b5 b5' b6 b7 l1 l2 l3
    try simp (disch := omega) only [pk_un, pk_us]
    try simp only [upd]
    all_goals grind (splits := 24)
  · intro w hw how
    have t4 := b4 w hw
    have t1 := b1 w hw
    have := how 0 hf0.1
    clear b1 b2 b3 b8 b4 b5 b5' b6 b7 l1 l2 l3
    try simp (disch := omega) only [pk_un, pk_us]
    try simp only [upd]
    all_goals grind (splits := 24)
  · intro hm
    have t5 := b5
    clear b1 b2 b3 b8 b4 b5 b5' b6 b7 l1 l2 l3
    try simp (disch := omega) only [pk_un, pk_us]
    try simp only [upd]
    all_goals grind (splits := 24)
  · intro i hi
    have t5 := b5' i
    have := l2 i
    clear b1 b2 b3 b8 b4 b5 b5' b6 b7 l1 l2 l3
    try simp (disch := omega) only [pk_un, pk_us]
    try simp only [upd]
    all_goals grind (splits := 24)
  · intro i hi
    have t6 := b6 i
    have := l2 i
    have := l2 (i + 1)
    have := l3 0 (i + 1)
    clear b1 b2 b3 b8 b4 b5 b5' b6 b7 l1 l2 l3
    try simp (disch := omega) only [pk_un, pk_us]
    try simp only [upd]
    all_goals grind (splits := 24)
  · intro hm
    have t7 := b7
    have := l2 0
    clear b1 b2 b3 b8 b4 b5 b5' b6 b7 l1 l2 l3
    try simp (disch := omega) only [pk_un, pk_us]
    try simp only [upd]
    all_goals grind (splits := 24)

theorem A1_4 {z : Zf} {m v : Nat} {g o : Nat → Nat} {e : Nat} (hv : v < 6) (hl : LnOk m g) (h : A1 z m g o e) (hs : z v = 4) : A1 (upd (upd (upd (upd z (42 + ix (z (24 + v))) 0) (24 + v) (z (30 + v))) (30 + v) (-1)) v 0) (m - 1) (fun i => g (i + 1)) (fun u => if u = v then e else o u) (o v) := by
  have e24 : z (24 + v) = nI (o v) := (h.2.1 v hv).2.2.1
  have hb : o v < 7 := (h.2.1 v hv).1
  rw [e24, ix_nI (by omega)]
  have hf0 : 0 < m ∧ g 0 = v := by
    rcases in_or (m := m) (v := v) (g := g) with ho | ⟨i, hi, q⟩
    · have := h.2.2.2.2.2.1 v hv ho
      grind
    · have := A1_in h hi q
      grind
  have h30 : z (30 + v) = nI e := by
    have := h.2.2.2.2.2.2.2.2.2 hf0.1
    rw [← hf0.2]
    exact this.2
  rw [h30]
  have he := h.1
  obtain ⟨l1, l2, l3⟩ := hl
  have hov := h.2.1 v hv
  obtain ⟨b0, b1, b2, b3, b8, b4, b5, b5', b6, b7⟩ := h
  refine ⟨by omega, ?_, ?_, ?_, ?_, ?_, ?_, ?_, ?_, ?_⟩
  · intro w hw
    have t1 := b1 w hw
    have t2 := b2 v w hv hw
    have tv := b2 w v hw hv
    have t3 := b3
    clear b1 b2 b3 b8 b4 b5 b5' b6 b7 l1 l2 l3
    try simp (disch := omega) only [pk_un, pk_us]
    try simp only [upd]
    all_goals grind (splits := 24)
  · intro u w hu hw
    have t2 := b2 u w hu hw
    have tu := b1 u hu
    have tw := b1 w hw
    have tuv := b2 u v hu hv
    clear b1 b2 b3 b8 b4 b5 b5' b6 b7 l1 l2 l3
    try simp (disch := omega) only [pk_un, pk_us]
    try simp only [upd]
    all_goals grind (splits := 24)
  · have t3 := b3
    clear b1 b2 b3 b8 b4 b5 b5' b6 b7 l1 l2 l3
    try simp (disch := omega) only [pk_un, pk_us]
    try simp only [upd]
    all_goals grind (splits := 24)
  · intro c hc
    have t8 := b8 c hc
    clear b1 b2 b3 b8 b4 b5 b5' b6 b7 l1 l2 l3
    try simp (disch := omega) only [pk_un, pk_us]
    try simp only [upd]
    all_goals grind (splits := 24)
  · intro w hw how
    have t4 := b4 w hw
    have t1 := b1 w hw
    have q : w ≠ v → Out m g w := fun e i hi e2 => by rcases i with _ | i; exact e (by rw [← e2]; exact hf0.2); exact how i (by omega) e2
    clear b1 b2 b3 b8 b4 b5 b5' b6 b7 l1 l2 l3
    try simp (disch := omega) only [pk_un, pk_us]
    try simp only [upd]
    all_goals grind (splits := 24)
  · intro hm
    have t5 := b5
    have t0 := b5' 0
    clear b1 b2 b3 b8 b4 b5 b5' b6 b7 l1 l2 l3
    try simp (disch := omega) only [pk_un, pk_us]
    try simp only [upd]
    all_goals grind (splits := 24)
  · intro i hi
    have t5 := b5' i
    have := l2 i
    have := b5' (i + 1)
    have := l3 0 (i + 1)
    have := l2 (i + 1)
    clear b1 b2 b3 b8 b4 b5 b5' b6 b7 l1 l2 l3
    try simp (disch := omega) only [pk_un, pk_us]
    try simp only [upd]
    all_goals grind (splits := 24)
  · intro i hi
    have t6 := b6 i
    have := l2 i
    have := l2 (i + 1)
    have := b6 (i + 1)
    have := l2 (i + 2)
    have := l3 0 (i + 1)
    have := l3 0 (i + 2)
    clear b1 b2 b3 b8 b4 b5 b5' b6 b7 l1 l2 l3
    try simp (disch := omega) only [pk_un, pk_us]
    try simp only [upd]
    all_goals grind (splits := 24)
  · intro hm
    have t7 := b7
    have := l2 0
    have := b6 0
    have := l3 0 1
    have := l2 1
    clear b1 b2 b3 b8 b4 b5 b5' b6 b7 l1 l2 l3
    try simp (disch := omega) only [pk_un, pk_us]
    try simp only [upd]
    all_goals grind (splits := 24)

/-- kind 2 -/
def A2 (z : Zf) (m : Nat) (g : Nat → Nat) : Prop :=
  (∀ v : Nat, v < 6 → Out m g v → z v = 0 ∧ z (36 + v) = -1) ∧
  (∀ i : Nat, i < m → z (36 + g i) = z 51 + nI i ∧ (z (g i) = 3 ∨ (z (g i) = 4 ∧ i = 0))) ∧
  z 50 = z 51 + nI m
theorem A2_0 {z : Zf} {m v : Nat} {g : Nat → Nat} (hv : v < 6) (hl : LnOk m g) (h : A2 z m g) (hs : z v = 0) : A2 (upd (upd (upd z (36 + v) (z 50)) 50 (z 50 + 1)) v 3) (m + 1) (snocG m g v) ∧ Out m g v := by
  obtain ⟨l1, l2, l3⟩ := hl
  obtain ⟨a1, a2, a3⟩ := h
  have ho : Out m g v := by
    intro i hi q
    have := a2 i hi
    grind
  refine ⟨⟨?_, ?_, ?_⟩, ho⟩
  · intro w hw how
    have t1 := a1 w hw (fun i hi e => how i (by omega) (by unfold snocG; rw [if_neg (by omega)]; exact e))
    have q2 := how m (by omega)
    have q3 : snocG m g v m = v := if_pos rfl
    clear a1 a2 a3 l1 l2 l3
    simp only [upd]
    grind
  · intro i hi
    have q4 : snocG m g v i = if i = m then v else g i := rfl
    rw [q4]
    by_cases q : i = m
    · rw [if_pos q]
      clear a1 a2 l1 l2 l3
      simp only [upd]
      grind
    · rw [if_neg q]
      have t := a2 i (by omega)
      have := l2 i (by omega)
      have := ho i (by omega)
      clear a1 a2 l1 l2 l3
      simp only [upd]
      grind
  · rw [pk_un (by omega), pk_us, pk_un (by omega), pk_un (by omega), pk_un (by omega), a3, Int32.add_assoc, nI_1]
theorem A2_3 {z : Zf} {m v : Nat} {g : Nat → Nat} (hv : v < 6) (hl : LnOk m g) (h : A2 z m g) (hs : z v = 3) (ht : z (36 + v) = z 51) : A2 (upd z v 4) m g := by
  obtain ⟨l1, l2, l3⟩ := hl
  obtain ⟨a1, a2, a3⟩ := h
  have hf0 : 0 < m ∧ g 0 = v := by
    rcases in_or (m := m) (v := v) (g := g) with ho | ⟨i, hi, q⟩
    · have := a1 v hv ho
      grind
    · have t := (a2 i hi).1
      rw [q, ht] at t
      have t2 : nI i = nI 0 := by
        have h8 := congrArg (fun x => x - z 51) t
        simp only [Int32.sub_self] at h8
        rw [Int32.add_comm, Int32.add_sub_cancel] at h8
        exact h8.symm
      have t3 := (nI_eq (by omega) (by omega)).mp t2
      subst t3
      exact ⟨hi, q⟩
  refine ⟨?_, ?_, ?_⟩
  · intro w hw how
    have t1 := a1 w hw how
    have := how 0 hf0.1
    clear a1 a2 a3 l1 l2 l3
    simp only [upd]
    grind
  · intro i hi
    have t := a2 i hi
    have := l2 i hi
    have := l3 0 i hf0.1 hi
    clear a1 a2 a3 l1 l2 l3
    simp only [upd]
    grind
  · rw [pk_un (by omega), pk_un (by omega)]
    exact a3
theorem A2_4 {z : Zf} {m v : Nat} {g : Nat → Nat} (hv : v < 6) (hl : LnOk m g) (h : A2 z m g) (hs : z v = 4) : A2 (upd (upd (upd z 51 (z 51 + 1)) (36 + v) (-1)) v 0) (m - 1) (fun i => g (i + 1)) ∧ 0 < m ∧ g 0 = v := by
  obtain ⟨l1, l2, l3⟩ := hl
  obtain ⟨a1, a2, a3⟩ := h
  have hf0 : 0 < m ∧ g 0 = v := by
    rcases in_or (m := m) (v := v) (g := g) with ho | ⟨i, hi, q⟩
    · have := a1 v hv ho
      grind
    · have t := (a2 i hi).2
      grind
  obtain ⟨k, rfl⟩ : ∃ k : Nat, m = k + 1 := ⟨m - 1, by omega⟩
  refine ⟨⟨?_, ?_, ?_⟩, hf0⟩
  · intro w hw how
    have q : w ≠ v → Out (k + 1) g w := fun e i hi e2 => by rcases i with _ | i; exact e (by rw [← e2]; exact hf0.2); exact how i (by omega) e2
    have t1 := a1 w hw
    clear a1 a2 a3 l1 l2 l3
    simp only [upd]
    grind
  · intro i hi
    have t := a2 (i + 1) (by omega)
    have := l2 (i + 1) (by omega)
    have := l3 0 (i + 1) hf0.1 (by omega)
    have e9 : z 51 + nI (i + 1) = z 51 + 1 + nI i := by rw [← nI_1, Int32.add_comm (nI i), ← Int32.add_assoc]
    rw [e9] at t
    clear a1 a2 a3 l1 l2 l3
    simp only [upd]
    grind
  · rw [pk_un (by omega), pk_un (by omega), pk_un (by omega), pk_un (by omega), pk_un (by omega), pk_us, a3, ← nI_1, Int32.add_comm (nI k), ← Int32.add_assoc]
    rfl
/-- kind 3 -/
def A3 (z : Zf) (m : Nat) : Prop := m = 0 ∧ (∀ v : Nat, v < 6 → z v = 0 ∨ z v = 3 ∨ z v = 4) ∧ (z 52 = 0 ∨ (z 52 = 1 ∧ ∃ v : Nat, v < 6 ∧ z v = 4))
theorem A3_st {z : Zf} {m v : Nat} (hv : v < 6) (h : A3 z m) (hl : z v = 3 → ¬ z 52 = 1) : A3 (chG z v) m := by
  obtain ⟨a1, a2, a3⟩ := h
  refine ⟨a1, ?_, ?_⟩
  · intro w hw
    have := a2 w hw
    simp only [chG, upd]
    grind
  · by_cases h0 : z v = 0
    · have e52 : chG z v 52 = z 52 := by simp only [chG, upd]; grind
      rw [e52]
      rcases a3 with q | ⟨q, w, hw, e⟩
      · exact Or.inl q
      · refine Or.inr ⟨q, w, hw, ?_⟩
        simp only [chG, upd]
        grind
    · by_cases h3 : z v = 3
      · refine Or.inr ⟨?_, v, hv, ?_⟩
        · simp only [chG, upd]
          grind
        · simp only [chG, upd]
          grind
      · refine Or.inl ?_
        simp only [chG, upd]
        grind
