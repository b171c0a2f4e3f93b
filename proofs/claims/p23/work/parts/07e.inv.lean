theorem LK.wg {z : Zf} {m : Nat} {g : Nat → Nat} (h : LK z m g) : Wg z := by
  intro v hv
  rcases h.2 with ⟨k, -, hA⟩ | ⟨k, -, o, e, hA⟩ | ⟨k, -, hA⟩ | ⟨k, -, hA⟩
  · rcases A0_st hv hA with hs | hs | hs | hs | hs | hs | hs | hs
    · exact ⟨0, by omega, hs, Or.inl k⟩
    · exact ⟨1, by omega, hs, Or.inl k⟩
    · exact ⟨2, by omega, hs, Or.inl k⟩
    · exact ⟨3, by omega, hs, Or.inl k⟩
    · exact ⟨4, by omega, hs, Or.inl k⟩
    · exact ⟨5, by omega, hs, Or.inl k⟩
    · exact ⟨6, by omega, hs, Or.inl k⟩
    · exact ⟨7, by omega, hs, Or.inl k⟩
  · rcases A1_st hv hA with hs | hs | hs | hs
    · exact ⟨0, by omega, hs, Or.inr (Or.inl ⟨k, by omega⟩)⟩
    · exact ⟨1, by omega, hs, Or.inr (Or.inl ⟨k, by omega⟩)⟩
    · exact ⟨3, by omega, hs, Or.inr (Or.inl ⟨k, by omega⟩)⟩
    · exact ⟨4, by omega, hs, Or.inr (Or.inl ⟨k, by omega⟩)⟩
  · rcases A2_st hv hA with hs | hs | hs
    · exact ⟨0, by omega, hs, Or.inr (Or.inr ⟨Or.inl k, by omega⟩)⟩
    · exact ⟨3, by omega, hs, Or.inr (Or.inr ⟨Or.inl k, by omega⟩)⟩
    · exact ⟨4, by omega, hs, Or.inr (Or.inr ⟨Or.inl k, by omega⟩)⟩
  · rcases hA.2.1 v hv with hs | hs | hs
    · exact ⟨0, by omega, hs, Or.inr (Or.inr ⟨Or.inr k, by omega⟩)⟩
    · exact ⟨3, by omega, hs, Or.inr (Or.inr ⟨Or.inr k, by omega⟩)⟩
    · exact ⟨4, by omega, hs, Or.inr (Or.inr ⟨Or.inr k, by omega⟩)⟩
theorem kk_01 {z : Zf} (h0 : z 60 = 0) (h1 : z 60 = 1) : False := by rw [h0] at h1; exact absurd h1 (by decide)
theorem kk_02 {z : Zf} (h0 : z 60 = 0) (h1 : z 60 = 2) : False := by rw [h0] at h1; exact absurd h1 (by decide)
theorem kk_03 {z : Zf} (h0 : z 60 = 0) (h1 : z 60 = 3) : False := by rw [h0] at h1; exact absurd h1 (by decide)
theorem kk_12 {z : Zf} (h0 : z 60 = 1) (h1 : z 60 = 2) : False := by rw [h0] at h1; exact absurd h1 (by decide)
theorem kk_13 {z : Zf} (h0 : z 60 = 1) (h1 : z 60 = 3) : False := by rw [h0] at h1; exact absurd h1 (by decide)
theorem kk_23 {z : Zf} (h0 : z 60 = 2) (h1 : z 60 = 3) : False := by rw [h0] at h1; exact absurd h1 (by decide)
theorem LK.wb {z : Zf} {m : Nat} {g : Nat → Nat} (h : LK z m g) : Wb z := by
  obtain ⟨hn, hk⟩ := h
  rcases hk with ⟨k, hC, hA⟩ | ⟨k, hC, o, e, hA⟩ | ⟨k, hC, hA⟩ | ⟨k, hC, hA⟩
  · refine ⟨fun v hv => (hA.2.1 v hv).2, fun c hc => Or.inl (hC.2.1 c hc), Or.inl hC.2.2.2.2, fun v hv => (hA.2.1 v hv).1, fun _ => ?_, fun q => (kk_01 k q).elim, fun q => (kk_01 k q).elim⟩
    rcases Nat.eq_zero_or_pos m with q | q
    · exact Or.inl (hA.2.2.1 q)
    · exact Or.inr ⟨g (m - 1), hn.2.1 _ (by omega), (hA.2.2.2.1 (m - 1) (by omega)).1⟩
  · refine ⟨fun v hv => Or.inl (hC.1 v hv).2.1, hA.2.2.2.2.1, Or.inl hC.2.2.2, fun v hv => Or.inl (hC.1 v hv).1, fun q => (kk_01 q k).elim, fun _ => ?_, fun _ v hv hs => ?_⟩
    · rcases Nat.eq_zero_or_pos m with q | q
      · exact ⟨e, hA.1, hA.2.2.2.2.2.2.1 q⟩
      · exact ⟨o (g (m - 1)), (hA.2.1 _ (hn.2.1 _ (by omega))).1, hA.2.2.2.2.2.2.2.1 (m - 1) (by omega)⟩
    · rcases in_or (m := m) (v := v) (g := g) with ho | ⟨i, hi, q⟩
      · have := hA.2.2.2.2.2.1 v hv ho
        grind
      · rcases i with _ | i
        · exact ⟨e, hA.1, by rw [← q]; exact (hA.2.2.2.2.2.2.2.2.2 hi).2⟩
        · have := hA.2.2.2.2.2.2.2.2.1 i hi
          exact ⟨o (g i), (hA.2.1 _ (hn.2.1 i (by omega))).1, by rw [← q]; exact this.2⟩
  · exact ⟨fun v hv => Or.inl (hC.1 v hv).2.1, fun c hc => Or.inl (hC.2.1 c hc), Or.inl hC.2.2.2, fun v hv => Or.inl (hC.1 v hv).1, fun q => (kk_02 q k).elim, fun q => (kk_12 q k).elim, fun q => (kk_12 q k).elim⟩
  · refine ⟨fun v hv => Or.inl (hC.1 v hv).2.1, fun c hc => Or.inl (hC.2.1 c hc), ?_, fun v hv => Or.inl (hC.1 v hv).1, fun q => (kk_03 q k).elim, fun q => (kk_13 q k).elim, fun q => (kk_13 q k).elim⟩
    rcases hA.2.2 with q | ⟨q, -⟩
    · exact Or.inl q
    · exact Or.inr q
/-- who queues is in line -/
theorem LK.qu {z : Zf} {m v : Nat} {g : Nat → Nat} (h : LK z m g) (hv : v < 6) : quB z v = true ↔ ∃ i : Nat, i < m ∧ g i = v := by
  obtain ⟨hn, hk⟩ := h
  rcases hk with ⟨k, hC, hA⟩ | ⟨k, hC, o, e, hA⟩ | ⟨k, hC, hA⟩ | ⟨k, hC, hA⟩
  · have eq : quB z v = !decide (z v < 2) := by simp [quB, k]
    rw [eq]
    rcases in_or (m := m) (v := v) (g := g) with ho | ⟨i, hi, e⟩
    · have t := (hA.1 v hv ho).1
      constructor
      · intro q
        exfalso
        rcases t with t | t
        · rw [t] at q; exact absurd q (by decide)
        · rw [t.1] at q; exact absurd q (by decide)
      · intro ⟨i, hi, e⟩
        exact absurd e (ho i hi)
    · refine ⟨fun _ => ⟨i, hi, e⟩, fun _ => ?_⟩
      rcases A0_in hA hi e with t | t | ⟨-, t | t | t | t⟩ <;> (rw [t]; decide)
  · have eq : quB z v = !decide (z v < 3) := by simp [quB, k]
    rw [eq]
    rcases in_or (m := m) (v := v) (g := g) with ho | ⟨i, hi, e⟩
    · have t := (hA.2.2.2.2.2.1 v hv ho).1
      constructor
      · intro q
        exfalso
        rcases t with t | t <;> (rw [t] at q; exact absurd q (by decide))
      · intro ⟨i, hi, e⟩
        exact absurd e (ho i hi)
    · refine ⟨fun _ => ⟨i, hi, e⟩, fun _ => ?_⟩
      rcases A1_in hA hi e with t | ⟨-, t⟩ <;> (rw [t]; decide)
  · have eq : quB z v = !decide (z v = 0) := by simp [quB, k]
    rw [eq]
    rcases in_or (m := m) (v := v) (g := g) with ho | ⟨i, hi, e⟩
    · have t := (hA.1 v hv ho).1
      constructor
      · intro q
        rw [t] at q; exact absurd q (by decide)
      · intro ⟨i, hi, e⟩
        exact absurd e (ho i hi)
    · refine ⟨fun _ => ⟨i, hi, e⟩, fun _ => ?_⟩
      have t := (hA.2.1 i hi).2
      rw [e] at t
      rcases t with t | ⟨t, -⟩ <;> (rw [t]; decide)
  · have eq : quB z v = false := by simp [quB, k]
    rw [eq, hA.1]
    constructor
    · intro q; cases q
    · intro ⟨i, hi, _⟩; exact absurd hi (Nat.not_lt_zero i)
theorem Inv.wf {z : Zf} (h : Inv z) : Wf z := by
  obtain ⟨⟨m, g, h1, h2⟩, -⟩ := h
  exact h1.wf ⟨m, h1.1.1, h2.1⟩
theorem Inv.wc {z : Zf} (h : Inv z) : Wc z := by
  have hw := h.wf
  obtain ⟨⟨m, g, h1, h2⟩, -⟩ := h
  exact ⟨hw, h1.wg, h1.wb⟩
theorem Inv.li {z : Zf} (h : Inv z) : Li z := by
  obtain ⟨⟨m, g, h1, h2⟩, -⟩ := h
  refine ⟨m, h1.1.1, h2.1, fun i hi => ⟨g i, h1.1.2.1 i hi, h2.2 i hi⟩, fun i j hi hj e => ?_, fun v hv => ?_⟩
  · rw [h2.2 i hi, h2.2 j hj] at e
    have b1 := h1.1.2.1 i hi
    have b2 := h1.1.2.1 j hj
    exact h1.1.2.2 i j hi hj ((nI_eq (by omega) (by omega)).mp e)
  · rw [h1.qu hv]
    constructor
    · intro ⟨i, hi, e⟩
      exact ⟨i, hi, by rw [h2.2 i hi, e]⟩
    · intro ⟨i, hi, e⟩
      rw [h2.2 i hi] at e
      have b1 := h1.1.2.1 i hi
      exact ⟨i, hi, (nI_eq (by omega) (by omega)).mp e⟩
theorem LK.to {z w : Zf} {m : Nat} {g : Nat → Nat} (h : LK z m g) (e : ∀ j : Nat, j < 53 → w j = z j) (e60 : w 60 = z 60) : LK w m g := by
  obtain ⟨hn, hk⟩ := h
  have l2 := hn.2.1
  refine ⟨hn, ?_⟩
  rcases hk with ⟨k, ⟨c1, c2, c3, c4, c5⟩, a1, a2, a3, a4, a5, a6⟩ | ⟨k, ⟨c1, c3, c4, c5⟩, o, x, b0, b1, b2, b3, b8, b4, b5, b5', b6, b7⟩ | ⟨k, ⟨c1, c2, c3, c4⟩, a1, a2, a3⟩ | ⟨k, ⟨c1, c2, c3, c4, c5⟩, a1, a2, a3⟩
  · refine Or.inl ⟨by rw [e60]; exact k, ⟨fun v hv => ?_, fun c hc => ?_, ?_, ?_, ?_⟩, fun v hv ho => ?_, fun v hv => ?_, fun hm => ?_, fun i hi => ?_, fun i hi => ?_, fun hm => ?_⟩
    · simp (disch := omega) only [e]; exact c1 v hv
    · simp (disch := omega) only [e]; exact c2 c hc
    · simp (disch := omega) only [e]; exact c3
    · simp (disch := omega) only [e]; exact c4
    · simp (disch := omega) only [e]; exact c5
    · simp (disch := omega) only [e]; exact a1 v hv ho
    · simp (disch := omega) only [e]; exact a2 v hv
    · simp (disch := omega) only [e]; exact a3 hm
    · have := l2 i (by omega)
      simp (disch := omega) only [e]; exact a4 i hi
    · have := l2 i (by omega)
      have := l2 (i + 1) (by omega)
      simp (disch := omega) only [e]; exact a5 i hi
    · have := l2 0 (by omega)
      simp (disch := omega) only [e]; exact a6 hm
  · refine Or.inr (Or.inl ⟨by rw [e60]; exact k, ⟨fun v hv => ?_, ?_, ?_, ?_⟩, o, x, b0, fun v hv => ?_, b2, ?_, fun c hc => ?_, fun v hv ho => ?_, fun hm => ?_, fun i hi => ?_, fun i hi => ?_, fun hm => ?_⟩)
    · simp (disch := omega) only [e]; exact c1 v hv
    · simp (disch := omega) only [e]; exact c3
    · simp (disch := omega) only [e]; exact c4
    · simp (disch := omega) only [e]; exact c5
    · have := (b1 v hv).1
      simp (disch := omega) only [e]; exact b1 v hv
    · simp (disch := omega) only [e]; exact b3
    · simp (disch := omega) only [e]; exact b8 c hc
    · simp (disch := omega) only [e]; exact b4 v hv ho
    · simp (disch := omega) only [e]; exact b5 hm
    · simp (disch := omega) only [e]; exact b5' i hi
    · have := l2 (i + 1) (by omega)
      simp (disch := omega) only [e]; exact b6 i hi
    · have := l2 0 (by omega)
      simp (disch := omega) only [e]; exact b7 hm
  · refine Or.inr (Or.inr (Or.inl ⟨by rw [e60]; exact k, ⟨fun v hv => ?_, fun c hc => ?_, ?_, ?_⟩, fun v hv ho => ?_, fun i hi => ?_, ?_⟩))
    · simp (disch := omega) only [e]; exact c1 v hv
    · simp (disch := omega) only [e]; exact c2 c hc
    · simp (disch := omega) only [e]; exact c3
    · simp (disch := omega) only [e]; exact c4
    · simp (disch := omega) only [e]; exact a1 v hv ho
    · have := l2 i (by omega)
      simp (disch := omega) only [e]; exact a2 i hi
    · simp (disch := omega) only [e]; exact a3
  · refine Or.inr (Or.inr (Or.inr ⟨by rw [e60]; exact k, ⟨fun v hv => ?_, fun c hc => ?_, ?_, ?_, ?_⟩, a1, fun v hv => ?_, ?_⟩))
    · simp (disch := omega) only [e]; exact c1 v hv
    · simp (disch := omega) only [e]; exact c2 c hc
    · simp (disch := omega) only [e]; exact c3
    · simp (disch := omega) only [e]; exact c4
    · simp (disch := omega) only [e]; exact c5
    · simp (disch := omega) only [e]; exact a2 v hv
    · rcases a3 with q | ⟨q, v, hv, hs⟩
      · exact Or.inl (by simp (disch := omega) only [e]; exact q)
      · exact Or.inr ⟨by simp (disch := omega) only [e]; exact q, v, hv, by simp (disch := omega) only [e]; exact hs⟩
theorem Inv.x {z : Zf} (h : Inv z) {x : Int32} (hx : ¬ x < 0) : Inv (upd z 61 x) := by
  obtain ⟨⟨m, g, h1, h2⟩, h3, h4⟩ := h
  have e : ∀ j : Nat, j ≠ 61 → upd z 61 x j = z j := fun j hj => pk_un hj
  refine ⟨⟨m, g, h1.to (fun j hj => e j (by omega)) (e 60 (by omega)), ?_, ?_⟩, by rw [pk_us]; exact hx, fun j hj => by rw [e j (by omega)]; exact h4 j hj⟩
  · rw [e 53 (by omega)]; exact h2.1
  · intro i hi
    have := h1.1.1
    rw [e _ (by omega)]; exact h2.2 i hi
/-- every step keeps it -/
theorem Inv.st {z : Zf} {v : Nat} (hv : v < 6) (h : Inv z) : Inv (stM z v) := by
  have hW := h.wf
  obtain ⟨⟨m, g, h1, h2⟩, h3, h4⟩ := h
  have hm := h1.1.1
  refine ⟨?_, ?_, fun j hj => ?_⟩
  · cases hl : isLook z v with
    | true =>
      have hs : stM z v = st3 z v := by simp [stM, hl]
      rw [hs]
      exact ⟨m, g, h1.to (fun j hj => st3_lo (by omega)) (st3_lo (by omega)), by rw [st3_lo (by omega)]; exact h2.1, fun i hi => by rw [st3_lo (by omega)]; exact h2.2 i hi⟩
    | false =>
      obtain ⟨m', g', k1, k2⟩ := LK_step hv h1 hl
      obtain ⟨s1, s2, s3, s4, s5, s6⟩ := stM_nl hv hW hm h2.1 hl
      have hto : (m < 6 ∨ chM z v v = 0 ∨ ¬ (z 60 < 3 ∧ z v < 2 ∧ ¬ chM z v v < 2)) → LK (stM z v) m' g' := fun q => k1.to s1 (by rw [s2 q, chM_60 hv hW])
      rcases k2 with ⟨r1, r2, r3, r4, r5⟩ | ⟨r1, r2, r3, r4⟩ | ⟨r1, r2, r3, r4⟩
      · have e54 : z 54 = nI v := by rw [← r4]; exact h2.2 0 (by omega)
        obtain ⟨t1, t2⟩ := s3 r1 (by omega) e54 (fun j hj e => by
          rw [h2.2 j hj] at e
          have b := h1.1.2.1 j hj
          exact h1.1.2.2 j 0 hj (by omega) (((nI_eq (by omega) (by omega)).mp e).trans r4.symm))
        refine ⟨m', g', hto (Or.inr (Or.inl r1)), by rw [t1]; congr 1; omega, fun i hi => ?_⟩
        rw [t2 i (by omega), r5 i hi]
        exact h2.2 (i + 1) (by omega)
      · have hm6 : m < 6 := by have := k1.1.1; omega
        have n0 : ¬ chM z v v = 0 := fun e => r1.2.2 (by rw [e]; decide)
        obtain ⟨t1, t2, t3⟩ := s4 hm6 n0 r1
        refine ⟨m', g', hto (Or.inl hm6), by rw [t1, r2], fun i hi => ?_⟩
        by_cases q : i = m
        · subst q; rw [t2, r3]
        · rw [t3 i (by omega), r4 i (by omega)]; exact h2.2 i (by omega)
      · subst r3
        subst r4
        refine ⟨m', g', hto (Or.inr (Or.inr r1)), ?_⟩
        by_cases n0 : chM z v v = 0
        · have hm0 := r2 n0
          subst hm0
          exact ⟨s6 n0 rfl, fun i hi => absurd hi (Nat.not_lt_zero i)⟩
        · obtain ⟨t1, t2⟩ := s5 n0 r1
          exact ⟨t1, fun i hi => by rw [t2 i hi]; exact h2.2 i hi⟩
  · rw [stM_cn hv hW (by omega), if_neg (fun a => by omega), st3_lo (by omega)]; exact h3
  · rw [stM_cn hv hW (by omega), if_neg (fun a => by omega), st3_at, if_neg (by omega), if_neg (by omega), if_neg (by omega)]; exact h4 j hj
