def C0 (z : Zf) : Prop := (∀ v : Nat, v < 6 → z (24 + v) = nI v ∧ z (30 + v) = -1 ∧ z (36 + v) = -1) ∧ (∀ c : Nat, c < 7 → z (42 + c) = 0) ∧ z 50 = 0 ∧ z 51 = 0 ∧ z 52 = 0
def C1 (z : Zf) : Prop := (∀ v : Nat, v < 6 → z (6 + v) = -1 ∧ z (12 + v) = 0 ∧ z (18 + v) = -1 ∧ z (36 + v) = -1) ∧ z 50 = 0 ∧ z 51 = 0 ∧ z 52 = 0
def C2 (z : Zf) : Prop := (∀ v : Nat, v < 6 → z (6 + v) = -1 ∧ z (12 + v) = 0 ∧ z (18 + v) = -1 ∧ z (24 + v) = nI v ∧ z (30 + v) = -1) ∧ (∀ c : Nat, c < 7 → z (42 + c) = 0) ∧ z 49 = 6 ∧ z 52 = 0
def C3 (z : Zf) : Prop := (∀ v : Nat, v < 6 → z (6 + v) = -1 ∧ z (12 + v) = 0 ∧ z (18 + v) = -1 ∧ z (24 + v) = nI v ∧ z (30 + v) = -1 ∧ z (36 + v) = -1) ∧ (∀ c : Nat, c < 7 → z (42 + c) = 0) ∧ z 49 = 6 ∧ z 50 = 0 ∧ z 51 = 0
def LK (z : Zf) (m : Nat) (g : Nat → Nat) : Prop := LnOk m g ∧ ((z 60 = 0 ∧ C0 z ∧ A0 z m g) ∨ (z 60 = 1 ∧ C1 z ∧ ∃ (o : Nat → Nat) (e : Nat), A1 z m g o e) ∨ (z 60 = 2 ∧ C2 z ∧ A2 z m g) ∨ (z 60 = 3 ∧ C3 z ∧ A3 z m))
theorem C0.to {z w : Zf} (h : C0 z) (e : ∀ j : Nat, 24 ≤ j → j ≠ 49 → w j = z j) : C0 w := by
  obtain ⟨h1, h2, h3, h4, h5⟩ := h
  refine ⟨fun v hv => ?_, fun c hc => ?_, ?_, ?_, ?_⟩
  · rw [e _ (by omega) (by omega), e _ (by omega) (by omega), e _ (by omega) (by omega)]; exact h1 v hv
  · rw [e _ (by omega) (by omega)]; exact h2 c hc
  · rw [e _ (by omega) (by omega)]; exact h3
  · rw [e _ (by omega) (by omega)]; exact h4
  · rw [e _ (by omega) (by omega)]; exact h5
theorem C1.to {z w : Zf} (h : C1 z) (e : ∀ j : Nat, 6 ≤ j → j < 24 ∨ (36 ≤ j ∧ j < 42) ∨ 50 ≤ j → w j = z j) : C1 w := by
  obtain ⟨h1, h3, h4, h5⟩ := h
  refine ⟨fun v hv => ?_, ?_, ?_, ?_⟩
  · rw [e _ (by omega) (by omega), e _ (by omega) (by omega), e _ (by omega) (by omega), e _ (by omega) (by omega)]; exact h1 v hv
  · rw [e _ (by omega) (by omega)]; exact h3
  · rw [e _ (by omega) (by omega)]; exact h4
  · rw [e _ (by omega) (by omega)]; exact h5
theorem C2.to {z w : Zf} (h : C2 z) (e : ∀ j : Nat, 6 ≤ j → j < 36 ∨ (42 ≤ j ∧ j ≠ 50 ∧ j ≠ 51) → w j = z j) : C2 w := by
  obtain ⟨h1, h2, h3, h4⟩ := h
  refine ⟨fun v hv => ?_, fun c hc => ?_, ?_, ?_⟩
  · rw [e _ (by omega) (by omega), e _ (by omega) (by omega), e _ (by omega) (by omega), e _ (by omega) (by omega), e _ (by omega) (by omega)]; exact h1 v hv
  · rw [e _ (by omega) (by omega)]; exact h2 c hc
  · rw [e _ (by omega) (by omega)]; exact h3
  · rw [e _ (by omega) (by omega)]; exact h4
theorem C3.to {z w : Zf} (h : C3 z) (e : ∀ j : Nat, 6 ≤ j → j ≠ 52 → w j = z j) : C3 w := by
  obtain ⟨h1, h2, h3, h4, h5⟩ := h
  refine ⟨fun v hv => ?_, fun c hc => ?_, ?_, ?_, ?_⟩
  · rw [e _ (by omega) (by omega), e _ (by omega) (by omega), e _ (by omega) (by omega), e _ (by omega) (by omega), e _ (by omega) (by omega), e _ (by omega) (by omega)]; exact h1 v hv
  · rw [e _ (by omega) (by omega)]; exact h2 c hc
  · rw [e _ (by omega) (by omega)]; exact h3
  · rw [e _ (by omega) (by omega)]; exact h4
  · rw [e _ (by omega) (by omega)]; exact h5
/-- how the line changes with a step of v -/
def LR (z z' : Zf) (v m : Nat) (g : Nat → Nat) (m' : Nat) (g' : Nat → Nat) : Prop :=
  (z' v = 0 ∧ ¬ z 60 = 3 ∧ m = m' + 1 ∧ g 0 = v ∧ ∀ i : Nat, i < m' → g' i = g (i + 1)) ∨
  ((z 60 < 3 ∧ z v < 2 ∧ ¬ z' v < 2) ∧ m' = m + 1 ∧ g' m = v ∧ ∀ i : Nat, i < m → g' i = g i) ∨
  (¬ (z 60 < 3 ∧ z v < 2 ∧ ¬ z' v < 2) ∧ (z' v = 0 → m = 0) ∧ m' = m ∧ g' = g)
/-- the stages that there are -/
theorem A0_st {z : Zf} {m v : Nat} {g : Nat → Nat} (hv : v < 6) (h : A0 z m g) : z v = 0 ∨ z v = 1 ∨ z v = 2 ∨ z v = 3 ∨ z v = 4 ∨ z v = 5 ∨ z v = 6 ∨ z v = 7 := by
  rcases in_or (m := m) (v := v) (g := g) with ho | ⟨i, hi, e⟩
  · have := h.1 v hv ho
    grind
  · have := A0_in h hi e
    grind
theorem A1_st {z : Zf} {m v : Nat} {g o : Nat → Nat} {e : Nat} (hv : v < 6) (h : A1 z m g o e) : z v = 0 ∨ z v = 1 ∨ z v = 3 ∨ z v = 4 := by
  rcases in_or (m := m) (v := v) (g := g) with ho | ⟨i, hi, q⟩
  · have := h.2.2.2.2.2.1 v hv ho
    grind
  · have := A1_in h hi q
    grind
theorem A2_st {z : Zf} {m v : Nat} {g : Nat → Nat} (hv : v < 6) (h : A2 z m g) : z v = 0 ∨ z v = 3 ∨ z v = 4 := by
  rcases in_or (m := m) (v := v) (g := g) with ho | ⟨i, hi, q⟩
  · have := h.1 v hv ho
    grind
  · have := h.2.1 i hi
    grind
theorem lr_no {z z' : Zf} {v m : Nat} {g : Nat → Nat} (h : ¬ (z 60 < 3 ∧ z v < 2 ∧ ¬ z' v < 2)) (h0 : z' v = 0 → m = 0) : LR z z' v m g m g := Or.inr (Or.inr ⟨h, h0, rfl, rfl⟩)
theorem lr_in {z z' : Zf} {v m : Nat} {g : Nat → Nat} (h : z 60 < 3 ∧ z v < 2 ∧ ¬ z' v < 2) : LR z z' v m g (m + 1) (snocG m g v) := Or.inr (Or.inl ⟨h, rfl, if_pos rfl, fun i hi => if_neg (by omega)⟩)
theorem lr_out {z z' : Zf} {v m : Nat} {g : Nat → Nat} (h : z' v = 0) (h3 : ¬ z 60 = 3) (hm : 0 < m) (hg : g 0 = v) : LR z z' v m g (m - 1) (fun i => g (i + 1)) := Or.inl ⟨h, h3, by omega, hg, fun i hi => rfl⟩

theorem LK_0 {z : Zf} {m v : Nat} {g : Nat → Nat} (hv : v < 6) (k0 : z 60 = 0) (hn : LnOk m g) (hC : C0 z) (hA : A0 z m g) (hl : isLook z v = false) : ∃ (m' : Nat) (g' : Nat → Nat), LK (chN z v) m' g' ∧ LR z (chN z v) v m g m' g' := by
  have k3 : ¬ z 60 = 3 := by rw [k0]; decide
  have mk : ∀ (w : Zf) (m' : Nat) (g' : Nat → Nat), LnOk m' g' → A0 w m' g' → (∀ j : Nat, 24 ≤ j → j ≠ 49 → w j = z j) → LR z w v m g m' g' → chN z v = w → ∃ (m' : Nat) (g' : Nat → Nat), LK (chN z v) m' g' ∧ LR z (chN z v) v m g m' g' := fun w m' g' h1 h2 h3 h4 e => by
    rw [e]
    exact ⟨m', g', ⟨h1, Or.inl ⟨by rw [h3 60 (by omega) (by omega)]; exact k0, hC.to h3, h2⟩⟩, h4⟩
  rcases A0_st hv hA with hs | hs | hs | hs | hs | hs | hs | hs
  · refine mk _ m g hn (A0_0 hv hn hA hs) (fun j j1 j2 => by simp (disch := omega) only [pk_un]) (lr_no (fun a => a.2.2 (by rw [pk_us]; decide)) (fun a => by rw [pk_us] at a; exact absurd a (by decide))) (by unfold chN; rw [if_pos hs])
  · have ho := A0_out hA (Or.inr hs)
    rcases Nat.eq_zero_or_pos m with hm | hm
    · have h49 := hA.2.2.1 hm
      refine mk _ (m + 1) (snocG m g v) (ln_snoc hv hn ho) (by subst hm; exact A0_1a hv hn hA hs rfl) (fun j j1 j2 => by simp (disch := omega) only [pk_un]) (lr_in ⟨by rw [k0]; decide, by rw [hs]; decide, by rw [pk_un (by omega), pk_us, if_pos h49]; decide⟩) (by unfold chN; rw [if_neg (by rw [hs]; decide), if_pos hs])
    · have h49 : ¬ z 49 = -1 := by
        rw [(hA.2.2.2.1 (m - 1) (by omega)).1]
        have := hn.2.1 (m - 1) (by omega)
        exact nI_m1 (by omega)
      refine mk _ (m + 1) (snocG m g v) (ln_snoc hv hn ho) (A0_1b hv hn hA hs hm) (fun j j1 j2 => by simp (disch := omega) only [pk_un]) (lr_in ⟨by rw [k0]; decide, by rw [hs]; decide, by rw [pk_un (by omega), pk_us, if_neg h49]; decide⟩) (by unfold chN; rw [if_neg (by rw [hs]; decide), if_pos hs])
  · have hb : ix (z (18 + v)) < 6 := by
      rcases in_or (m := m) (v := v) (g := g) with ho | ⟨i, hi, e⟩
      · have := hA.1 v hv ho
        grind
      · rcases i with _ | i
        · have := hA.2.2.2.2.2 hi
          grind
        · have := hA.2.2.2.2.1 i hi
          have b := hn.2.1 i (by omega)
          rw [e] at this
          rw [this.2.1, ix_nI (by omega)]
          exact b
    refine mk _ m g hn (A0_2 hv hn hA hs) (fun j j1 j2 => by simp (disch := omega) only [pk_un]) (lr_no (fun a => by rw [hs] at a; exact absurd a.2.1 (by decide)) (fun a => by rw [pk_us] at a; exact absurd a (by decide))) (by unfold chN; rw [if_neg (by rw [hs]; decide), if_neg (by rw [hs]; decide), if_pos hs])
  · have hf : ¬ z (12 + v) = 1 := fun e => by simp [isLook, k0, hs, e] at hl
    refine mk _ m g hn (A0_3 hv hn hA hs hf) (fun j j1 j2 => by simp (disch := omega) only [pk_un]) (lr_no (fun a => by rw [hs] at a; exact absurd a.2.1 (by decide)) (fun a => by rw [pk_us] at a; exact absurd a (by decide))) (by unfold chN; rw [if_neg (by rw [hs]; decide), if_neg (by rw [hs]; decide), if_neg (by rw [hs]; decide), if_pos hs])
  · refine mk _ m g hn (A0_4 hv hn hA hs) (fun j j1 j2 => by simp (disch := omega) only [pk_un]) (lr_no (fun a => by rw [hs] at a; exact absurd a.2.1 (by decide)) (fun a => by rw [pk_us] at a; split at a <;> exact absurd a (by decide))) (by unfold chN; rw [if_neg (by rw [hs]; decide), if_neg (by rw [hs]; decide), if_neg (by rw [hs]; decide), if_neg (by rw [hs]; decide), if_pos hs])
  · have hf0 := A0_fst hv hA (Or.inr (Or.inl hs))
    by_cases ht : z 49 = nI v
    · have hm1 : m = 1 := by
        have t := (hA.2.2.2.1 (m - 1) (by omega)).1
        have b := hn.2.1 (m - 1) (by omega)
        rw [ht] at t
        have e := (nI_eq (by omega) (by omega)).mp t
        have := hn.2.2 0 (m - 1) hf0.1 (by omega) (by rw [hf0.2]; exact e)
        omega
      subst hm1
      refine mk _ 0 (fun i => g (i + 1)) (ln_shift hn) (A0_5a hv hn hA hs rfl ht) (fun j j1 j2 => by simp (disch := omega) only [pk_un]) (lr_out (m := 1) (by rw [pk_un (by omega), pk_us, if_pos ht]) k3 (by omega) hf0.2) (by unfold chN; rw [if_neg (by rw [hs]; decide), if_neg (by rw [hs]; decide), if_neg (by rw [hs]; decide), if_neg (by rw [hs]; decide), if_neg (by rw [hs]; decide), if_pos hs])
    · refine mk _ m g hn (A0_5b hv hn hA hs ht) (fun j j1 j2 => by simp (disch := omega) only [pk_un]) (lr_no (fun a => by rw [hs] at a; exact absurd a.2.1 (by decide)) (fun a => by rw [pk_un (by omega), pk_us, if_neg ht] at a; exact absurd a (by decide))) (by unfold chN; rw [if_neg (by rw [hs]; decide), if_neg (by rw [hs]; decide), if_neg (by rw [hs]; decide), if_neg (by rw [hs]; decide), if_neg (by rw [hs]; decide), if_pos hs])
  · have hf : ¬ z (6 + v) = -1 := fun e => by simp [isLook, k0, hs, e] at hl
    refine mk _ m g hn (A0_6 hv hn hA hs hf) (fun j j1 j2 => by simp (disch := omega) only [pk_un]) (lr_no (fun a => by rw [hs] at a; exact absurd a.2.1 (by decide)) (fun a => by rw [pk_us] at a; exact absurd a (by decide))) (by unfold chN; rw [if_neg (by rw [hs]; decide), if_neg (by rw [hs]; decide), if_neg (by rw [hs]; decide), if_neg (by rw [hs]; decide), if_neg (by rw [hs]; decide), if_neg (by rw [hs]; decide), if_pos hs])
  · have hf0 := A0_fst hv hA (Or.inr (Or.inr (Or.inr hs)))
    have hb : ix (z (6 + v)) < 6 := by
      have t := hA.2.2.2.2.2 hf0.1
      have t2 := (hA.2.1 v hv).1
      have t3 : ¬ z (6 + v) = -1 := by grind
      rcases t2 with q | ⟨a, ha, q⟩
      · exact absurd q t3
      · rw [q, ix_nI (by omega)]; exact ha
    refine mk _ (m - 1) (fun i => g (i + 1)) (ln_shift (by rw [show m - 1 + 1 = m by omega]; exact hn)) (A0_7 hv hn hA hs) (fun j j1 j2 => by simp (disch := omega) only [pk_un]) (lr_out (by rw [pk_us]) k3 hf0.1 hf0.2) (by unfold chN; rw [if_neg (by rw [hs]; decide), if_neg (by rw [hs]; decide), if_neg (by rw [hs]; decide), if_neg (by rw [hs]; decide), if_neg (by rw [hs]; decide), if_neg (by rw [hs]; decide), if_neg (by rw [hs]; decide)])

theorem LK_1 {z : Zf} {m v : Nat} {g o : Nat → Nat} {e : Nat} (hv : v < 6) (k1 : z 60 = 1) (hn : LnOk m g) (hC : C1 z) (hA : A1 z m g o e) (hl : isLook z v = false) : ∃ (m' : Nat) (g' : Nat → Nat), LK (chW z v) m' g' ∧ LR z (chW z v) v m g m' g' := by
  have k3 : ¬ z 60 = 3 := by rw [k1]; decide
  have e24 : z (24 + v) = nI (o v) := (hA.2.1 v hv).2.2.1
  have hb : o v < 7 := (hA.2.1 v hv).1
  have hx : ix (z (24 + v)) = o v := by rw [e24, ix_nI (by omega)]
  have mk : ∀ (w : Zf) (m' : Nat) (g' : Nat → Nat), LnOk m' g' → (∃ (o : Nat → Nat) (e : Nat), A1 w m' g' o e) → (∀ j : Nat, 6 ≤ j → j < 24 ∨ (36 ≤ j ∧ j < 42) ∨ 50 ≤ j → w j = z j) → LR z w v m g m' g' → chW z v = w → ∃ (m' : Nat) (g' : Nat → Nat), LK (chW z v) m' g' ∧ LR z (chW z v) v m g m' g' := fun w m' g' h1 h2 h3 h4 e => by
    rw [e]
    exact ⟨m', g', ⟨h1, Or.inr (Or.inl ⟨by rw [h3 60 (by omega) (by omega)]; exact k1, hC.to h3, h2⟩)⟩, h4⟩
  rcases A1_st hv hA with hs | hs | hs | hs
  · refine mk _ m g hn ⟨o, e, A1_0 hv hn hA hs⟩ (fun j j1 j2 => by simp (disch := omega) only [pk_un]) (lr_no (fun a => a.2.2 (by rw [pk_us]; decide)) (fun a => by rw [pk_us] at a; exact absurd a (by decide))) (by unfold chW; rw [if_pos hs])
  · refine mk _ (m + 1) (snocG m g v) (ln_snoc hv hn (A1_out hA (Or.inr hs))) ⟨o, e, A1_1 hv hn hA hs⟩ (fun j j1 j2 => by simp (disch := omega) only [pk_un]) (lr_in ⟨by rw [k1]; decide, by rw [hs]; decide, by rw [pk_us]; decide⟩) (by unfold chW; rw [if_neg (by rw [hs]; decide), if_pos hs])
  · have hf : ¬ z (42 + ix (z (30 + v))) = 1 := fun e => by simp [isLook, k1, hs, e] at hl
    refine mk _ m g hn ⟨o, e, A1_3 hv hn hA hs hf⟩ (fun j j1 j2 => by simp (disch := omega) only [pk_un]) (lr_no (fun a => by rw [hs] at a; exact absurd a.2.1 (by decide)) (fun a => by rw [pk_us] at a; exact absurd a (by decide))) (by unfold chW; rw [if_neg (by rw [hs]; decide), if_neg (by rw [hs]; decide), if_pos hs])
  · have hf0 : 0 < m ∧ g 0 = v := by
      rcases in_or (m := m) (v := v) (g := g) with ho | ⟨i, hi, q⟩
      · have := hA.2.2.2.2.2.1 v hv ho
        grind
      · have := A1_in hA hi q
        grind
    refine mk _ (m - 1) (fun i => g (i + 1)) (ln_shift (by rw [show m - 1 + 1 = m by omega]; exact hn)) ⟨_, _, A1_4 hv hn hA hs⟩ (fun j j1 j2 => by simp (disch := omega) only [pk_un]) (lr_out (by rw [pk_us]) k3 hf0.1 hf0.2) (by unfold chW; rw [if_neg (by rw [hs]; decide), if_neg (by rw [hs]; decide), if_neg (by rw [hs]; decide)])
theorem LK_2 {z : Zf} {m v : Nat} {g : Nat → Nat} (hv : v < 6) (k2 : z 60 = 2) (hn : LnOk m g) (hC : C2 z) (hA : A2 z m g) (hl : isLook z v = false) : ∃ (m' : Nat) (g' : Nat → Nat), LK (chT z v) m' g' ∧ LR z (chT z v) v m g m' g' := by
  have k3 : ¬ z 60 = 3 := by rw [k2]; decide
  have mk : ∀ (w : Zf) (m' : Nat) (g' : Nat → Nat), LnOk m' g' → A2 w m' g' → (∀ j : Nat, 6 ≤ j → j < 36 ∨ (42 ≤ j ∧ j ≠ 50 ∧ j ≠ 51) → w j = z j) → LR z w v m g m' g' → chT z v = w → ∃ (m' : Nat) (g' : Nat → Nat), LK (chT z v) m' g' ∧ LR z (chT z v) v m g m' g' := fun w m' g' h1 h2 h3 h4 e => by
    rw [e]
    exact ⟨m', g', ⟨h1, Or.inr (Or.inr (Or.inl ⟨by rw [h3 60 (by omega) (by omega)]; exact k2, hC.to h3, h2⟩))⟩, h4⟩
  rcases A2_st hv hA with hs | hs | hs
  · have hb := A2_0 hv hn hA hs
    refine mk _ (m + 1) (snocG m g v) (ln_snoc hv hn hb.2) hb.1 (fun j j1 j2 => by simp (disch := omega) only [pk_un]) (lr_in ⟨by rw [k2]; decide, by rw [hs]; decide, by rw [pk_us]; decide⟩) (by unfold chT; rw [if_pos hs])
  · have ht : z (36 + v) = z 51 := by
      simp [isLook, k2, hs] at hl
      exact hl
    refine mk _ m g hn (A2_3 hv hn hA hs ht) (fun j j1 j2 => by simp (disch := omega) only [pk_un]) (lr_no (fun a => by rw [hs] at a; exact absurd a.2.1 (by decide)) (fun a => by rw [pk_us] at a; exact absurd a (by decide))) (by unfold chT; rw [if_neg (by rw [hs]; decide), if_pos hs])
  · have hb := A2_4 hv hn hA hs
    refine mk _ (m - 1) (fun i => g (i + 1)) (ln_shift (by rw [show m - 1 + 1 = m by omega]; exact hn)) hb.1 (fun j j1 j2 => by simp (disch := omega) only [pk_un]) (lr_out (by rw [pk_us]) k3 hb.2.1 hb.2.2) (by unfold chT; rw [if_neg (by rw [hs]; decide), if_neg (by rw [hs]; decide)])
theorem LK_step {z : Zf} {m v : Nat} {g : Nat → Nat} (hv : v < 6) (h : LK z m g) (hl : isLook z v = false) : ∃ (m' : Nat) (g' : Nat → Nat), LK (chM z v) m' g' ∧ LR z (chM z v) v m g m' g' := by
  obtain ⟨hn, hk⟩ := h
  rcases hk with ⟨k, hC, hA⟩ | ⟨k, hC, o, e, hA⟩ | ⟨k, hC, hA⟩ | ⟨k, hC, hA⟩
  · have e : chM z v = chN z v := by unfold chM; rw [if_pos k]
    rw [e]
    exact LK_0 hv k hn hC hA hl
  · have e : chM z v = chW z v := by unfold chM; rw [if_neg (by rw [k]; decide), if_pos k]
    rw [e]
    exact LK_1 hv k hn hC hA hl
  · have e : chM z v = chT z v := by unfold chM; rw [if_neg (by rw [k]; decide), if_neg (by rw [k]; decide), if_pos k]
    rw [e]
    exact LK_2 hv k hn hC hA hl
  · have e : chM z v = chG z v := by unfold chM; rw [if_neg (by rw [k]; decide), if_neg (by rw [k]; decide), if_neg (by rw [k]; decide)]
    rw [e]
    have hg : z v = 3 → ¬ z 52 = 1 := fun hs q => by simp [isLook, k, hs, q] at hl
    have hj : ∀ j : Nat, 6 ≤ j → j ≠ 52 → chG z v j = z j := fun j h1 h2 => by unfold chG; rw [pk_un (by omega), pk_un h2]
    refine ⟨m, g, ⟨hn, Or.inr (Or.inr (Or.inr ⟨by rw [hj 60 (by omega) (by omega)]; exact k, hC.to hj, A3_st hv hA hg⟩))⟩, lr_no (fun a => by rw [k] at a; exact absurd a.1 (by decide)) (fun _ => hA.1)⟩
