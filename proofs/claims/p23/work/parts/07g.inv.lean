theorem least {P : Nat → Bool} : ∀ {n : Nat}, P n = true → ∃ k : Nat, k ≤ n ∧ P k = true ∧ ∀ j : Nat, j < k → P j = false := by
  intro n
  induction n using Nat.strongRecOn with
  | _ n ih =>
    intro h
    by_cases q : ∃ j : Nat, j < n ∧ P j = true
    · obtain ⟨j, hj, e⟩ := q
      obtain ⟨k, h1, h2, h3⟩ := ih j hj e
      exact ⟨k, by omega, h2, h3⟩
    · refine ⟨n, Nat.le_refl n, h, fun j hj => ?_⟩
      cases e : P j
      · rfl
      · exact absurd ⟨j, hj, e⟩ q
theorem look_congr {z w : Zf} {v : Nat} (hv : v < 6) (hW : Wf z) (h : ∀ j : Nat, j < 61 → w j = z j) : isLook w v = isLook z v := by
  have e30 : z 60 = 1 → z v = 3 → w (42 + ix (w (30 + v))) = z (42 + ix (z (30 + v))) := by
    intro k hs
    obtain ⟨a, ha, e⟩ := hW.w k hv hs
    rw [h (30 + v) (by omega), e, ix_nI (by omega), h _ (by omega)]
  unfold isLook
  rw [h 60 (by omega), h v (by omega), h (12 + v) (by omega), h (6 + v) (by omega), h (36 + v) (by omega), h 51 (by omega), h 52 (by omega)]
  by_cases k0 : z 60 = 0
  · rw [if_pos k0, if_pos k0]
  · rw [if_neg k0, if_neg k0]
    by_cases h3 : z v = 3
    · rw [if_pos h3, if_pos h3]
      by_cases k1 : z 60 = 1
      · rw [if_pos k1, if_pos k1, e30 k1 h3]
      · rw [if_neg k1, if_neg k1]
    · rw [if_neg h3, if_neg h3]
theorem Inv.it {z : Zf} {v : Nat} (hv : v < 6) (h : Inv z) : ∀ j : Nat, Inv (itS z v j)
  | 0 => h
  | j + 1 => (Inv.it hv h j).st hv
theorem Inv.stv {z : Zf} {v u : Nat} (hv : v < 6) (hu : u < 6) (h : Inv z) (hl : isLook z v = false) : stM z v u = chM z v u := by
  have hW := h.wf
  obtain ⟨⟨m, g, h1, h2⟩, -⟩ := h
  exact (stM_nl hv hW h1.1.1 h2.1 hl).1 u (by omega)
theorem go_ex {z : Zf} {v : Nat} (hv : v < 6) (h : Inv z) : ∃ N : Nat, GoC z v N := by
  have key : ∀ n : Nat, (∀ j : Nat, j < n → stp (itS z v (j + 1)) v = false) → rk (itS z v (n + 1) v) + n ≤ 7 := by
    intro n
    induction n with
    | zero => intro _; have := rk_le (itS z v (0 + 1) v); omega
    | succ n ih =>
      intro hn
      have t := ih (fun j hj => hn j (by omega))
      have hs := hn n (by omega)
      simp only [stp, Bool.or_eq_false_iff, decide_eq_false_iff_not] at hs
      have hI := Inv.it hv h (n + 1)
      have e : itS z v (n + 1 + 1) v = chM (itS z v (n + 1)) v v := hI.stv hv hv hs.2
      have := rk_step hv hI.wc hs.1.2
      rw [e]
      omega
  have ex : ∃ n : Nat, stp (itS z v (n + 1)) v = true := by
    by_cases q : ∃ n : Nat, stp (itS z v (n + 1)) v = true
    · exact q
    · have := key 8 (fun j _ => by cases e : stp (itS z v (j + 1)) v; rfl; exact absurd ⟨j, e⟩ q)
      omega
  obtain ⟨n, hn⟩ := ex
  obtain ⟨k, -, k2, k3⟩ := least (P := fun j => stp (itS z v (j + 1)) v) hn
  have hk := key k k3
  refine ⟨k + 1, ⟨by omega, by omega, fun j _ => (Inv.it hv h j).wf, fun j h0 hj => ?_⟩, fun j _ => ⟨(Inv.it hv h j).wc, (Inv.it hv h j).li⟩⟩
  obtain ⟨i, rfl⟩ : ∃ i : Nat, j = i + 1 := ⟨j - 1, by omega⟩
  by_cases q : i = k
  · subst q
    rw [decide_eq_true rfl]; exact k2
  · rw [decide_eq_false (by omega)]
    exact k3 i (by omega)
theorem Inv.rd {z : Zf} (h : Inv z) : ∀ i : Nat, i ≤ 6 → Inv (rdZ z i)
  | 0, _ => h
  | i + 1, hi => by
    have := Inv.rd h i (by omega)
    simp only [rdZ]
    split
    · exact this
    · exact this.st (by omega)
theorem Inv.fr {z : Zf} (h : Inv z) : ∀ n : Nat, Inv (frZ z n)
  | 0 => h
  | n + 1 => (Inv.fr h n).rd 6 (by omega)
def phi (z : Zf) : Nat := rk (z 0) + rk (z 1) + rk (z 2) + rk (z 3) + rk (z 4) + rk (z 5)
theorem phi_le (z : Zf) : phi z ≤ 42 := by
  have := rk_le (z 0)
  have := rk_le (z 1)
  have := rk_le (z 2)
  have := rk_le (z 3)
  have := rk_le (z 4)
  have := rk_le (z 5)
  unfold phi
  omega
theorem phi_lt {z w : Zf} {v : Nat} (hv : v < 6) (h1 : rk (w v) < rk (z v)) (h2 : ∀ u : Nat, u < 6 → u ≠ v → w u = z u) : phi w < phi z := by
  unfold phi
  rcases (show v = 0 ∨ v = 1 ∨ v = 2 ∨ v = 3 ∨ v = 4 ∨ v = 5 by omega) with rfl | rfl | rfl | rfl | rfl | rfl
  · rw [h2 1 (by omega) (by omega), h2 2 (by omega) (by omega), h2 3 (by omega) (by omega), h2 4 (by omega) (by omega), h2 5 (by omega) (by omega)]; omega
  · rw [h2 0 (by omega) (by omega), h2 2 (by omega) (by omega), h2 3 (by omega) (by omega), h2 4 (by omega) (by omega), h2 5 (by omega) (by omega)]; omega
  · rw [h2 0 (by omega) (by omega), h2 1 (by omega) (by omega), h2 3 (by omega) (by omega), h2 4 (by omega) (by omega), h2 5 (by omega) (by omega)]; omega
  · rw [h2 0 (by omega) (by omega), h2 1 (by omega) (by omega), h2 2 (by omega) (by omega), h2 4 (by omega) (by omega), h2 5 (by omega) (by omega)]; omega
  · rw [h2 0 (by omega) (by omega), h2 1 (by omega) (by omega), h2 2 (by omega) (by omega), h2 3 (by omega) (by omega), h2 5 (by omega) (by omega)]; omega
  · rw [h2 0 (by omega) (by omega), h2 1 (by omega) (by omega), h2 2 (by omega) (by omega), h2 3 (by omega) (by omega), h2 4 (by omega) (by omega)]; omega
theorem phi_st {z : Zf} {v : Nat} (hv : v < 6) (h : Inv z) (h0 : ¬ z v = 0) (hl : isLook z v = false) : phi (stM z v) < phi z :=
  phi_lt hv (by rw [h.stv hv hv hl]; exact rk_step hv h.wc h0) (fun u hu hne => by rw [h.stv hv hu hl]; exact chM_oth hv h.wf hu hne)
theorem look_lo {z : Zf} {v : Nat} (hl : isLook z v = true) {j : Nat} (hj : j < 62) : stM z v j = z j := by
  have hs : stM z v = st3 z v := by simp [stM, hl]
  rw [hs]; exact st3_lo hj
theorem phi_congr {z w : Zf} (h : ∀ j : Nat, j < 61 → w j = z j) : phi w = phi z := by
  unfold phi
  rw [h 0 (by omega), h 1 (by omega), h 2 (by omega), h 3 (by omega), h 4 (by omega), h 5 (by omega)]
theorem rd_phi {z : Zf} (h : Inv z) : ∀ i : Nat, i ≤ 6 → phi (rdZ z i) < phi z ∨ ((∀ j : Nat, j < 61 → rdZ z i j = z j) ∧ ∀ u : Nat, u < i → z u = 0 ∨ isLook z u = true)
  | 0, _ => Or.inr ⟨fun _ _ => rfl, fun u hu => absurd hu (Nat.not_lt_zero u)⟩
  | i + 1, hi => by
    have hI := Inv.rd h i (by omega)
    simp only [rdZ]
    rcases rd_phi h i (by omega) with q | ⟨q1, q2⟩
    · left
      split
      · exact q
      · next h0 =>
        cases hl : isLook (rdZ z i) i with
        | true => rw [phi_congr (fun j hj => look_lo hl (by omega))]; exact q
        | false => have := phi_st (by omega) hI h0 hl; omega
    · have e0 : rdZ z i i = z i := q1 i (by omega)
      split
      · next h0 =>
        rw [e0] at h0
        refine Or.inr ⟨q1, fun u hu => ?_⟩
        by_cases q : u = i
        · rw [q]; exact Or.inl h0
        · exact q2 u (by omega)
      · next h0 =>
        have el : isLook (rdZ z i) i = isLook z i := look_congr (by omega) h.wf q1
        cases hl : isLook (rdZ z i) i with
        | true =>
          refine Or.inr ⟨fun j hj => by rw [look_lo hl (by omega)]; exact q1 j hj, fun u hu => ?_⟩
          by_cases q : u = i
          · rw [q]; exact Or.inr (by rw [← el]; exact hl)
          · exact q2 u (by omega)
        | false =>
          left
          have := phi_st (by omega) hI h0 hl
          rw [phi_congr q1] at this
          exact this
theorem fr_phi {z : Zf} (h : Inv z) (h0 : 0 < cntZ z 6) : phi (rdZ z 6) < phi z := by
  rcases rd_phi h 6 (by omega) with q | ⟨q1, q2⟩
  · exact q
  · exfalso
    obtain ⟨⟨m, g, h1, h2⟩, -⟩ := h
    obtain ⟨v, hv, n0, hl⟩ := h1.live (cnt_pos.mp h0)
    rcases q2 v hv with a | a
    · exact n0 a
    · rw [hl] at a; cases a
theorem fi_ex {z : Zf} (h : Inv z) : ∃ N : Nat, FiC z N := by
  have key : ∀ n : Nat, (∀ j : Nat, j < n → 0 < cntZ (frZ z j) 6) → phi (frZ z n) + n ≤ 42 := by
    intro n
    induction n with
    | zero => intro _; exact phi_le z
    | succ n ih =>
      intro hn
      have := ih (fun j hj => hn j (by omega))
      have := fr_phi (h.fr n) (hn n (by omega))
      show phi (rdZ (frZ z n) 6) + (n + 1) ≤ 42
      omega
  have ex : ∃ n : Nat, (!decide (0 < cntZ (frZ z n) 6)) = true := by
    by_cases q : ∃ n : Nat, (!decide (0 < cntZ (frZ z n) 6)) = true
    · exact q
    · have := key 43 (fun j _ => Decidable.not_not.mp (fun b => q ⟨j, by rw [decide_eq_false b]; rfl⟩))
      omega
  obtain ⟨n, hn⟩ := ex
  obtain ⟨k, -, k2, k3⟩ := least (P := fun n => !decide (0 < cntZ (frZ z n) 6)) hn
  have k4 : ∀ j : Nat, j < k → 0 < cntZ (frZ z j) 6 := fun j hj => by
    have t := k3 j hj
    simp only [Bool.not_eq_false', decide_eq_true_eq] at t
    exact t
  have hk := key k k4
  refine ⟨k, ⟨by omega, fun j i _ hi => ((h.fr j).rd i hi).wf, k4, ?_⟩, fun j i _ hi => ⟨((h.fr j).rd i hi).wc, ((h.fr j).rd i hi).li⟩⟩
  simp only [Bool.not_eq_true', decide_eq_false_iff_not] at k2
  exact k2
theorem Inv.dr {z : Zf} {k : Nat} (hk : k < 64) (h0 : 0 < k) (h : Inv z) : ∀ j : Nat, Inv (drZ z (nI k) j)
  | 0 => h
  | j + 1 => by
    have t := Inv.dr hk h0 h j
    obtain ⟨s, r, v, h1, h2, h3, h4, h5, h6, h7⟩ := lot_ok hk h0 t.2.1
    obtain ⟨n, hn, en⟩ := lcg_nat t.2.1
    simp only [drZ]
    have ev : ix (lotM (nI k) (drZ z (nI k) j 61)) = v := by unfold lotM; rw [h4, h7, ix_nI (by omega)]
    rw [ev]
    exact (t.x (by rw [en]; exact nI_pos hn)).st h6
theorem dr_ex {z : Zf} {x n : Int32} (h : Inv z) (hx : okD x n = true) : DrC z x (ix n) := by
  simp only [okD, inB, Bool.and_eq_true, decide_eq_true_eq] at hx
  obtain ⟨k, hk, e⟩ := nI_of2 (M := 63) (n := 63) (x := x) (by decide) (fun q => absurd hx.1.1 (Int32.not_le.mpr (Int32.lt_trans q (by decide)))) hx.1.2
  have h0 : 0 < k := by
    rcases Nat.eq_zero_or_pos k with q | q
    · rw [e, q] at hx; exact absurd hx.1.1 (by decide)
    · exact q
  refine ⟨k, by omega, h0, e, fun j _ => ?_⟩
  rw [e]
  have t := Inv.dr (by omega) h0 h j
  obtain ⟨n, hn, en⟩ := lcg_nat t.2.1
  have t2 := t.x (x := lcg (drZ z (nI k) j 61)) (by rw [en]; exact nI_pos hn)
  exact ⟨t.2.1, t2.wc, t2.li⟩
theorem Inv.drx {z : Zf} {x n : Int32} (h : Inv z) (hx : okD x n = true) : Inv (drZ z x (ix n)) := by
  simp only [okD, inB, Bool.and_eq_true, decide_eq_true_eq] at hx
  obtain ⟨k, hk, e⟩ := nI_of2 (M := 63) (n := 63) (x := x) (by decide) (fun q => absurd hx.1.1 (Int32.not_le.mpr (Int32.lt_trans q (by decide)))) hx.1.2
  have h0 : 0 < k := by
    rcases Nat.eq_zero_or_pos k with q | q
    · rw [e, q] at hx; exact absurd hx.1.1 (by decide)
    · exact q
  rw [e]
  exact Inv.dr (by omega) h0 h _
