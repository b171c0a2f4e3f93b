/-! who is inside, who is in line -/
/-- one inside at most, with the flag that is grabbed -/
def G3 (z : Zf) : Prop := z 60 = 3 → (∀ u v : Nat, u < 6 → v < 6 → z u = 4 → z v = 4 → u = v) ∧ (z 52 = 0 → ∀ v : Nat, v < 6 → ¬ z v = 4)
theorem G3.of {z : Zf} (h : ¬ z 60 = 3) : G3 z := fun q => absurd q h
theorem LK.one {z : Zf} {m u v : Nat} {g : Nat → Nat} (h : LK z m g) (hG : G3 z) (hu : u < 6) (hv : v < 6) (eu : z u = 4) (ev : z v = 4) : u = v := by
  obtain ⟨hn, hk⟩ := h
  rcases hk with ⟨k, hC, hA⟩ | ⟨k, hC, o, e, hA⟩ | ⟨k, hC, hA⟩ | ⟨k, hC, hA⟩
  · have t1 := (A0_fst hu hA (Or.inl eu)).2
    have t2 := (A0_fst hv hA (Or.inl ev)).2
    exact t1.symm.trans t2
  · have key : ∀ v : Nat, v < 6 → z v = 4 → g 0 = v := by
      intro v hv ev
      rcases in_or (m := m) (v := v) (g := g) with ho | ⟨i, hi, e1⟩
      · have t := (hA.2.2.2.2.2.1 v hv ho).1
        rw [ev] at t
        exact absurd t (by decide)
      · rcases A1_in hA hi e1 with t | ⟨t, -⟩
        · rw [ev] at t
          exact absurd t (by decide)
        · rw [t] at e1
          exact e1
    exact (key u hu eu).symm.trans (key v hv ev)
  · have key : ∀ v : Nat, v < 6 → z v = 4 → g 0 = v := by
      intro v hv ev
      rcases in_or (m := m) (v := v) (g := g) with ho | ⟨i, hi, e1⟩
      · have t := (hA.1 v hv ho).1
        rw [ev] at t
        exact absurd t (by decide)
      · have t := (hA.2.1 i hi).2
        rw [e1] at t
        rcases t with t | ⟨-, t⟩
        · rw [ev] at t
          exact absurd t (by decide)
        · rw [t] at e1
          exact e1
    exact (key u hu eu).symm.trans (key v hv ev)
  · exact (hG k).1 u v hu hv eu ev
/-- a visitor in line stands at one place: what is told of it -/
theorem LK.at {z : Zf} {m i : Nat} {g : Nat → Nat} (h : LK z m g) (hL : LnIs z m g) (hi : i < m) : plc z (g i) (ix (z 53)) = nI i ∧ lineA z (nI i) = nI (g i) := by
  obtain ⟨e53, eL⟩ := hL
  have hm := h.1.1
  constructor
  · rw [e53, ix_nI (by omega)]
    refine plc_of hi (eL i hi) (fun j hj e => ?_)
    rw [eL j hj] at e
    have e2 := nI_inj (show g j < 2 ^ 31 by have := h.1.2.1 j hj; omega) (show g i < 2 ^ 31 by have := h.1.2.1 i hi; omega) e
    exact h.1.2.2 j i hj hi e2
  · unfold lineA
    rw [if_neg (Int32.not_lt.mpr (nI_pos' (by omega))), e53, if_pos (by
      exact (nI_ltI (by omega) (by omega)).mpr hi), ix_nI (by omega), eL i hi]
theorem wh_v {z : Zf} {v : Nat} (h : Inv z) (hG : G3 z) (hv : v < 6) : ∃ s k : Nat, s < 8 ∧ k < 4 ∧ z v = nI s ∧ z 60 = nI k ∧ (k = 0 ∨ s < 5) ∧ (k = 2 → s = 0 ∨ s = 3 ∨ s = 4) ∧ (s = 4 → insM z 6 = nI v) ∧
    ((quB z v = true ∧ k < 3 ∧ 1 < s ∧ ∃ p : Nat, p < 6 ∧ plc z v (ix (z 53)) = nI p ∧ lineA z (nI p) = nI v ∧ (4 ≤ s → p = 0) ∧ (k = 2 → z (36 + v) = z 51 + nI p)) ∨ (quB z v = false ∧ (k = 3 ∨ s ≤ 1) ∧ plc z v (ix (z 53)) = -5)) := by
  obtain ⟨⟨m, g, hK, hL⟩, -, -⟩ := id h
  obtain ⟨s, hs, es, hks⟩ := h.wc.2.1 v hv
  obtain ⟨k, hk, ek⟩ := h.wf.k
  have K : ∀ j : Nat, j < 4 → (z 60 = nI j ↔ k = j) := fun j hj => by
    rw [ek]
    exact ⟨fun q => nI_inj (by omega) (by omega) q, fun q => by rw [q]⟩
  have S : ∀ j : Nat, j < 8 → (z v = nI j ↔ s = j) := fun j hj => by
    rw [es]
    exact ⟨fun q => nI_inj (by omega) (by omega) q, fun q => by rw [q]⟩
  have k0 : z 60 = 0 ↔ k = 0 := K 0 (by omega)
  have k1 : z 60 = 1 ↔ k = 1 := K 1 (by omega)
  have k2 : z 60 = 2 ↔ k = 2 := K 2 (by omega)
  have k3 : z 60 = 3 ↔ k = 3 := K 3 (by omega)
  have s2 : z v = 2 ↔ s = 2 := S 2 (by omega)
  have s3 : z v = 3 ↔ s = 3 := S 3 (by omega)
  have s4 : z v = 4 ↔ s = 4 := S 4 (by omega)
  have s5 : z v = 5 ↔ s = 5 := S 5 (by omega)
  have s6 : z v = 6 ↔ s = 6 := S 6 (by omega)
  have s7 : z v = 7 ↔ s = 7 := S 7 (by omega)
  have hks2 : k = 0 ∨ (k = 1 ∧ (s = 0 ∨ s = 1 ∨ s = 3 ∨ s = 4)) ∨ ((k = 2 ∨ k = 3) ∧ (s = 0 ∨ s = 3 ∨ s = 4)) := by
    rcases hks with q | ⟨q, q2⟩ | ⟨q | q, q2⟩
    · exact Or.inl (k0.mp q)
    · exact Or.inr (Or.inl ⟨k1.mp q, q2⟩)
    · exact Or.inr (Or.inr ⟨Or.inl (k2.mp q), q2⟩)
    · exact Or.inr (Or.inr ⟨Or.inr (k3.mp q), q2⟩)
  refine ⟨s, k, hs, hk, es, ek, by omega, by omega, fun q => ?_, ?_⟩
  · have e4 : z v = 4 := s4.mpr q
    exact insM_first hv e4 (fun j hj e => by
      have := hK.one hG (show j < 6 by omega) hv e e4
      omega)
  · have hq := hK.qu hv
    cases hb : quB z v with
    | false =>
      refine Or.inr ⟨rfl, ?_, ?_⟩
      · by_cases q3 : k = 3
        · exact Or.inl q3
        · refine Or.inr ?_
          rw [quB] at hb
          have lt : ∀ j : Nat, j < 8 → (z v < nI j ↔ s < j) := fun j hj => by
            rw [es]
            exact nI_ltI (by omega) (by omega)
          have l2 : z v < 2 ↔ s < 2 := lt 2 (by omega)
          have l3 : z v < 3 ↔ s < 3 := lt 3 (by omega)
          have z0 : z v = 0 ↔ s = 0 := S 0 (by omega)
          by_cases c0 : k = 0
          · rw [if_pos (k0.mpr c0)] at hb
            have : z v < 2 := by simpa using hb
            have := l2.mp this
            omega
          · rw [if_neg (fun q => c0 (k0.mp q))] at hb
            by_cases c1 : k = 1
            · rw [if_pos (k1.mpr c1)] at hb
              have : z v < 3 := by simpa using hb
              have := l3.mp this
              omega
            · rw [if_neg (fun q => c1 (k1.mp q))] at hb
              by_cases c2 : k = 2
              · rw [if_pos (k2.mpr c2)] at hb
                have : z v = 0 := by simpa using hb
                have := z0.mp this
                omega
              · omega
      · rw [hL.1, ix_nI (by have := hK.1.1; omega)]
        refine plc_none (fun j hj e => ?_)
        rw [hL.2 j hj] at e
        have e2 := nI_inj (show g j < 2 ^ 31 by have := hK.1.2.1 j hj; omega) (show v < 2 ^ 31 by omega) e
        have := hq.mpr ⟨j, hj, e2⟩
        rw [hb] at this
        cases this
    | true =>
      obtain ⟨i, hi, e⟩ := hq.mp hb
      have hm := hK.1.1
      obtain ⟨t1, t2⟩ := hK.at hL hi
      rw [e] at t1 t2
      have fin : k < 3 ∧ 1 < s ∧ (4 ≤ s → i = 0) ∧ (k = 2 → z (36 + v) = z 51 + nI i) := by
        obtain ⟨hn, hk4⟩ := hK
        rcases hk4 with ⟨kk, hC, hA⟩ | ⟨kk, hC, o, ee, hA⟩ | ⟨kk, hC, hA⟩ | ⟨kk, hC, hA⟩
        · have := k0.mp kk
          have t := A0_in hA hi e
          refine ⟨by omega, ?_, ?_, fun q => by omega⟩
          · rcases t with t | t | ⟨-, t | t | t | t⟩
            · have := s2.mp t; omega
            · have := s3.mp t; omega
            · have := s4.mp t; omega
            · have := s5.mp t; omega
            · have := s6.mp t; omega
            · have := s7.mp t; omega
          · intro q
            rcases t with t | t | ⟨t, -⟩
            · have := s2.mp t; omega
            · have := s3.mp t; omega
            · exact t
        · have := k1.mp kk
          have t := A1_in hA hi e
          refine ⟨by omega, ?_, ?_, fun q => by omega⟩
          · rcases t with t | ⟨-, t⟩
            · have := s3.mp t; omega
            · have := s4.mp t; omega
          · intro q
            rcases t with t | ⟨t, -⟩
            · have := s3.mp t; omega
            · exact t
        · have := k2.mp kk
          obtain ⟨t, t3⟩ := hA.2.1 i hi
          rw [e] at t t3
          refine ⟨by omega, ?_, ?_, fun q => t⟩
          · rcases t3 with t | ⟨t, -⟩
            · have := s3.mp t; omega
            · have := s4.mp t; omega
          · intro q
            rcases t3 with t | ⟨-, t⟩
            · have := s3.mp t; omega
            · exact t
        · have := hA.1
          omega
      exact Or.inl ⟨rfl, fin.1, fin.2.1, i, by omega, t1, t2, fin.2.2.1, fin.2.2.2⟩
/-- how many are in line -/
def lnM (z : Zf) : Nat → Int32
  | 0 => 0
  | n + 1 => lnM z n + bI (quB z n)
def cq (P : Nat → Bool) : Nat → Nat
  | 0 => 0
  | n + 1 => cq P n + (if P n = true then 1 else 0)
theorem cq_add {P Q : Nat → Bool} {a : Nat} (ha : P a = false) (h : ∀ v : Nat, Q v = (P v || decide (v = a))) : ∀ n : Nat, cq Q n = cq P n + (if a < n then 1 else 0)
  | 0 => rfl
  | n + 1 => by
    simp only [cq]
    rw [cq_add ha h n, h n]
    by_cases e : n = a
    · subst e
      rw [ha]
      simp
    · rw [decide_eq_false e, Bool.or_false]
      have h1 : (a < n + 1) = (a < n) := propext (by omega)
      simp only [h1]
      omega
theorem cq_ext {P Q : Nat → Bool} : ∀ {n : Nat}, (∀ v : Nat, v < n → P v = Q v) → cq P n = cq Q n
  | 0, _ => rfl
  | n + 1, h => by
    simp only [cq]
    rw [cq_ext (fun v hv => h v (by omega)), h n (by omega)]
theorem cq_le (P : Nat → Bool) : ∀ n : Nat, cq P n ≤ n
  | 0 => Nat.le_refl 0
  | n + 1 => by
    simp only [cq]
    have := cq_le P n
    split <;> omega
theorem cq_ln : ∀ {m : Nat} {g : Nat → Nat}, LnOk m g → cq (fun v => decide (∃ i : Nat, i < m ∧ g i = v)) 6 = m
  | 0, g, _ => by
    have : (fun v : Nat => decide (∃ i : Nat, i < 0 ∧ g i = v)) = fun _ => false := by
      funext v
      exact decide_eq_false (fun ⟨i, hi, _⟩ => absurd hi (Nat.not_lt_zero i))
    rw [this]
    rfl
  | m + 1, g, ⟨h1, h2, h3⟩ => by
    have ih := cq_ln (m := m) (g := g) ⟨by omega, fun i hi => h2 i (by omega), fun i j hi hj => h3 i j (by omega) (by omega)⟩
    have hg := h2 m (by omega)
    rw [cq_add (P := fun v => decide (∃ i : Nat, i < m ∧ g i = v)) (a := g m) ?_ ?_ 6, ih, if_pos hg]
    · exact decide_eq_false (fun ⟨i, hi, e⟩ => by
        have := h3 i m (by omega) (by omega) e
        omega)
    · intro v
      by_cases e : v = g m
      · rw [decide_eq_true e, Bool.or_true]
        exact decide_eq_true ⟨m, by omega, e.symm⟩
      · rw [decide_eq_false e, Bool.or_false]
        refine decide_eq_decide.mpr ⟨fun ⟨i, hi, q⟩ => ⟨i, ?_, q⟩, fun ⟨i, hi, q⟩ => ⟨i, by omega, q⟩⟩
        by_cases e2 : i = m
        · subst e2
          exact absurd q.symm e
        · omega
theorem lnM_cq (z : Zf) : ∀ n : Nat, lnM z n = nI (cq (quB z) n)
  | 0 => rfl
  | n + 1 => by
    simp only [lnM, cq]
    rw [lnM_cq z n]
    cases quB z n
    · exact nI_add _ 0
    · exact nI_add _ 1
theorem lnM_53 {z : Zf} (h : Inv z) : lnM z 6 = z 53 := by
  obtain ⟨⟨m, g, hK, hL⟩, -, -⟩ := h
  rw [lnM_cq, hL.1]
  have e : cq (quB z) 6 = cq (fun v => decide (∃ i : Nat, i < m ∧ g i = v)) 6 := cq_ext (fun v hv => by
    have t := hK.qu hv
    by_cases q : ∃ i : Nat, i < m ∧ g i = v
    · rw [t.mpr q]
      exact (decide_eq_true q).symm
    · have q2 : quB z v = false := by
        cases hb : quB z v
        · rfl
        · exact absurd (t.mp hb) q
      rw [q2]
      exact (decide_eq_false q).symm)
  rw [e, cq_ln hK.1]
theorem lineA_end {z : Zf} (h : Inv z) : lineA z (lnM z 6) = -5 := by
  rw [lnM_53 h]
  obtain ⟨m, hm, e⟩ := h.wf.m
  unfold lineA
  rw [e, if_neg (Int32.not_lt.mpr (nI_pos' (by omega))), if_neg (Int32.lt_irrefl)]
theorem cnt_aw (z : Zf) : ∀ n : Nat, cntZ z n + atM z 0 n = nI n
  | 0 => rfl
  | n + 1 => by
    simp only [cntZ, atM]
    have t := cnt_aw z n
    by_cases e : z n = 0
    · rw [if_pos e, if_pos e, Int32.add_zero, ← Int32.add_assoc, t]
      exact nI_add n 1
    · rw [if_neg e, if_neg e, Int32.add_zero, Int32.add_assoc, Int32.add_comm 1, ← Int32.add_assoc, t]
      exact nI_add n 1
theorem cnt_6 (z : Zf) : cntZ z 6 = 6 - atM z 0 6 := by
  have t := cnt_aw z 6
  have e : (6 : Int32) = nI 6 := rfl
  rw [e, ← t]
  grind
theorem ins_at {z : Zf} (h : Inv z) (hG : G3 z) : (atM z 4 6 = 0 ∧ insM z 6 = -5) ∨ (atM z 4 6 = 1 ∧ ∃ v : Nat, v < 6 ∧ insM z 6 = nI v) := by
  obtain ⟨⟨m, g, hK, hL⟩, -, -⟩ := id h
  by_cases q : ∃ v : Nat, v < 6 ∧ z v = 4
  · obtain ⟨v, hv, e⟩ := q
    have u : ∀ j : Nat, j < 6 → j ≠ v → ¬ z j = 4 := fun j hj hne e2 => hne (hK.one hG hj hv e2 e)
    refine Or.inr ⟨?_, v, hv, insM_first hv e (fun j hj => u j (by omega) (by omega))⟩
    have u0 := u 0 (by omega)
    have u1 := u 1 (by omega)
    have u2 := u 2 (by omega)
    have u3 := u 3 (by omega)
    have u4 := u 4 (by omega)
    have u5 := u 5 (by omega)
    simp only [atM]
    rcases (show v = 0 ∨ v = 1 ∨ v = 2 ∨ v = 3 ∨ v = 4 ∨ v = 5 by omega) with rfl | rfl | rfl | rfl | rfl | rfl
    · rw [if_pos e, if_neg (u1 (by decide)), if_neg (u2 (by decide)), if_neg (u3 (by decide)), if_neg (u4 (by decide)), if_neg (u5 (by decide))]; rfl
    · rw [if_neg (u0 (by decide)), if_pos e, if_neg (u2 (by decide)), if_neg (u3 (by decide)), if_neg (u4 (by decide)), if_neg (u5 (by decide))]; rfl
    · rw [if_neg (u0 (by decide)), if_neg (u1 (by decide)), if_pos e, if_neg (u3 (by decide)), if_neg (u4 (by decide)), if_neg (u5 (by decide))]; rfl
    · rw [if_neg (u0 (by decide)), if_neg (u1 (by decide)), if_neg (u2 (by decide)), if_pos e, if_neg (u4 (by decide)), if_neg (u5 (by decide))]; rfl
    · rw [if_neg (u0 (by decide)), if_neg (u1 (by decide)), if_neg (u2 (by decide)), if_neg (u3 (by decide)), if_pos e, if_neg (u5 (by decide))]; rfl
    · rw [if_neg (u0 (by decide)), if_neg (u1 (by decide)), if_neg (u2 (by decide)), if_neg (u3 (by decide)), if_neg (u4 (by decide)), if_pos e]; rfl
  · have u : ∀ j : Nat, j < 6 → ¬ z j = 4 := fun j hj e => q ⟨j, hj, e⟩
    refine Or.inl ⟨?_, insM_none u⟩
    simp only [atM]
    rw [if_neg (u 0 (by omega)), if_neg (u 1 (by omega)), if_neg (u 2 (by omega)), if_neg (u 3 (by omega)), if_neg (u 4 (by omega)), if_neg (u 5 (by omega))]
    rfl
