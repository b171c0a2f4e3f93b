theorem tN_1 {x : Int32} (h : ¬ x = -1) : tN x = x := if_neg h
theorem nm {x : Int32} (h : ∃ a : Nat, a < 7 ∧ x = nI a) : ¬ x = -1 := by
  obtain ⟨a, ha, e⟩ := h
  rw [e]; exact nI_m1 (by omega)
theorem nm6 {x : Int32} (h : ∃ a : Nat, a < 6 ∧ x = nI a) : ¬ x = -1 := by
  obtain ⟨a, ha, e⟩ := h
  rw [e]; exact nI_m1 (by omega)
/-- who is ahead is known at stages 2 and 3 alone -/
theorem A0_ah {z : Zf} {m v : Nat} {g : Nat → Nat} (hv : v < 6) (hn : LnOk m g) (h : A0 z m g) : (z v = 2 ∨ z v = 3 → ∃ a : Nat, a < 6 ∧ z (18 + v) = nI a) ∧ (¬ (z v = 2 ∨ z v = 3) → z (18 + v) = -1) := by
  rcases in_or (m := m) (v := v) (g := g) with ho | ⟨i, hi, e⟩
  · have := h.1 v hv ho
    refine ⟨fun q => ?_, fun _ => this.2⟩
    grind
  · rcases i with _ | i
    · have := h.2.2.2.2.2 hi
      rw [e] at this
      refine ⟨fun q => ?_, fun q => ?_⟩
      · rcases this with ⟨-, -, t⟩ | t
        · exact t
        · grind
      · grind
    · have := h.2.2.2.2.1 i hi
      rw [e] at this
      refine ⟨fun _ => ⟨g i, hn.2.1 i (by omega), this.2.1⟩, fun q => ?_⟩
      grind
theorem A1_wa {z : Zf} {m v : Nat} {g o : Nat → Nat} {e : Nat} (hv : v < 6) (hn : LnOk m g) (h : A1 z m g o e) : (z v = 3 ∨ z v = 4 → ∃ a : Nat, a < 7 ∧ z (30 + v) = nI a) ∧ (¬ (z v = 3 ∨ z v = 4) → z (30 + v) = -1) := by
  rcases in_or (m := m) (v := v) (g := g) with ho | ⟨i, hi, q⟩
  · have := h.2.2.2.2.2.1 v hv ho
    refine ⟨fun q => ?_, fun _ => this.2⟩
    grind
  · have t := A1_in h hi q
    refine ⟨fun _ => ?_, fun q2 => ?_⟩
    · rcases i with _ | i
      · exact ⟨e, h.1, by rw [← q]; exact (h.2.2.2.2.2.2.2.2.2 hi).2⟩
      · have := h.2.2.2.2.2.2.2.2.1 i hi
        exact ⟨o (g i), (h.2.1 _ (hn.2.1 i (by omega))).1, by rw [← q]; exact this.2⟩
    · grind
theorem Inv.vis {z : Zf} (h : Inv z) : VisOk z := by
  obtain ⟨⟨m, g, h1, h2⟩, -⟩ := h
  have hn := h1.1
  have v5 : ∀ v : Nat, v < 6 → visA z (nI v) 5 = (if z 60 = 0 ∧ ¬ z (6 + v) = -1 then z (6 + v) else -5) := fun v hv => by
    simp only [visA, isV_nI hv, ix_nI (show v < 2 ^ 31 by omega)]
    rfl
  have v6 : ∀ v : Nat, v < 6 → visA z (nI v) 6 = (if z 60 = 0 ∧ inB (z v) 2 3 = true then z (18 + v) else if z 60 = 1 ∧ ¬ z v < 3 then z (30 + v) else -5) := fun v hv => by
    simp only [visA, isV_nI hv, ix_nI (show v < 2 ^ 31 by omega)]
    rfl
  have v8 : ∀ v : Nat, v < 6 → visA z (nI v) 8 = (if z 60 = 2 ∧ 0 < z v then z (36 + v) else -5) := fun v hv => by
    simp only [visA, isV_nI hv, ix_nI (show v < 2 ^ 31 by omega)]
    rfl
  have vt : totA z 0 0 2 = (if 1 < z 60 ∨ z 49 = -1 then -5 else z 49) := rfl
  refine ⟨fun v hv => ⟨?_, ?_, ?_⟩, ?_⟩
  · rw [v5 v hv]
    rcases h1.2 with ⟨k, hC, hA⟩ | ⟨k, hC, o, e, hA⟩ | ⟨k, hC, hA⟩ | ⟨k, hC, hA⟩
    · by_cases q : z (6 + v) = -1
      · rw [if_neg (fun a => a.2 q), q]; rfl
      · rw [if_pos ⟨k, q⟩, tN_1 q]
    · rw [if_neg (fun a => kk_01 a.1 k), (hC.1 v hv).1]; rfl
    · rw [if_neg (fun a => kk_02 a.1 k), (hC.1 v hv).1]; rfl
    · rw [if_neg (fun a => kk_03 a.1 k), (hC.1 v hv).1]; rfl
  · rw [v6 v hv]
    rcases h1.2 with ⟨k, hC, hA⟩ | ⟨k, hC, o, e, hA⟩ | ⟨k, hC, hA⟩ | ⟨k, hC, hA⟩
    · rw [if_neg (fun a => kk_01 k a)]
      have t := A0_ah hv hn hA
      rcases A0_st hv hA with hs | hs | hs | hs | hs | hs | hs | hs
      · rw [t.2 (by rw [hs]; decide), hs, if_neg (fun a => absurd a.2 (by decide)), if_neg (fun a => kk_01 k a.1)]; rfl
      · rw [t.2 (by rw [hs]; decide), hs, if_neg (fun a => absurd a.2 (by decide)), if_neg (fun a => kk_01 k a.1)]; rfl
      · rw [tN_1 (nm6 (t.1 (Or.inl hs))), hs, if_pos ⟨k, by decide⟩]
      · rw [tN_1 (nm6 (t.1 (Or.inr hs))), hs, if_pos ⟨k, by decide⟩]
      · rw [t.2 (by rw [hs]; decide), hs, if_neg (fun a => absurd a.2 (by decide)), if_neg (fun a => kk_01 k a.1)]; rfl
      · rw [t.2 (by rw [hs]; decide), hs, if_neg (fun a => absurd a.2 (by decide)), if_neg (fun a => kk_01 k a.1)]; rfl
      · rw [t.2 (by rw [hs]; decide), hs, if_neg (fun a => absurd a.2 (by decide)), if_neg (fun a => kk_01 k a.1)]; rfl
      · rw [t.2 (by rw [hs]; decide), hs, if_neg (fun a => absurd a.2 (by decide)), if_neg (fun a => kk_01 k a.1)]; rfl
    · rw [if_pos k, if_neg (fun a => kk_01 a.1 k)]
      have t := A1_wa hv hn hA
      rcases A1_st hv hA with hs | hs | hs | hs
      · rw [t.2 (by rw [hs]; decide), hs, if_neg (fun a => a.2 (by decide))]; rfl
      · rw [t.2 (by rw [hs]; decide), hs, if_neg (fun a => a.2 (by decide))]; rfl
      · rw [tN_1 (nm (t.1 (Or.inl hs))), hs, if_pos ⟨k, by decide⟩]
      · rw [tN_1 (nm (t.1 (Or.inr hs))), hs, if_pos ⟨k, by decide⟩]
    · rw [if_neg (fun a => kk_12 a k), if_neg (fun a => kk_02 a.1 k), if_neg (fun a => kk_12 a.1 k), (hC.1 v hv).2.2.1]; rfl
    · rw [if_neg (fun a => kk_13 a k), if_neg (fun a => kk_03 a.1 k), if_neg (fun a => kk_13 a.1 k), (hC.1 v hv).2.2.1]; rfl
  · rw [v8 v hv]
    rcases h1.2 with ⟨k, hC, hA⟩ | ⟨k, hC, o, e, hA⟩ | ⟨k, hC, hA⟩ | ⟨k, hC, hA⟩
    · rw [if_neg (fun a => kk_02 k a.1), if_neg (fun a => kk_02 k a.1)]
    · rw [if_neg (fun a => kk_12 k a.1), if_neg (fun a => kk_12 k a.1)]
    · rcases A2_st hv hA with hs | hs | hs
      · rw [if_neg (fun a => a.2 hs), hs, if_neg (fun a => absurd a.2 (by decide))]
      · rw [if_pos ⟨k, by rw [hs]; decide⟩, hs, if_pos ⟨k, by decide⟩]
      · rw [if_pos ⟨k, by rw [hs]; decide⟩, hs, if_pos ⟨k, by decide⟩]
    · rw [if_neg (fun a => kk_23 a.1 k), if_neg (fun a => kk_23 a.1 k)]
  · rw [vt]
    rcases h1.2 with ⟨k, hC, hA⟩ | ⟨k, hC, o, e, hA⟩ | ⟨k, hC, hA⟩ | ⟨k, hC, hA⟩
    · rw [if_pos k]
      by_cases q : z 49 = -1
      · rw [if_pos (Or.inr q), q]; rfl
      · rw [if_neg (fun a => a.elim (fun b => by rw [k] at b; exact absurd b (by decide)) q), tN_1 q]
    · have h49 : ¬ z 49 = -1 := by
        rcases Nat.eq_zero_or_pos m with q | q
        · rw [hA.2.2.2.2.2.2.1 q]; exact nI_m1 (by have := hA.1; omega)
        · rw [hA.2.2.2.2.2.2.2.1 (m - 1) (by omega)]
          have := (hA.2.1 _ (hn.2.1 (m - 1) (by omega))).1
          exact nI_m1 (by omega)
      rw [if_neg (fun a => kk_01 a k), if_pos k, if_neg (fun a => a.elim (fun b => by rw [k] at b; exact absurd b (by decide)) h49)]
    · rw [if_neg (fun a => kk_02 a k), if_neg (fun a => kk_12 a k), if_pos (Or.inl (by rw [k]; decide))]
    · rw [if_neg (fun a => kk_03 a k), if_neg (fun a => kk_13 a k), if_pos (Or.inl (by rw [k]; decide))]
theorem tN_inj {x y : Int32} (hx : x = -1 ∨ ∃ a : Nat, a < 7 ∧ x = nI a) (hy : y = -1 ∨ ∃ a : Nat, a < 7 ∧ y = nI a) (h : tN x = tN y) : x = y := by
  rcases hx with rfl | ⟨a, ha, rfl⟩
  · rcases hy with rfl | ⟨b, hb, rfl⟩
    · rfl
    · rw [tN_m1, tN_nI (by omega)] at h
      exact absurd h.symm (nI_m5 (by omega))
  · rcases hy with rfl | ⟨b, hb, rfl⟩
    · rw [tN_m1, tN_nI (by omega)] at h
      exact absurd h (nI_m5 (by omega))
    · rw [tN_nI (by omega), tN_nI (by omega)] at h
      exact h
theorem LK.tn {z : Zf} {m : Nat} {g : Nat → Nat} (h : LK z m g) {v : Nat} (hv : v < 6) : (z (6 + v) = -1 ∨ ∃ a : Nat, a < 7 ∧ z (6 + v) = nI a) ∧ (z (18 + v) = -1 ∨ ∃ a : Nat, a < 7 ∧ z (18 + v) = nI a) ∧ (z (30 + v) = -1 ∨ ∃ a : Nat, a < 7 ∧ z (30 + v) = nI a) ∧ (¬ z 60 = 1 → z (24 + v) = nI v) ∧ (¬ (z 60 = 2 ∧ ¬ z v = 0) → z (36 + v) = -1) := by
  have hn := h.1
  rcases h.2 with ⟨k, hC, hA⟩ | ⟨k, hC, o, e, hA⟩ | ⟨k, hC, hA⟩ | ⟨k, hC, hA⟩
  · refine ⟨?_, ?_, Or.inl (hC.1 v hv).2.1, fun _ => (hC.1 v hv).1, fun _ => (hC.1 v hv).2.2⟩
    · rcases (hA.2.1 v hv).1 with q | ⟨a, ha, q⟩
      · exact Or.inl q
      · exact Or.inr ⟨a, by omega, q⟩
    · have t := A0_ah hv hn hA
      by_cases q : z v = 2 ∨ z v = 3
      · obtain ⟨a, ha, q2⟩ := t.1 q
        exact Or.inr ⟨a, by omega, q2⟩
      · exact Or.inl (t.2 q)
  · refine ⟨Or.inl (hC.1 v hv).1, Or.inl (hC.1 v hv).2.2.1, ?_, fun q => absurd k q, fun _ => (hC.1 v hv).2.2.2⟩
    have t := A1_wa hv hn hA
    by_cases q : z v = 3 ∨ z v = 4
    · exact Or.inr (t.1 q)
    · exact Or.inl (t.2 q)
  · refine ⟨Or.inl (hC.1 v hv).1, Or.inl (hC.1 v hv).2.2.1, Or.inl (hC.1 v hv).2.2.2.2, fun _ => (hC.1 v hv).2.2.2.1, fun q => ?_⟩
    have h0 : z v = 0 := Decidable.not_not.mp (fun b => q ⟨k, b⟩)
    rcases in_or (m := m) (v := v) (g := g) with ho | ⟨i, hi, e⟩
    · exact (hA.1 v hv ho).2
    · have := hA.2.1 i hi
      grind
  · exact ⟨Or.inl (hC.1 v hv).1, Or.inl (hC.1 v hv).2.2.1, Or.inl (hC.1 v hv).2.2.2.2.1, fun _ => (hC.1 v hv).2.2.2.1, fun _ => (hC.1 v hv).2.2.2.2.2⟩
theorem LK.ta {z : Zf} {m : Nat} {g : Nat → Nat} (h : LK z m g) : (z 60 = 0 → z 49 = -1 ∨ ∃ a : Nat, a < 7 ∧ z 49 = nI a) ∧ (¬ z 60 = 0 → ¬ z 60 = 1 → z 49 = 6) := by
  have hn := h.1
  rcases h.2 with ⟨k, hC, hA⟩ | ⟨k, hC, o, e, hA⟩ | ⟨k, hC, hA⟩ | ⟨k, hC, hA⟩
  · refine ⟨fun _ => ?_, fun q => absurd k q⟩
    rcases Nat.eq_zero_or_pos m with q | q
    · exact Or.inl (hA.2.2.1 q)
    · have := hn.2.1 (m - 1) (by omega)
      exact Or.inr ⟨g (m - 1), by omega, (hA.2.2.2.1 (m - 1) (by omega)).1⟩
  · exact ⟨fun q => (kk_01 q k).elim, fun _ q => absurd k q⟩
  · exact ⟨fun q => (kk_02 q k).elim, fun _ _ => hC.2.2.1⟩
  · exact ⟨fun q => (kk_03 q k).elim, fun _ _ => hC.2.2.1⟩
/-- two locks of one kind with the same cells on the other side are alike -/
theorem enc_inj {z w : Zf} {m m' : Nat} {g g' : Nat → Nat} (h : LK z m g) (h' : LK w m' g') (k : z 60 = w 60) (he : encC z = encC w) {j : Nat} (hj : j < 53) : z j = w j := by
  have c : ∀ j : Nat, encC z j = encC w j := fun j => congrFun he j
  have hs : ∀ v : Nat, v < 6 → z v = w v := fun v hv => by have t := c v; rw [e_st hv, e_st hv] at t; exact t
  rcases (show j < 6 ∨ (6 ≤ j ∧ j < 12) ∨ (12 ≤ j ∧ j < 18) ∨ (18 ≤ j ∧ j < 24) ∨ (24 ≤ j ∧ j < 30) ∨ (30 ≤ j ∧ j < 36) ∨ (36 ≤ j ∧ j < 42) ∨ (42 ≤ j ∧ j < 49) ∨ j = 49 ∨ j = 50 ∨ j = 51 ∨ j = 52 by omega) with q | q | q | q | q | q | q | q | q | q | q | q
  · exact hs j q
  · obtain ⟨v, rfl⟩ : ∃ v : Nat, j = 6 + v := ⟨j - 6, by omega⟩
    have t := c (6 + v)
    rw [e_nx (by omega), e_nx (by omega)] at t
    exact tN_inj (h.tn (by omega)).1 (h'.tn (by omega)).1 t
  · obtain ⟨v, rfl⟩ : ∃ v : Nat, j = 12 + v := ⟨j - 12, by omega⟩
    have t := c (12 + v)
    rw [e_fl (by omega), e_fl (by omega)] at t
    exact t
  · obtain ⟨v, rfl⟩ : ∃ v : Nat, j = 18 + v := ⟨j - 18, by omega⟩
    have t := c (18 + v)
    rw [e_ah (by omega), e_ah (by omega)] at t
    exact tN_inj (h.tn (by omega)).2.1 (h'.tn (by omega)).2.1 t
  · obtain ⟨v, rfl⟩ : ∃ v : Nat, j = 24 + v := ⟨j - 24, by omega⟩
    have t := c (24 + v)
    rw [e_ow (by omega), e_ow (by omega), ← k] at t
    by_cases k1 : z 60 = 1
    · rw [if_pos k1, if_pos k1] at t; exact t
    · rw [(h.tn (by omega)).2.2.2.1 k1, (h'.tn (v := v) (by omega)).2.2.2.1 (by rw [← k]; exact k1)]
  · obtain ⟨v, rfl⟩ : ∃ v : Nat, j = 30 + v := ⟨j - 30, by omega⟩
    have t := c (30 + v)
    rw [e_wa (by omega), e_wa (by omega)] at t
    exact tN_inj (h.tn (by omega)).2.2.1 (h'.tn (by omega)).2.2.1 t
  · obtain ⟨v, rfl⟩ : ∃ v : Nat, j = 36 + v := ⟨j - 36, by omega⟩
    have t := c (36 + v)
    rw [e_ti (by omega), e_ti (by omega), ← k, ← hs v (by omega)] at t
    by_cases k1 : z 60 = 2 ∧ ¬ z v = 0
    · rw [if_pos k1, if_pos k1] at t; exact t
    · rw [(h.tn (by omega)).2.2.2.2 k1, (h'.tn (v := v) (by omega)).2.2.2.2 (by rw [← k, ← hs v (by omega)]; exact k1)]
  · obtain ⟨v, rfl⟩ : ∃ v : Nat, j = 42 + v := ⟨j - 42, by omega⟩
    have t := c (42 + v)
    rw [e_ca (by omega), e_ca (by omega)] at t
    exact t
  · subst q
    have t := c 49
    rw [e_ta, e_ta, ← k] at t
    by_cases k0 : z 60 = 0
    · rw [if_pos k0, if_pos k0] at t
      exact tN_inj (h.ta.1 k0) (h'.ta.1 (by rw [← k]; exact k0)) t
    · rw [if_neg k0, if_neg k0] at t
      by_cases k1 : z 60 = 1
      · rw [if_pos k1, if_pos k1] at t; exact t
      · rw [h.ta.2 k0 k1, h'.ta.2 (by rw [← k]; exact k0) (by rw [← k]; exact k1)]
  · subst q; have t := c 50; rw [e_gi, e_gi] at t; exact t
  · subst q; have t := c 51; rw [e_se, e_se] at t; exact t
  · subst q; have t := c 52; rw [e_gr, e_gr] at t; exact t
/-- the rows that were found -/
def RowsOk (f z : Zf) (n : Nat) : Prop := ∀ k : Nat, k < n → (∃ (m : Nat) (g : Nat → Nat), LK (tkZ f z k) m g) ∧ (f (55 * k + 53) = 0 ∨ f (55 * k + 53) = 1) ∧ (f (55 * k + 53 + 1) = 0 ∨ f (55 * k + 53 + 1) = 1)
theorem RowsOk.col {f z y : Zf} {bo bt : Int32} {n : Nat} (h : RowsOk f z n) (hy : ∃ (m : Nat) (g : Nat → Nat), LK y m g) (h60 : y 60 = z 60) (hbo : bo = 0 ∨ bo = 1) (hbt : bt = 0 ∨ bt = 1) : RowsOk (colR f y bo bt n) z (colN f y bo bt n) := by
  intro k hk
  by_cases q : k < n
  · have e : tkZ (colR f y bo bt n) z k = tkZ f z k := tk_row (fun i hi => colR_row q (by omega)) (fun j _ => rfl)
    have e1 : colR f y bo bt n (55 * k + 53) = f (55 * k + 53) := colR_row q (by omega)
    have e2 : colR f y bo bt n (55 * k + 53 + 1) = f (55 * k + 53 + 1) := colR_row (i := 54) q (by omega)
    rw [e, e1, e2]
    exact h k q
  · unfold colN at hk
    unfold colR
    by_cases c1 : hasB f y bo bt n = true
    · rw [if_pos c1] at hk; omega
    · rw [if_neg c1] at hk ⊢
      by_cases c2 : n = 300
      · rw [if_pos c2] at hk; omega
      · rw [if_neg c2] at hk ⊢
        have ek : k = n := by omega
        subst ek
        obtain ⟨m, g, hm⟩ := hy
        refine ⟨⟨m, g, hm.to (fun j hj => ?_) ?_⟩, ?_, ?_⟩
        · rw [tkZ_lo hj]
          unfold colF
          rw [pk_un (by omega), pk_un (by omega)]
          simp only [va_cpy]
          rw [if_pos (by omega)]
          congr 1; omega
        · rw [tkZ_hi (by omega), h60]
        · unfold colF; rw [pk_un (by omega), pk_us]; exact hbo
        · unfold colF; rw [pk_us]; exact hbt
theorem flb_01 (t : Zf) (v : Nat) : flb t v = 0 ∨ flb t v = 1 := by
  unfold flb
  cases decide (chM t v v = 0)
  · exact Or.inl rfl
  · exact Or.inr rfl
theorem row_ch {f z : Zf} {k v : Nat} (h : ∃ (m : Nat) (g : Nat → Nat), LK (tkZ f z k) m g) (h53 : ∃ m : Nat, m ≤ 6 ∧ z 53 = nI m) (hv : v < 6) (hl : isLook (tkZ f z k) v = false) : (∃ (m : Nat) (g : Nat → Nat), LK (chM (tkZ f z k) v) m g) ∧ chM (tkZ f z k) v 60 = z 60 := by
  obtain ⟨m, g, hm⟩ := h
  obtain ⟨m', g', h1, -⟩ := LK_step hv hm hl
  refine ⟨⟨m', g', h1⟩, ?_⟩
  have hW : Wf (tkZ f z k) := hm.wf (by rw [tkZ_hi (by omega)]; exact h53)
  rw [chM_60 hv hW, tkZ_hi (by omega)]
theorem RowsOk.f1 {f z : Zf} {k a n : Nat} (h : RowsOk f z n) (h53 : ∃ m : Nat, m ≤ 6 ∧ z 53 = nI m) (hk : k < n) (ha : a < 6) : RowsOk (fF1 f (tkZ f z k) k a n) z (fN1 f (tkZ f z k) k a n) := by
  unfold fF1 fN1
  by_cases c : flA f (tkZ f z k) k a 53 = true
  · rw [if_pos c, if_pos c]
    have hl : isLook (tkZ f z k) a = false := by
      simp only [flA, Bool.and_eq_true, Bool.not_eq_true'] at c
      exact c.2
    have t := row_ch (h k hk).1 h53 ha hl
    exact h.col t.1 t.2 (flb_01 _ _) (h k hk).2.2
  · rw [if_neg c, if_neg c]; exact h
theorem RowsOk.f2 {f z : Zf} {k a b n : Nat} (h : RowsOk f z n) (h53 : ∃ m : Nat, m ≤ 6 ∧ z 53 = nI m) (hk : k < n) (ha : a < 6) (hb : b < 6) : RowsOk (fF2 f (tkZ f z k) k a b n) z (fN2 f (tkZ f z k) k a b n) := by
  have h1 := h.f1 h53 hk ha
  unfold fF2 fN2
  by_cases c : fA2 f (tkZ f z k) k a b n = true
  · rw [if_pos c, if_pos c]
    have hl : isLook (tkZ f z k) b = false := by
      simp only [fA2, Bool.and_eq_true, Bool.not_eq_true'] at c
      exact c.2.2
    have t := row_ch (h k hk).1 h53 hb hl
    exact h1.col t.1 t.2 (h k hk).2.1 (flb_01 _ _)
  · rw [if_neg c, if_neg c]; exact h1
theorem rows_or {f z : Zf} {a b : Nat} (h : Inv z) (ha : a < 6) (hb : b < 6) : ∀ j : Nat, (∀ i : Nat, i < j → i < (orS f z a b i).2.1) → RowsOk (orS f z a b j).1 z (orS f z a b j).2.1
  | 0, _ => by
    have h0 : RowsOk f z 0 := fun k hk => absurd hk (Nat.not_lt_zero k)
    obtain ⟨⟨m, g, h1, h2⟩, -⟩ := h
    exact h0.col ⟨m, g, h1⟩ rfl (Or.inl rfl) (Or.inl rfl)
  | j + 1, hj => by
    have t := rows_or h ha hb j (fun i hi => hj i (by omega))
    obtain ⟨⟨m, g, h1, h2⟩, -⟩ := h
    exact t.f2 ⟨m, h1.1.1, h2.1⟩ (hj j (by omega)) ha hb
theorem or_ex {f z : Zf} {a b : Nat} (h : Inv z) (ha : a < 6) (hb : b < 6) : ∃ J : Nat, OrOk f z a b J := by
  have ex : (!(decide (300 < (orS f z a b 300).2.1) && (orS f z a b 300).2.2)) = true := by
    have := orS_le f z a b 300
    rw [decide_eq_false (by omega)]
    rfl
  obtain ⟨k, k1, k2, k3⟩ := least (P := fun j => !(decide (j < (orS f z a b j).2.1) && (orS f z a b j).2.2)) ex
  have k4 : ∀ j : Nat, j < k → j < (orS f z a b j).2.1 ∧ (orS f z a b j).2.2 = true := fun j hj => by
    have t := k3 j hj
    simp only [Bool.not_eq_false', Bool.and_eq_true, decide_eq_true_eq] at t
    exact t
  refine ⟨k, k4, ?_, fun j i hj hi => ?_, k1⟩
  · simp only [Bool.not_eq_true', Bool.and_eq_false_iff, decide_eq_false_iff_not] at k2
    rcases k2 with q | q
    · exact Or.inl (by omega)
    · exact Or.inr q
  · have t := rows_or (f := f) h ha hb j (fun i hi => (k4 i (by omega)).1)
    obtain ⟨m, g, hm⟩ := (t i hi).1
    obtain ⟨⟨m0, g0, h1, h2⟩, -⟩ := h
    exact hm.wf ⟨m0, h1.1.1, by rw [tkZ_hi (by omega)]; exact h2.1⟩
