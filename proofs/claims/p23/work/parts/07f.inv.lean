/-! how many are not away -/
theorem cnt_nat (z : Zf) : ∀ n : Nat, n ≤ 6 → ∃ c : Nat, c ≤ n ∧ cntZ z n = nI c ∧ (c = 0 ↔ ∀ v : Nat, v < n → z v = 0)
  | 0, _ => ⟨0, by omega, rfl, by constructor; intro _ v hv; omega; intro _; rfl⟩
  | n + 1, hn => by
    obtain ⟨c, hc, e, h⟩ := cnt_nat z n (by omega)
    simp only [cntZ]
    by_cases q : z n = 0
    · refine ⟨c, by omega, by rw [if_pos q, e, Int32.add_zero], ?_⟩
      constructor
      · intro c0 v hv
        by_cases q2 : v = n
        · rw [q2]; exact q
        · exact h.mp c0 v (by omega)
      · intro a
        exact h.mpr (fun v hv => a v (by omega))
    · refine ⟨c + 1, by omega, by rw [if_neg q, e, nI_1], ?_⟩
      constructor
      · intro c0; omega
      · intro a; exact absurd (a n (by omega)) q
theorem cnt_pos {z : Zf} : (0 < cntZ z 6) ↔ ∃ v : Nat, v < 6 ∧ ¬ z v = 0 := by
  obtain ⟨c, hc, e, h⟩ := cnt_nat z 6 (by omega)
  rw [e, show (0 : Int32) = nI 0 from rfl, nI_ltI (by omega) (by omega)]
  constructor
  · intro q
    by_cases a : ∃ v : Nat, v < 6 ∧ ¬ z v = 0
    · exact a
    · exfalso
      have := h.mpr (fun v hv => Decidable.not_not.mp (fun b => a ⟨v, hv, b⟩))
      omega
  · intro ⟨v, hv, q⟩
    rcases Nat.eq_zero_or_pos c with a | a
    · exact absurd (h.mp a v hv) q
    · exact a
theorem cnt_zero {z : Zf} : cntZ z 6 = 0 ↔ ∀ v : Nat, v < 6 → z v = 0 := by
  obtain ⟨c, hc, e, h⟩ := cnt_nat z 6 (by omega)
  rw [e, ← h, show (0 : Int32) = nI 0 from rfl, nI_eq (by omega) (by omega)]
theorem LK.away {z : Zf} {m : Nat} {g : Nat → Nat} (h : LK z m g) (ha : ∀ v : Nat, v < 6 → z v = 0) : m = 0 := by
  rcases Nat.eq_zero_or_pos m with q | q
  · exact q
  · exfalso
    have hb := h.1.2.1 0 q
    have h0 := ha _ hb
    rcases h.2 with ⟨k, hC, hA⟩ | ⟨k, hC, o, e, hA⟩ | ⟨k, hC, hA⟩ | ⟨k, hC, hA⟩
    · have := A0_in hA q rfl
      grind
    · have := A1_in hA q rfl
      grind
    · have := hA.2.1 0 q
      grind
    · have := hA.1
      omega
/-- an empty lock -/
theorem clr_lo {z : Zf} {k : Nat} (hk : k < 4) : (∀ v : Nat, v < 6 → clrM z (nI k) v = 0 ∧ clrM z (nI k) (6 + v) = -1 ∧ clrM z (nI k) (12 + v) = 0 ∧ clrM z (nI k) (18 + v) = -1 ∧ clrM z (nI k) (24 + v) = nI v ∧ clrM z (nI k) (30 + v) = -1 ∧ clrM z (nI k) (36 + v) = -1) ∧ (∀ c : Nat, c < 7 → clrM z (nI k) (42 + c) = 0) ∧ clrM z (nI k) 49 = (if nI k = 0 then -1 else 6) ∧ clrM z (nI k) 50 = 0 ∧ clrM z (nI k) 51 = 0 ∧ clrM z (nI k) 52 = 0 ∧ clrM z (nI k) 60 = nI k := by
  refine ⟨fun v hv => ?_, fun c hc => ?_, ?_, ?_, ?_, ?_, ?_⟩
  · rcases (show v = 0 ∨ v = 1 ∨ v = 2 ∨ v = 3 ∨ v = 4 ∨ v = 5 by omega) with rfl | rfl | rfl | rfl | rfl | rfl <;> simp [clrM, clM, zrM, upd]
  · rcases (show c = 0 ∨ c = 1 ∨ c = 2 ∨ c = 3 ∨ c = 4 ∨ c = 5 ∨ c = 6 by omega) with rfl | rfl | rfl | rfl | rfl | rfl | rfl <;> simp [clrM, clM, zrM, upd]
  · simp [clrM, upd]
  · simp [clrM, clM, zrM, upd]
  · simp [clrM, clM, zrM, upd]
  · simp [clrM, clM, zrM, upd]
  · simp [clrM, upd]
theorem Inv.clr {z : Zf} {k : Nat} (hk : k < 4) (h53 : z 53 = 0) (h61 : ¬ z 61 < 0) (hh : ∀ j : Nat, 86 ≤ j → z j = 0) : Inv (clrM z (nI k)) := by
  obtain ⟨c1, c2, c3, c4, c5, c6, c7⟩ := clr_lo (z := z) hk
  have ln : LnOk 0 (fun _ => 0) := ⟨by omega, fun i hi => absurd hi (Nat.not_lt_zero i), fun i j hi => absurd hi (Nat.not_lt_zero i)⟩
  refine ⟨⟨0, fun _ => 0, ⟨ln, ?_⟩, by rw [clr_hi (by omega) (by omega)]; exact h53, fun i hi => absurd hi (Nat.not_lt_zero i)⟩, by rw [clr_hi (by omega) (by omega)]; exact h61, fun j hj => by rw [clr_hi (by omega) (by omega)]; exact hh j hj⟩
  rcases (show k = 0 ∨ k = 1 ∨ k = 2 ∨ k = 3 by omega) with rfl | rfl | rfl | rfl
  · refine Or.inl ⟨c7, ⟨fun v hv => ⟨(c1 v hv).2.2.2.2.1, (c1 v hv).2.2.2.2.2⟩, c2, c4, c5, c6⟩, fun v hv _ => ⟨Or.inl (c1 v hv).1, (c1 v hv).2.2.2.1⟩, fun v hv => ⟨Or.inl (c1 v hv).2.1, Or.inl (c1 v hv).2.2.1⟩, fun _ => c3, fun i hi => absurd hi (by omega), fun i hi => absurd hi (by omega), fun hi => absurd hi (by omega)⟩
  · refine Or.inr (Or.inl ⟨c7, ⟨fun v hv => ⟨(c1 v hv).2.1, (c1 v hv).2.2.1, (c1 v hv).2.2.2.1, (c1 v hv).2.2.2.2.2.2⟩, c4, c5, c6⟩, fun v => v, 6, by omega, fun v hv => ⟨show v < 7 by omega, show v ≠ 6 by omega, (c1 v hv).2.2.2.2.1, Or.inl ⟨(c1 v hv).1, c2 v (by omega)⟩⟩, fun u v _ _ e => e, c2 6 (by omega), fun c hc => Or.inl (c2 c hc), fun v hv _ => ⟨Or.inl (c1 v hv).1, (c1 v hv).2.2.2.2.2.1⟩, fun _ => c3, fun i hi => absurd hi (by omega), fun i hi => absurd hi (by omega), fun hi => absurd hi (by omega)⟩)
  · refine Or.inr (Or.inr (Or.inl ⟨c7, ⟨fun v hv => ⟨(c1 v hv).2.1, (c1 v hv).2.2.1, (c1 v hv).2.2.2.1, (c1 v hv).2.2.2.2.1, (c1 v hv).2.2.2.2.2.1⟩, c2, c3, c6⟩, fun v hv _ => ⟨(c1 v hv).1, (c1 v hv).2.2.2.2.2.2⟩, fun i hi => absurd hi (by omega), by rw [c4, c5]; rfl⟩))
  · refine Or.inr (Or.inr (Or.inr ⟨c7, ⟨fun v hv => ⟨(c1 v hv).2.1, (c1 v hv).2.2.1, (c1 v hv).2.2.2.1, (c1 v hv).2.2.2.2.1, (c1 v hv).2.2.2.2.2.1, (c1 v hv).2.2.2.2.2.2⟩, c2, c3, c4, c5⟩, rfl, fun v hv => Or.inl (c1 v hv).1, Or.inl c6⟩))
theorem Inv.build {z : Zf} {k : Nat} (hk : k < 4) (h : Inv z) (h0 : ¬ 0 < cntZ z 6) : Inv (clrM z (nI k)) := by
  obtain ⟨⟨m, g, h1, h2⟩, h3, h4⟩ := h
  have hm : m = 0 := h1.away (fun v hv => Decidable.not_not.mp (fun b => h0 (cnt_pos.mpr ⟨v, hv, b⟩)))
  subst hm
  exact Inv.clr hk h2.1 h3 h4
/-- one of those who are not away can go on -/
theorem LK.live {z : Zf} {m : Nat} {g : Nat → Nat} (h : LK z m g) (ha : ∃ v : Nat, v < 6 ∧ ¬ z v = 0) : ∃ v : Nat, v < 6 ∧ (¬ z v = 0) ∧ isLook z v = false := by
  obtain ⟨w, hw, hz⟩ := ha
  have hn := h.1
  rcases h.2 with ⟨k, hC, hA⟩ | ⟨k, hC, o, e, hA⟩ | ⟨k, hC, hA⟩ | ⟨k, hC, hA⟩
  · rcases Nat.eq_zero_or_pos m with q | q
    · have t := hA.1 w hw (fun i hi => absurd hi (by omega))
      have t1 : z w = 1 := by grind
      exact ⟨w, hw, hz, by simp [isLook, k, t1]⟩
    · have b := hn.2.1 0 q
      rcases hA.2.2.2.2.2 q with ⟨t, t2, -⟩ | ⟨-, t | t | ⟨t, h1⟩ | ⟨t, -⟩⟩
      · exact ⟨g 0, b, by rw [t]; decide, by simp [isLook, k, t, t2]⟩
      · exact ⟨g 0, b, by rw [t]; decide, by simp [isLook, k, t]⟩
      · exact ⟨g 0, b, by rw [t]; decide, by simp [isLook, k, t]⟩
      · have b1 := hn.2.1 1 h1
        rcases (hA.2.2.2.2.1 0 h1).2.2 with ⟨u, -⟩ | ⟨u, u2⟩
        · exact ⟨g 1, b1, by rw [u]; decide, by simp [isLook, k, u]⟩
        · have n1 : ¬ z (6 + g 0) = -1 := by rw [u2]; exact nI_m1 (show g 1 < 2 ^ 31 by omega)
          exact ⟨g 0, b, by rw [t]; decide, by simp [isLook, k, t, n1]⟩
      · exact ⟨g 0, b, by rw [t]; decide, by simp [isLook, k, t]⟩
  · rcases Nat.eq_zero_or_pos m with q | q
    · have t := hA.2.2.2.2.2.1 w hw (fun i hi => absurd hi (by omega))
      have t1 : z w = 1 := by grind
      exact ⟨w, hw, hz, by simp [isLook, k, t1]⟩
    · have b := hn.2.1 0 q
      obtain ⟨t, t2⟩ := hA.2.2.2.2.2.2.2.2.2 q
      have he := hA.1
      rcases t with t | t
      · exact ⟨g 0, b, by rw [t]; decide, by simp [isLook, k, t, t2, ix_nI (show e < 2 ^ 31 by omega), hA.2.2.2.1]⟩
      · exact ⟨g 0, b, by rw [t]; decide, by simp [isLook, k, t]⟩
  · rcases Nat.eq_zero_or_pos m with q | q
    · have t := hA.1 w hw (fun i hi => absurd hi (by omega))
      exact absurd t.1 hz
    · have b := hn.2.1 0 q
      obtain ⟨t, t2⟩ := hA.2.1 0 q
      rw [show nI 0 = 0 from rfl, Int32.add_zero] at t
      rcases t2 with t2 | ⟨t2, -⟩
      · exact ⟨g 0, b, by rw [t2]; decide, by simp [isLook, k, t, t2]⟩
      · exact ⟨g 0, b, by rw [t2]; decide, by simp [isLook, k, t2]⟩
  · rcases hA.2.2 with q | ⟨q, v, hv, hs⟩
    · refine ⟨w, hw, hz, ?_⟩
      simp [isLook, k, q]
    · exact ⟨v, hv, by rw [hs]; decide, by simp [isLook, k, hs]⟩
/-- how far a visitor is from being away -/
def rk (s : Int32) : Nat := if s = 0 then 0 else if s = 1 then 7 else if s = 2 then 6 else if s = 3 then 5 else if s = 4 then 4 else if s = 5 then 3 else if s = 6 then 2 else 1
theorem rk_le (s : Int32) : rk s ≤ 7 := by unfold rk; repeat' split <;> try omega
theorem rk_0 {s : Int32} : rk s = 0 ↔ s = 0 := by
  unfold rk
  constructor
  · intro h
    repeat' split at h
    all_goals first | assumption | omega
  · intro h; rw [if_pos h]
theorem chM_oth {z : Zf} {v u : Nat} (hv : v < 6) (hW : Wf z) (hu : u < 6) (hne : u ≠ v) : chM z v u = z u := by
  simp only [chM]
  split
  next k0 =>
    simp only [chN]
    repeat' split
    all_goals try (simp (disch := omega) only [pk_un]; done)
  next k0 =>
    split
    next k1 =>
      obtain ⟨a, ha, e⟩ := hW.o k1 hv
      simp only [chW]
      rw [e, ix_nI (by omega)]
      repeat' split
      all_goals simp (disch := omega) only [pk_un]
    next k1 =>
      split
      next k2 =>
        simp only [chT]
        repeat' split
        all_goals simp (disch := omega) only [pk_un]
      next k2 =>
        simp only [chG]
        simp (disch := omega) only [pk_un]
theorem rk_step {z : Zf} {v : Nat} (hv : v < 6) (hW : Wc z) (hs : ¬ z v = 0) : rk (chM z v v) < rk (z v) := by
  obtain ⟨s, hs8, es, hk⟩ := hW.2.1 v hv
  rcases hk with k | ⟨k, q⟩ | ⟨k, q⟩
  · have e : chM z v = chN z v := by unfold chM; rw [if_pos k]
    rw [e, es]
    rcases (show s = 0 ∨ s = 1 ∨ s = 2 ∨ s = 3 ∨ s = 4 ∨ s = 5 ∨ s = 6 ∨ s = 7 by omega) with rfl | rfl | rfl | rfl | rfl | rfl | rfl | rfl
    · exact absurd es hs
    · have : chN z v v = if z 49 = -1 then 4 else 2 := by
        unfold chN; rw [if_neg (by rw [es]; decide), if_pos (by rw [es]; rfl), pk_un (by omega), pk_us]
      rw [this]; split <;> decide
    · have : chN z v v = 3 := by
        unfold chN; rw [if_neg (by rw [es]; decide), if_neg (by rw [es]; decide), if_pos (by rw [es]; rfl), pk_us]
      rw [this]; decide
    · have : chN z v v = 4 := by
        unfold chN; rw [if_neg (by rw [es]; decide), if_neg (by rw [es]; decide), if_neg (by rw [es]; decide), if_pos (by rw [es]; rfl), pk_us]
      rw [this]; decide
    · have : chN z v v = if z (6 + v) = -1 then 5 else 7 := by
        unfold chN; rw [if_neg (by rw [es]; decide), if_neg (by rw [es]; decide), if_neg (by rw [es]; decide), if_neg (by rw [es]; decide), if_pos (by rw [es]; rfl), pk_us]
      rw [this]; split <;> decide
    · have : chN z v v = if z 49 = nI v then 0 else 6 := by
        unfold chN; rw [if_neg (by rw [es]; decide), if_neg (by rw [es]; decide), if_neg (by rw [es]; decide), if_neg (by rw [es]; decide), if_neg (by rw [es]; decide), if_pos (by rw [es]; rfl), pk_un (by omega), pk_us]
      rw [this]; split <;> decide
    · have : chN z v v = 7 := by
        unfold chN; rw [if_neg (by rw [es]; decide), if_neg (by rw [es]; decide), if_neg (by rw [es]; decide), if_neg (by rw [es]; decide), if_neg (by rw [es]; decide), if_neg (by rw [es]; decide), if_pos (by rw [es]; rfl), pk_us]
      rw [this]; decide
    · have : chN z v v = 0 := by
        unfold chN; rw [if_neg (by rw [es]; decide), if_neg (by rw [es]; decide), if_neg (by rw [es]; decide), if_neg (by rw [es]; decide), if_neg (by rw [es]; decide), if_neg (by rw [es]; decide), if_neg (by rw [es]; decide), pk_us]
      rw [this]; decide
  · have e : chM z v = chW z v := by unfold chM; rw [if_neg (by rw [k]; decide), if_pos k]
    rw [e, es]
    rcases q with rfl | rfl | rfl | rfl
    · exact absurd es hs
    · have : chW z v v = 3 := by unfold chW; rw [if_neg (by rw [es]; decide), if_pos (by rw [es]; rfl), pk_us]
      rw [this]; decide
    · have : chW z v v = 4 := by unfold chW; rw [if_neg (by rw [es]; decide), if_neg (by rw [es]; decide), if_pos (by rw [es]; rfl), pk_us]
      rw [this]; decide
    · have : chW z v v = 0 := by unfold chW; rw [if_neg (by rw [es]; decide), if_neg (by rw [es]; decide), if_neg (by rw [es]; decide), pk_us]
      rw [this]; decide
  · rcases k with k | k
    · have e : chM z v = chT z v := by unfold chM; rw [if_neg (by rw [k]; decide), if_neg (by rw [k]; decide), if_pos k]
      rw [e, es]
      rcases q with rfl | rfl | rfl
      · exact absurd es hs
      · have : chT z v v = 4 := by unfold chT; rw [if_neg (by rw [es]; decide), if_pos (by rw [es]; rfl), pk_us]
        rw [this]; decide
      · have : chT z v v = 0 := by unfold chT; rw [if_neg (by rw [es]; decide), if_neg (by rw [es]; decide), pk_us]
        rw [this]; decide
    · have e : chM z v = chG z v := by unfold chM; rw [if_neg (by rw [k]; decide), if_neg (by rw [k]; decide), if_neg (by rw [k]; decide)]
      rw [e, es]
      have e2 : chG z v v = (if z v = 0 then 3 else if z v = 3 then 4 else 0) := by unfold chG; rw [pk_us]
      rw [e2, es]
      rcases q with rfl | rfl | rfl
      · exact absurd es hs
      · decide
      · decide
