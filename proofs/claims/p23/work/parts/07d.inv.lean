/-! a step and the line -/
theorem chM_60 {z : Zf} {v : Nat} (hv : v < 6) (hW : Wf z) : chM z v 60 = z 60 := chM_hi hW hv (by omega)
theorem stM_nl {z : Zf} {v m : Nat} (hv : v < 6) (hW : Wf z) (hm : m ≤ 6) (em : z 53 = nI m) (hl : isLook z v = false) :
    (∀ j : Nat, j < 53 → stM z v j = chM z v j) ∧ (m < 6 ∨ chM z v v = 0 ∨ ¬ (z 60 < 3 ∧ z v < 2 ∧ ¬ chM z v v < 2) → stM z v 60 = z 60) ∧
    (chM z v v = 0 → 0 < m → z 54 = nI v → (∀ j : Nat, j < m → z (54 + j) = nI v → j = 0) → stM z v 53 = nI (m - 1) ∧ ∀ j : Nat, j < m - 1 → stM z v (54 + j) = z (54 + (j + 1))) ∧
    (m < 6 → ¬ chM z v v = 0 → (z 60 < 3 ∧ z v < 2 ∧ ¬ chM z v v < 2) → stM z v 53 = nI (m + 1) ∧ stM z v (54 + m) = nI v ∧ ∀ j : Nat, j < m → stM z v (54 + j) = z (54 + j)) ∧
    (¬ chM z v v = 0 → ¬ (z 60 < 3 ∧ z v < 2 ∧ ¬ chM z v v < 2) → stM z v 53 = nI m ∧ ∀ j : Nat, j < m → stM z v (54 + j) = z (54 + j)) ∧
    (chM z v v = 0 → m = 0 → stM z v 53 = nI 0) := by
  have hlo : ∀ j : Nat, j < 62 → st3 z v j = z j := fun j hj => st3_lo (by omega)
  have hs : stM z v = st6 (st5 (chM (st3 z v) v) v) v (z v) := by simp [stM, hl]
  have hc : ∀ j : Nat, j < 61 → chM (st3 z v) v j = chM z v j := fun j hj => chM_congr hv (fun j hj => hlo j (by omega)) hj
  have hh : ∀ j : Nat, 53 ≤ j → j < 62 → chM (st3 z v) v j = z j := fun j hj h2 => by rw [chM_hi (st3_wf hW) hv hj, hlo j h2]
  have e60 : chM z v 60 = z 60 := chM_hi hW hv (by omega)
  by_cases q0 : chM z v v = 0
  · have ev : chM (st3 z v) v v = 0 := by rw [hc v (by omega)]; exact q0
    have hs2 : st5 (chM (st3 z v) v) v = lvM (upd (chM (st3 z v) v) (74 + v) (chM (st3 z v) v (74 + v) + 1)) v := by simp only [st5, if_pos ev]
    generalize hc' : upd (chM (st3 z v) v) (74 + v) (chM (st3 z v) v (74 + v) + 1) = c' at hs2
    have c1 : ∀ j : Nat, j < 62 → c' j = chM (st3 z v) v j := fun j hj => by rw [← hc', pk_un (by omega)]
    have c2 : ∀ j : Nat, 53 ≤ j → j < 62 → c' j = z j := fun j hj h2 => by rw [c1 j h2, hh j hj h2]
    have c53 : c' 53 = nI m := by rw [c2 53 (by omega) (by omega)]; exact em
    have hs3 : stM z v = lvM c' v := by
      rw [hs, hs2]
      have lv : lvM c' v v = 0 := by
        rw [lvM_of hm c53]
        split
        · rw [c1 v (by omega)]; exact ev
        · rw [shl_at _ _ _ (Or.inl (by omega)), pk_un (by omega), c1 v (by omega)]; exact ev
      unfold st6
      rw [if_neg (fun a => a.2.2 (by rw [lv]; decide))]
    have hj : ∀ j : Nat, j < 53 ∨ j = 60 → stM z v j = c' j := by
      intro j hj
      rw [hs3, lvM_of hm c53]
      rcases plc_cases c' v m with e | ⟨p, hp, e⟩
      · rw [if_pos e]
      · rw [if_neg (by rw [e]; exact nI_m5 (by omega)), e, ix_nI (by omega), shl_val, if_neg (by omega), pk_un (by omega)]
    refine ⟨fun j h => by rw [hj j (Or.inl h), c1 j (by omega), hc j (by omega)], fun _ => by rw [hj 60 (Or.inr rfl), c2 60 (by omega) (by omega)], ?_, fun _ a => absurd q0 a, fun a => absurd q0 a, ?_⟩
    · intro _ h0 e54 hu
      have epc : plc c' v m = nI 0 := plc_of h0 (by rw [c2 _ (by omega) (by omega)]; exact e54) (fun j hj e => hu j hj (by rw [← c2 (54 + j) (by omega) (by omega)]; exact e))
      have hs4 : stM z v = shl (upd c' 53 (c' 53 - 1)) 0 (m - 1 - 0) := by
        rw [hs3, lvM_of hm c53, epc, if_neg (nI_m5 (by omega)), ix_nI (by omega)]
      refine ⟨?_, fun j hj => ?_⟩
      · rw [hs4, shl_53, pk_us, c53]
        exact pk_sub (a := m) (b := 1) (by omega)
      · rw [hs4, shl_val, if_pos (by omega), pk_un (by omega), c2 _ (by omega) (by omega)]
        rfl
    · intro _ h0
      subst h0
      have epc : plc c' v 0 = -5 := rfl
      rw [hs3, lvM_of hm c53, epc, if_pos rfl]
      exact c53
  · have ev : ¬ chM (st3 z v) v v = 0 := by rw [hc v (by omega)]; exact q0
    have hs2 : stM z v = st6 (chM (st3 z v) v) v (z v) := by rw [hs]; simp only [st5, if_neg ev]
    have k60 : chM (st3 z v) v 60 = z 60 := hh 60 (by omega) (by omega)
    have k53 : chM (st3 z v) v 53 = nI m := by rw [hh 53 (by omega) (by omega)]; exact em
    by_cases hc9 : z 60 < 3 ∧ z v < 2 ∧ ¬ chM z v v < 2
    · have hs3 : stM z v = upd (upd (chM (st3 z v) v) (54 + m) (nI v)) 53 (nI m + 1) := by
        rw [hs2]
        unfold st6
        rw [if_pos ⟨by rw [k60]; exact hc9.1, hc9.2.1, by rw [hc v (by omega)]; exact hc9.2.2⟩, k53, ix_nI (by omega)]
      refine ⟨fun j h => by rw [hs3, pk_un (by omega), pk_un (by omega), hc j (by omega)], fun hm6 => have h66 : m < 6 := hm6.elim id (fun q => q.elim (fun q => absurd q q0) (fun q => absurd hc9 q)); by rw [hs3, pk_un (by omega), pk_un (by omega), k60], fun a => absurd a q0, fun hm6 _ _ => ⟨?_, ?_, fun j hj => ?_⟩, fun _ a => absurd hc9 a, fun a => absurd a q0⟩
      · rw [hs3, pk_us]; exact nI_1 m
      · rw [hs3, pk_un (by omega), pk_us]
      · rw [hs3, pk_un (by omega), pk_un (by omega), hh _ (by omega) (by omega)]
    · have hs3 : stM z v = chM (st3 z v) v := by
        rw [hs2]
        unfold st6
        rw [if_neg (fun a => hc9 ⟨by rw [← k60]; exact a.1, a.2.1, by rw [← hc v (by omega)]; exact a.2.2⟩)]
      refine ⟨fun j h => by rw [hs3, hc j (by omega)], fun _ => by rw [hs3, k60], fun a => absurd a q0, fun _ _ a => absurd a hc9, fun _ _ => ⟨by rw [hs3]; exact k53, fun j hj => by rw [hs3, hh _ (by omega) (by omega)]⟩, fun a => absurd a q0⟩
/-- the whole state -/
def LnIs (z : Zf) (m : Nat) (g : Nat → Nat) : Prop := z 53 = nI m ∧ ∀ i : Nat, i < m → z (54 + i) = nI (g i)
def Inv (z : Zf) : Prop := (∃ (m : Nat) (g : Nat → Nat), LK z m g ∧ LnIs z m g) ∧ (¬ z 61 < 0) ∧ ∀ j : Nat, 86 ≤ j → z j = 0
theorem LK.k {z : Zf} {m : Nat} {g : Nat → Nat} (h : LK z m g) : ∃ k : Nat, k < 4 ∧ z 60 = nI k := by
  rcases h.2 with ⟨k, -⟩ | ⟨k, -⟩ | ⟨k, -⟩ | ⟨k, -⟩
  · exact ⟨0, by omega, k⟩
  · exact ⟨1, by omega, k⟩
  · exact ⟨2, by omega, k⟩
  · exact ⟨3, by omega, k⟩
theorem LK.wf {z : Zf} {m : Nat} {g : Nat → Nat} (h : LK z m g) (h53 : ∃ m : Nat, m ≤ 6 ∧ z 53 = nI m) : Wf z := by
  refine ⟨h.k, h53, ?_, ?_, ?_, ?_⟩
  · intro k v hv hs
    rcases h.2 with ⟨-, -, hA⟩ | ⟨q, -⟩ | ⟨q, -⟩ | ⟨q, -⟩
    · rcases in_or (m := m) (v := v) (g := g) with ho | ⟨i, hi, e⟩
      · have := hA.1 v hv ho
        grind
      · rcases i with _ | i
        · have := hA.2.2.2.2.2 hi
          grind
        · have := hA.2.2.2.2.1 i hi
          exact ⟨g i, h.1.2.1 i (by omega), by rw [← e]; exact this.2.1⟩
    all_goals (rw [k] at q; exact absurd q (by decide))
  · intro k v hv h0 h1 h2 h3 h4 h5 h6
    rcases h.2 with ⟨-, -, hA⟩ | ⟨q, -⟩ | ⟨q, -⟩ | ⟨q, -⟩
    · rcases A0_st hv hA with hs | hs | hs | hs | hs | hs | hs | hs
      · exact absurd hs h0
      · exact absurd hs h1
      · exact absurd hs h2
      · exact absurd hs h3
      · exact absurd hs h4
      · exact absurd hs h5
      · exact absurd hs h6
      · have hf0 := A0_fst hv hA (Or.inr (Or.inr (Or.inr hs)))
        have t := hA.2.2.2.2.2 hf0.1
        have t2 := (hA.2.1 v hv).1
        have t3 : ¬ z (6 + v) = -1 := by grind
        rcases t2 with q | q
        · exact absurd q t3
        · exact q
    all_goals (rw [k] at q; exact absurd q (by decide))
  · intro k v hv
    rcases h.2 with ⟨q, -⟩ | ⟨-, -, o, e, hA⟩ | ⟨q, -⟩ | ⟨q, -⟩
    · rw [k] at q; exact absurd q (by decide)
    · exact ⟨o v, (hA.2.1 v hv).1, (hA.2.1 v hv).2.2.1⟩
    all_goals (rw [k] at q; exact absurd q (by decide))
  · intro k v hv hs
    rcases h.2 with ⟨q, -⟩ | ⟨-, -, o, e, hA⟩ | ⟨q, -⟩ | ⟨q, -⟩
    · rw [k] at q; exact absurd q (by decide)
    · rcases in_or (m := m) (v := v) (g := g) with ho | ⟨i, hi, q⟩
      · have := hA.2.2.2.2.2.1 v hv ho
        grind
      · rcases i with _ | i
        · exact ⟨e, hA.1, by rw [← q]; exact (hA.2.2.2.2.2.2.2.2.2 hi).2⟩
        · have := hA.2.2.2.2.2.2.2.2.1 i hi
          exact ⟨o (g i), (hA.2.1 _ (h.1.2.1 i (by omega))).1, by rw [← q]; exact this.2⟩
    all_goals (rw [k] at q; exact absurd q (by decide))
