theorem chM_congr {z w : Zf} {v : Nat} (hv : v < 6) (h : ∀ j : Nat, j < 61 → z j = w j) {j : Nat} (hj : j < 61) : chM z v j = chM w v j := by
  have e60 := h 60 (by omega)
  have ev := h v (by omega)
  have e49 := h 49 (by omega)
  have e6 := h (6 + v) (by omega)
  have e18 := h (18 + v) (by omega)
  have e24 := h (24 + v) (by omega)
  have e30 := h (30 + v) (by omega)
  have e50 := h 50 (by omega)
  have e51 := h 51 (by omega)
  have e52 := h 52 (by omega)
  have ej := h j hj
  simp only [chM, chN, chW, chT, chG, e60, ev, e49, e6, e18, e24, e30, e50, e51, e52]
  have u : ∀ (f g : Zf) (i : Nat) (x : Int32), f j = g j → upd f i x j = upd g i x j := fun f g i x e => by simp only [upd, e]
  repeat' split
  all_goals first | exact u _ _ _ _ (u _ _ _ _ (u _ _ _ _ (u _ _ _ _ ej))) | exact u _ _ _ _ (u _ _ _ _ (u _ _ _ _ ej)) | exact u _ _ _ _ (u _ _ _ _ ej) | exact u _ _ _ _ ej
theorem look_st {z : Zf} {v : Nat} (h : isLook z v = true) : ¬ z v = 0 := by
  intro e
  simp [isLook, e] at h
/-- where a step that is no look leads -/
theorem trans {z : Zf} {v : Nat} (hv : v < 6) (hW : Wc z) (hl : isLook z v = false) : (joA z v = true ↔ z 60 < 3 ∧ z v < 2 ∧ ¬ chM z v v < 2) ∧ (chM z v v = 0 → joA z v = false ∧ leA z v = quB z v) ∧ (¬ chM z v v = 0 → leA z v = false) := by
  have hz : zlC z v = chM z v := by simp [zlC, hl]
  obtain ⟨s, hs, es, hk⟩ := hW.2.1 v hv
  have e60 : chM z v 60 = z 60 := chM_hi hW.1 hv (by omega)
  simp only [joA, leA, hz, quB, e60]
  obtain ⟨k, hk4, ek⟩ := hW.1.k
  have hk' : ksB k s = true := by
    rcases hk with q | ⟨q, q2⟩ | ⟨q, q2⟩
    · rw [ek] at q
      have : k = 0 := (nI_eq (b := 0) (by omega) (by decide)).mp q
      subst this; rfl
    · rw [ek] at q
      have : k = 1 := (nI_eq (b := 1) (by omega) (by decide)).mp q
      subst this
      rcases q2 with rfl | rfl | rfl | rfl <;> rfl
    · rw [ek] at q
      have : k = 2 ∨ k = 3 := q.imp (nI_eq (b := 2) (by omega) (by decide)).mp (nI_eq (b := 3) (by omega) (by decide)).mp
      rcases this with rfl | rfl <;> rcases q2 with rfl | rfl | rfl <;> rfl
  have l1 : nI 1 = 1 := rfl
  have l2 : nI 2 = 2 := rfl
  have l3 : nI 3 = 3 := rfl
  have l4 : nI 4 = 4 := rfl
  have l5 : nI 5 = 5 := rfl
  have l6 : nI 6 = 6 := rfl
  have l7 : nI 7 = 7 := rfl
  have n49 : ¬ v = 49 := by omega
  have n50 : ¬ v = 50 := by omega
  have n51 : ¬ v = 51 := by omega
  have n52 : ¬ v = 52 := by omega
  have key : ∀ (s' : Int32), chM z v v = s' → ((!(if nI k = 0 then !decide (nI s < 2) else if nI k = 1 then !decide (nI s < 3) else if nI k = 2 then !decide (nI s = 0) else false) && (if nI k = 0 then !decide (s' < 2) else if nI k = 1 then !decide (s' < 3) else if nI k = 2 then !decide (s' = 0) else false)) = true ↔ nI k < 3 ∧ nI s < 2 ∧ ¬ s' < 2) ∧ (s' = 0 → ((!(if nI k = 0 then !decide (nI s < 2) else if nI k = 1 then !decide (nI s < 3) else if nI k = 2 then !decide (nI s = 0) else false) && (if nI k = 0 then !decide (s' < 2) else if nI k = 1 then !decide (s' < 3) else if nI k = 2 then !decide (s' = 0) else false)) = false ∧ ((if nI k = 0 then !decide (nI s < 2) else if nI k = 1 then !decide (nI s < 3) else if nI k = 2 then !decide (nI s = 0) else false) && !(if nI k = 0 then !decide (s' < 2) else if nI k = 1 then !decide (s' < 3) else if nI k = 2 then !decide (s' = 0) else false)) = (if nI k = 0 then !decide (nI s < 2) else if nI k = 1 then !decide (nI s < 3) else if nI k = 2 then !decide (nI s = 0) else false))) ∧ (¬ s' = 0 → ((if nI k = 0 then !decide (nI s < 2) else if nI k = 1 then !decide (nI s < 3) else if nI k = 2 then !decide (nI s = 0) else false) && !(if nI k = 0 then !decide (s' < 2) else if nI k = 1 then !decide (s' < 3) else if nI k = 2 then !decide (s' = 0) else false)) = false) := by
    have hv2 : ∀ (x : Int32) (P : Int32 → Prop), (chM z v v = x) → P x → ∀ s', chM z v v = s' → P s' := fun x P e p s' e' => by rw [← e', e]; exact p
    rcases (show k = 0 ∨ k = 1 ∨ k = 2 ∨ k = 3 by omega) with rfl | rfl | rfl | rfl
    · rcases (show s = 0 ∨ s = 1 ∨ s = 2 ∨ s = 3 ∨ s = 4 ∨ s = 5 ∨ s = 6 ∨ s = 7 by omega) with rfl | rfl | rfl | rfl | rfl | rfl | rfl | rfl
      · exact hv2 1 _ (by simp [chM, ek, chN, es, upd, nI_0, l1, l2, l3, l4, l5, l6, l7]) (by decide)
      · by_cases q : z 49 = -1
        · exact hv2 4 _ (by simp [chM, ek, chN, es, upd, q, n49, nI_0, l1, l2, l3, l4, l5, l6, l7]) (by decide)
        · exact hv2 2 _ (by simp [chM, ek, chN, es, upd, q, n49, nI_0, l1, l2, l3, l4, l5, l6, l7]) (by decide)
      · exact hv2 3 _ (by simp [chM, ek, chN, es, upd, nI_0, l1, l2, l3, l4, l5, l6, l7]) (by decide)
      · exact hv2 4 _ (by simp [chM, ek, chN, es, upd, nI_0, l1, l2, l3, l4, l5, l6, l7]) (by decide)
      · by_cases q : z (6 + v) = -1
        · exact hv2 5 _ (by simp [chM, ek, chN, es, upd, q, nI_0, l1, l2, l3, l4, l5, l6, l7]) (by decide)
        · exact hv2 7 _ (by simp [chM, ek, chN, es, upd, q, nI_0, l1, l2, l3, l4, l5, l6, l7]) (by decide)
      · by_cases q : z 49 = nI v
        · exact hv2 0 _ (by simp [chM, ek, chN, es, upd, q, n49, nI_0, l1, l2, l3, l4, l5, l6, l7]) (by decide)
        · exact hv2 6 _ (by simp [chM, ek, chN, es, upd, q, n49, nI_0, l1, l2, l3, l4, l5, l6, l7]) (by decide)
      · exact hv2 7 _ (by simp [chM, ek, chN, es, upd, nI_0, l1, l2, l3, l4, l5, l6, l7]) (by decide)
      · exact hv2 0 _ (by simp [chM, ek, chN, es, upd, nI_0, l1, l2, l3, l4, l5, l6, l7]) (by decide)
    · rcases (show s = 0 ∨ s = 1 ∨ s = 3 ∨ s = 4 by simp [ksB] at hk'; omega) with rfl | rfl | rfl | rfl
      · exact hv2 1 _ (by simp [chM, ek, chW, es, upd, nI_0, l1, l2, l3, l4, l5, l6, l7]) (by decide)
      · exact hv2 3 _ (by simp [chM, ek, chW, es, upd, nI_0, l1, l2, l3, l4, l5, l6, l7]) (by decide)
      · exact hv2 4 _ (by simp [chM, ek, chW, es, upd, nI_0, l1, l2, l3, l4, l5, l6, l7]) (by decide)
      · exact hv2 0 _ (by simp [chM, ek, chW, es, upd, nI_0, l1, l2, l3, l4, l5, l6, l7]) (by decide)
    · rcases (show s = 0 ∨ s = 3 ∨ s = 4 by simp [ksB] at hk'; omega) with rfl | rfl | rfl
      · exact hv2 3 _ (by simp [chM, ek, chT, es, upd, nI_0, l1, l2, l3, l4, l5, l6, l7]) (by decide)
      · exact hv2 4 _ (by simp [chM, ek, chT, es, upd, nI_0, l1, l2, l3, l4, l5, l6, l7]) (by decide)
      · exact hv2 0 _ (by simp [chM, ek, chT, es, upd, nI_0, l1, l2, l3, l4, l5, l6, l7]) (by decide)
    · rcases (show s = 0 ∨ s = 3 ∨ s = 4 by simp [ksB] at hk'; omega) with rfl | rfl | rfl
      · exact hv2 3 _ (by simp [chM, ek, chG, es, upd, nI_0, l1, l2, l3, l4, l5, l6, l7]) (by decide)
      · exact hv2 4 _ (by simp [chM, ek, chG, es, upd, nI_0, l1, l2, l3, l4, l5, l6, l7]) (by decide)
      · exact hv2 0 _ (by simp [chM, ek, chG, es, upd, nI_0, l1, l2, l3, l4, l5, l6, l7]) (by decide)
  rw [ek, es]
  exact key _ rfl
theorem enc_congr {z w : Zf} (h : ∀ j : Nat, j < 61 → z j = w j) : encC z = encC w := by
  funext j
  by_cases hj : j < 54
  · simp only [encC]
    rw [h 60 (by omega), h 49 (by omega), h j (by omega), h (j - 36) (by omega)]
  · rw [enc_hi (by omega), enc_hi (by omega)]
theorem quB_congr {z w : Zf} {v : Nat} (hv : v < 6) (h : ∀ j : Nat, j < 61 → z j = w j) : quB z v = quB w v := by
  simp only [quB, h 60 (by omega), h v (by omega)]
/-- one taken out: on both sides alike -/
theorem lvR_shl {f : Zf} {x : Int32} {p : Nat} (hp : f p = x) : ∀ {m : Nat}, (∀ j : Nat, j < m → j ≠ p → ¬ f j = x) → (m ≤ p → lvR f x m = (f, m)) ∧ (p < m → (lvR f x m).2 = m - 1 ∧ ∀ j : Nat, (lvR f x m).1 j = if p ≤ j ∧ j < m - 1 then f (j + 1) else f j)
  | 0, _ => ⟨fun _ => rfl, fun h => absurd h (Nat.not_lt_zero p)⟩
  | m + 1, hu => by
    have ih := lvR_shl (m := m) hp (fun j hj hne => hu j (by omega) hne)
    refine ⟨fun h => ?_, fun h => ?_⟩
    · have e := ih.1 (by omega)
      simp only [lvR, e]
      rw [if_neg (hu m (by omega) (by omega)), upd_id rfl]
    · by_cases q : p = m
      · subst q
        have e := ih.1 (Nat.le_refl p)
        simp only [lvR, e, hp, if_true]
        refine ⟨by omega, fun j => ?_⟩
        rw [if_neg (by omega)]
      · have e := ih.2 (by omega)
        have e1 : (lvR f x m).1 m = f m := by rw [e.2 m, if_neg (by omega)]
        simp only [lvR, e1]
        rw [if_neg (hu m (by omega) (fun e9 => q e9.symm))]
        refine ⟨by show (lvR f x m).2 + 1 = _; rw [e.1]; omega, fun j => ?_⟩
        show upd (lvR f x m).1 (lvR f x m).2 (f m) j = _
        simp only [upd, e.1]
        by_cases qj : j = m - 1
        · rw [if_pos qj, if_pos (by omega), show j + 1 = m by omega]
        · rw [if_neg qj, e.2 j]
          by_cases q2 : p ≤ j ∧ j < m - 1
          · rw [if_pos q2, if_pos (by omega)]
          · rw [if_neg q2, if_neg (by omega)]
theorem shl_val (z : Zf) (p : Nat) : ∀ (n j : Nat), shl z p n j = if 54 + p ≤ j ∧ j < 54 + p + n then z (j + 1) else z j
  | 0, j => by rw [if_neg (by omega)]; rfl
  | n + 1, j => by
    simp only [shl, upd]
    by_cases q : j = 54 + (p + n)
    · rw [if_pos q, if_pos (by omega), shl_val z p n, if_neg (by omega), q]
      congr 1
    · rw [if_neg q, shl_val z p n]
      by_cases q2 : 54 + p ≤ j ∧ j < 54 + p + n
      · rw [if_pos q2, if_pos (by omega)]
      · rw [if_neg q2, if_neg (by omega)]
theorem ifupd {c : Prop} [Decidable c] (f : Zf) (i : Nat) (x : Int32) (j : Nat) : (if c then upd f i x else f) j = if c ∧ j = i then x else f j := by
  by_cases h : c
  · rw [if_pos h]
    by_cases q : j = i
    · rw [if_pos ⟨h, q⟩, q, pk_us]
    · rw [if_neg (fun a => q a.2), pk_un q]
  · rw [if_neg h, if_neg (fun a => h a.1)]
theorem cnA_at (z : Zf) {v j : Nat} (hj : j < 24) : cnA z v j = if zlC z v v = 0 ∧ j = 12 + v then z (62 + (12 + v)) + 1 else if isLook z v = true ∧ j = 6 + v then z (62 + (6 + v)) + 1 else if j = 18 + v then z (62 + (18 + v)) + costM (z 60) (z v) else if j = v then z (62 + v) + 1 else z (62 + j) := by
  unfold cnA cn2 cn1
  rw [ifupd, ifupd]
  simp only [upd, cntC, if_pos hj]
theorem cnA_hi (z : Zf) {v j : Nat} (hv : v < 6) (hj : ¬ j < 24) : cnA z v j = 0 := by
  unfold cnA cn2 cn1
  rw [ifupd, ifupd, if_neg (by omega), if_neg (by omega)]
  simp only [upd, cntC, if_neg hj]
  rw [if_neg (by omega), if_neg (by omega)]
theorem st3_at (z : Zf) (v j : Nat) : st3 z v j = if j = 80 + v then z (80 + v) + costM (z 60) (z v) else if j = 68 + v then z (68 + v) + bI (isLook z v) else if j = 62 + v then z (62 + v) + 1 else z j := rfl
/-- the counts behind a step -/
theorem stM_cn {z : Zf} {v : Nat} (hv : v < 6) (hW : Wf z) {j : Nat} (hj : 61 ≤ j) : stM z v j = if zlC z v v = 0 ∧ isLook z v = false ∧ j = 74 + v then z j + 1 else st3 z v j := by
  cases hl : isLook z v with
  | true => simp [stM, hl]
  | false =>
    have hz : zlC z v = chM z v := by simp [zlC, hl]
    have hs : stM z v = st6 (st5 (chM (st3 z v) v) v) v (z v) := by simp [stM, hl]
    have hlo : ∀ j : Nat, j < 61 → st3 z v j = z j := fun j hj => st3_lo (by omega)
    have hc : ∀ j : Nat, j < 61 → chM (st3 z v) v j = chM z v j := fun j hj => chM_congr hv hlo hj
    have hh : ∀ j : Nat, 53 ≤ j → chM (st3 z v) v j = st3 z v j := fun j hj => chM_hi (st3_wf hW) hv hj
    rw [hs, hz]
    have e6 : ∀ (w : Zf) (x : Int32), (∃ m : Nat, m ≤ 6 ∧ w 53 = nI m) → st6 w v x j = w j := by
      intro w x ⟨m, hm, em⟩
      simp only [st6]
      split
      · rw [pk_un (by omega), em, ix_nI (by omega), pk_un (by omega)]
      · rfl
    obtain ⟨m, hm, em⟩ := hW.m
    have h53 : chM (st3 z v) v 53 = nI m := by rw [hh 53 (by omega), st3_lo (by omega)]; exact em
    rw [e6 _ _ (st5_53 hv hm h53)]
    simp only [st5, hc v (by omega)]
    by_cases q : chM z v v = 0
    · rw [if_pos q]
      have h53' : (upd (chM (st3 z v) v) (74 + v) (chM (st3 z v) v (74 + v) + 1)) 53 = nI m := by rw [pk_un (by omega)]; exact h53
      rw [lvM_of hm h53']
      have e7 : (upd (chM (st3 z v) v) (74 + v) (chM (st3 z v) v (74 + v) + 1)) j = if chM z v v = 0 ∧ True ∧ j = 74 + v then z j + 1 else st3 z v j := by
        by_cases q2 : j = 74 + v
        · subst q2
          rw [pk_us, if_pos ⟨q, trivial, rfl⟩, hh _ (by omega), st3_at, if_neg (by omega), if_neg (by omega), if_neg (by omega)]
        · rw [pk_un q2, if_neg (fun a => q2 a.2.2)]; exact hh j (by omega)
      split
      · exact e7
      · rcases plc_cases (upd (chM (st3 z v) v) (74 + v) (chM (st3 z v) v (74 + v) + 1)) v m with ep | ⟨p, hp, ep⟩
        · contradiction
        · rw [ep, ix_nI (by omega), shl_val, if_neg (by omega), pk_un (by omega)]
          exact e7
    · rw [if_neg q, if_neg (fun a => q a.1)]; exact hh j (by omega)
theorem cnt_stM {z : Zf} {v : Nat} (hv : v < 6) (hW : Wf z) : cntC (stM z v) = cnA z v := by
  funext j
  by_cases q : j < 24
  · rw [cnt_at q, cnA_at z q, stM_cn hv hW (by omega), st3_at]
    by_cases q4 : j = 12 + v
    · subst q4
      rw [if_neg (show ¬ 62 + (12 + v) = 80 + v by omega), if_neg (show ¬ 62 + (12 + v) = 68 + v by omega), if_neg (show ¬ 62 + (12 + v) = 62 + v by omega), if_neg (show ¬ (isLook z v = true ∧ 12 + v = 6 + v) from fun a => by omega), if_neg (show ¬ 12 + v = 18 + v by omega), if_neg (show ¬ 12 + v = v by omega)]
      cases hl : isLook z v with
      | true =>
        have : ¬ zlC z v v = 0 := by rw [show zlC z v = z by simp [zlC, hl]]; exact look_st hl
        rw [if_neg (fun a => this a.1), if_neg (fun a => this a.1)]
      | false =>
        by_cases q0 : zlC z v v = 0
        · rw [if_pos ⟨q0, rfl, by omega⟩, if_pos ⟨q0, rfl⟩]
        · rw [if_neg (fun a => q0 a.1), if_neg (fun a => q0 a.1)]
    · rw [if_neg (show ¬ (zlC z v v = 0 ∧ isLook z v = false ∧ 62 + j = 74 + v) from fun a => q4 (by omega)), if_neg (show ¬ (zlC z v v = 0 ∧ j = 12 + v) from fun a => q4 a.2)]
      by_cases q3 : j = 6 + v
      · subst q3
        rw [if_neg (show ¬ 62 + (6 + v) = 80 + v by omega), if_pos (show 62 + (6 + v) = 68 + v by omega), if_neg (show ¬ 6 + v = 18 + v by omega), if_neg (show ¬ 6 + v = v by omega), show 62 + (6 + v) = 68 + v by omega]
        cases hl : isLook z v <;> simp [bI]
      · rw [if_neg (show ¬ (isLook z v = true ∧ j = 6 + v) from fun a => q3 a.2)]
        by_cases q2 : j = 18 + v
        · subst q2
          rw [if_pos (show 62 + (18 + v) = 80 + v by omega), if_pos rfl, show 62 + (18 + v) = 80 + v by omega]
        · rw [if_neg (show ¬ 62 + j = 80 + v by omega), if_neg (show ¬ 62 + j = 68 + v by omega), if_neg q2]
          by_cases q1 : j = v
          · subst q1; rw [if_pos rfl, if_pos rfl]
          · rw [if_neg (by omega), if_neg q1]
  · rw [cnA_hi z hv q]
    simp only [cntC, if_neg q]
theorem sum_step {z : Zf} {v : Nat} (hv : v < 6) (hW : Wf z) : sumZ (stM z v) 62 6 = sumZ z 62 6 + 1 := by
  have e : ∀ i : Nat, i < 6 → stM z v (62 + i) = if i = v then z (62 + i) + 1 else z (62 + i) := by
    intro i hi
    rw [stM_cn hv hW (by omega), if_neg (fun a => by omega), st3_at, if_neg (by omega), if_neg (by omega)]
    by_cases q : i = v
    · subst q; rw [if_pos rfl, if_pos rfl]
    · rw [if_neg (by omega), if_neg q]
  simp only [sumZ]
  rw [e 0 (by omega), e 1 (by omega), e 2 (by omega), e 3 (by omega), e 4 (by omega), e 5 (by omega)]
  have sw : ∀ a b : Int32, a + 1 + b = a + b + 1 := fun a b => by rw [Int32.add_assoc, Int32.add_comm 1, ← Int32.add_assoc]
  rcases (show v = 0 ∨ v = 1 ∨ v = 2 ∨ v = 3 ∨ v = 4 ∨ v = 5 by omega) with rfl | rfl | rfl | rfl | rfl | rfl <;> simp [← Int32.add_assoc, sw]
theorem enc_congr2 {z w : Zf} (h : ∀ j : Nat, j < 53 → z j = w j) (h60 : z 60 = w 60) : encC z = encC w := by
  funext j
  by_cases hj : j < 53
  · simp only [encC]
    rw [h60, h 49 (by omega), h j hj, h (j - 36) (by omega)]
  · by_cases h53 : j = 53
    · subst h53; rw [e_ki, e_ki, h60]
    · rw [enc_hi (by omega), enc_hi (by omega)]
theorem lin_congr {z w : Zf} (h : ∀ i : Nat, i < 6 → z (54 + i) = w (54 + i)) : linC z = linC w := by
  funext j
  simp only [linC]
  by_cases q : j < 6
  · rw [if_pos q, if_pos q, h j q]
  · rw [if_neg q, if_neg q]
theorem adv_eq {z : Zf} {v : Nat} (hv : v < 6) (hW : Wc z) (hL : Li z) : encC (stM z v) = encC (zlC z v) ∧ cntC (stM z v) = cnA z v ∧ linC (stM z v) = liA z v ∧ stM z v 53 = lnA z v ∧ stM z v 61 = z 61 := by
  have hlo : ∀ j : Nat, j < 62 → st3 z v j = z j := fun j hj => st3_lo (by omega)
  have h61 : stM z v 61 = z 61 := by rw [stM_cn hv hW.1 (by omega), if_neg (fun a => by omega), hlo 61 (by omega)]
  have hcn := cnt_stM hv hW.1
  cases hl : isLook z v with
  | true =>
    have hz : zlC z v = z := by simp [zlC, hl]
    have hs : stM z v = st3 z v := by simp [stM, hl]
    have hj : joA z v = false := by simp [joA, hz]
    have hle : leA z v = false := by simp [leA, hz]
    refine ⟨?_, hcn, ?_, ?_, h61⟩
    · rw [hs, hz]; exact enc_congr (fun j hj => hlo j (by omega))
    · rw [hs]
      unfold liA
      rw [if_neg (by rw [hj]; decide), if_neg (by rw [hle]; decide)]
      exact lin_congr (fun i hi => hlo _ (by omega))
    · rw [hs]
      unfold lnA
      rw [if_neg (by rw [hj]; decide), if_neg (by rw [hle]; decide)]
      exact hlo _ (by omega)
  | false =>
    have hz : zlC z v = chM z v := by simp [zlC, hl]
    have hs : stM z v = st6 (st5 (chM (st3 z v) v) v) v (z v) := by simp [stM, hl]
    obtain ⟨t1, t2, t3⟩ := trans hv hW hl
    have hc : ∀ j : Nat, j < 61 → chM (st3 z v) v j = chM z v j := fun j hj => chM_congr hv (fun j hj => hlo j (by omega)) hj
    have hh : ∀ j : Nat, 53 ≤ j → j < 62 → chM (st3 z v) v j = z j := fun j hj h2 => by rw [chM_hi (st3_wf hW.1) hv hj, hlo j h2]
    obtain ⟨m, hm, em, hu, hd, hq⟩ := id hL
    have e60 : chM z v 60 = z 60 := chM_hi hW.1 hv (by omega)
    have em' : ix (z 53) = m := by rw [em, ix_nI (by omega)]
    by_cases q0 : chM z v v = 0
    · obtain ⟨hj, hle⟩ := t2 q0
      have ev : chM (st3 z v) v v = 0 := by rw [hc v (by omega)]; exact q0
      have hs2 : st5 (chM (st3 z v) v) v = lvM (upd (chM (st3 z v) v) (74 + v) (chM (st3 z v) v (74 + v) + 1)) v := by simp only [st5, if_pos ev]
      generalize hc' : upd (chM (st3 z v) v) (74 + v) (chM (st3 z v) v (74 + v) + 1) = c' at hs2
      have c1 : ∀ j : Nat, j < 62 → c' j = chM (st3 z v) v j := fun j hj => by rw [← hc', pk_un (by omega)]
      have c2 : ∀ j : Nat, 53 ≤ j → j < 62 → c' j = z j := fun j hj h2 => by rw [c1 j h2, hh j hj h2]
      have c53 : c' 53 = nI m := by rw [c2 53 (by omega) (by omega)]; exact em
      have hs3 : stM z v = lvM c' v := by
        rw [hs, hs2]
        have lv : lvM c' v v = 0 := by
          rw [lvM_of hm c53]
          split
          · rw [c1 v (by omega)]; exact ev
          · rw [shl_at _ _ _ (Or.inl (by omega)), pk_un (by omega), c1 v (by omega)]; exact ev
        unfold st6
        rw [if_neg (fun a => a.2.2 (by rw [lv]; decide))]
      by_cases hqv : quB z v = true
      · obtain ⟨p, hp, ep⟩ := (hq v hv).mp hqv
        have epc : plc c' v m = nI p := plc_of hp (by rw [c2 _ (by omega) (by omega)]; exact ep) (fun j hj e => hd j p hj hp (by rw [← c2 (54 + j) (by omega) (by omega), e, ep]))
        have hs4 : stM z v = shl (upd c' 53 (c' 53 - 1)) p (m - 1 - p) := by
          rw [hs3, lvM_of hm c53, epc, if_neg (nI_m5 (by omega)), ix_nI (by omega)]
        have hval : ∀ j : Nat, j ≠ 53 → stM z v j = if 54 + p ≤ j ∧ j < 54 + p + (m - 1 - p) then c' (j + 1) else c' j := by
          intro j hj
          rw [hs4, shl_val]
          by_cases q : 54 + p ≤ j ∧ j < 54 + p + (m - 1 - p)
          · rw [if_pos q, if_pos q, pk_un (show j + 1 ≠ 53 by omega)]
          · rw [if_neg q, if_neg q, pk_un hj]
        have hle1 : leA z v = true := by rw [hle]; exact hqv
        have hR := (lvR_shl (f := linC z) (x := nI v) (p := p) (by rw [lin_at (by omega)]; exact ep) (m := m) (fun j hj hne e => hne (hd j p hj hp (by rw [← lin_at (z := z) (j := j) (by omega), e, ep])))).2 hp
        refine ⟨?_, hcn, ?_, ?_, h61⟩
        · rw [hz]
          refine enc_congr2 (fun j hj => ?_) ?_
          · rw [hval j (by omega), if_neg (by omega), c1 j (by omega)]; exact hc j (by omega)
          · rw [hval 60 (by omega), if_neg (by omega), c1 60 (by omega)]; exact hc 60 (by omega)
        · unfold liA
          rw [if_neg (by rw [hj]; decide), if_pos hle1, em']
          funext j
          rw [hR.2 j]
          by_cases q6 : j < 6
          · rw [lin_at q6, hval _ (by omega)]
            by_cases q : p ≤ j ∧ j < m - 1
            · rw [if_pos q, if_pos (by omega), lin_at (by omega), c2 _ (by omega) (by omega)]
              congr 1
            · rw [if_neg q, if_neg (by omega), lin_at q6, c2 _ (by omega) (by omega)]
          · rw [if_neg (by omega)]
            simp only [linC, if_neg q6]
        · unfold lnA
          rw [if_neg (by rw [hj]; decide), if_pos hle1, em', hR.1, hs4, shl_53, pk_us, c53]
          exact pk_sub (a := m) (b := 1) (by omega)
      · have hqf : quB z v = false := by cases h9 : quB z v; rfl; exact absurd h9 hqv
        have hle0 : leA z v = false := by rw [hle]; exact hqf
        have epc : plc c' v m = -5 := plc_none (fun j hj e => hqv ((hq v hv).mpr ⟨j, hj, by rw [← c2 (54 + j) (by omega) (by omega)]; exact e⟩))
        have hs4 : stM z v = c' := by rw [hs3, lvM_of hm c53, if_pos epc]
        refine ⟨?_, hcn, ?_, ?_, h61⟩
        · rw [hz, hs4]
          exact enc_congr2 (fun j hj => by rw [c1 j (by omega)]; exact hc j (by omega)) (by rw [c1 60 (by omega)]; exact hc 60 (by omega))
        · unfold liA
          rw [if_neg (by rw [hj]; decide), if_neg (by rw [hle0]; decide), hs4]
          exact lin_congr (fun i hi => c2 _ (by omega) (by omega))
        · unfold lnA
          rw [if_neg (by rw [hj]; decide), if_neg (by rw [hle0]; decide), hs4]
          exact c2 53 (by omega) (by omega)
    · have hle0 := t3 q0
      have ev : ¬ chM (st3 z v) v v = 0 := by rw [hc v (by omega)]; exact q0
      have hs2 : stM z v = st6 (chM (st3 z v) v) v (z v) := by rw [hs]; simp only [st5, if_neg ev]
      have k60 : chM (st3 z v) v 60 = z 60 := hh 60 (by omega) (by omega)
      have k53 : chM (st3 z v) v 53 = nI m := by rw [hh 53 (by omega) (by omega)]; exact em
      by_cases hjo : joA z v = true
      · have hcond := t1.mp hjo
        have hqf : quB z v = false := by
          cases h9 : quB z v
          · rfl
          · simp [joA, h9] at hjo
        have hm6 := join_room hv hL em hm hqf
        have hs3 : stM z v = upd (upd (chM (st3 z v) v) (54 + m) (nI v)) 53 (nI m + 1) := by
          rw [hs2]
          unfold st6
          rw [if_pos ⟨by rw [k60]; exact hcond.1, hcond.2.1, by rw [hc v (by omega)]; exact hcond.2.2⟩, k53, ix_nI (by omega)]
        refine ⟨?_, hcn, ?_, ?_, h61⟩
        · rw [hz, hs3]
          exact enc_congr2 (fun j hj => by rw [pk_un (by omega), pk_un (by omega)]; exact hc j (by omega)) (by rw [pk_un (by omega), pk_un (by omega)]; exact hc 60 (by omega))
        · unfold liA
          rw [if_pos hjo, em', hs3]
          funext j
          by_cases q6 : j < 6
          · rw [lin_at q6, pk_un (by omega)]
            by_cases q : j = m
            · subst q; rw [pk_us, pk_us]
            · rw [pk_un (by omega), pk_un q, lin_at q6]; exact hh _ (by omega) (by omega)
          · rw [pk_un (by omega)]
            simp only [linC, if_neg q6]
        · unfold lnA
          rw [if_pos hjo, hs3, pk_us, em]
      · have hjf : ¬ joA z v = true := hjo
        have hs3 : stM z v = chM (st3 z v) v := by
          rw [hs2]
          unfold st6
          rw [if_neg (fun a => hjf (t1.mpr ⟨by rw [← k60]; exact a.1, a.2.1, by rw [← hc v (by omega)]; exact a.2.2⟩))]
        refine ⟨?_, hcn, ?_, ?_, h61⟩
        · rw [hz, hs3]
          exact enc_congr2 (fun j hj => hc j (by omega)) (hc 60 (by omega))
        · unfold liA
          rw [if_neg hjf, if_neg (by rw [hle0]; decide), hs3]
          exact lin_congr (fun i hi => hh _ (by omega) (by omega))
        · unfold lnA
          rw [if_neg hjf, if_neg (by rw [hle0]; decide), hs3]
          exact hh 53 (by omega) (by omega)
def GoC (z : Zf) (v N : Nat) : Prop := GoOk z v N ∧ ∀ j : Nat, j ≤ N → Wc (itS z v j) ∧ Li (itS z v j)
def FiC (z : Zf) (N : Nat) : Prop := FiOk z N ∧ ∀ j i : Nat, j ≤ N → i ≤ 6 → Wc (rdZ (frZ z j) i) ∧ Li (rdZ (frZ z j) i)
theorem same_enc {z w : Zf} : (∀ i : Nat, i < 54 → encC z i = encC w i) ↔ encC z = encC w := by
  constructor
  · intro h
    funext j
    rcases Nat.lt_or_ge j 54 with q | q
    · exact h j q
    · rw [enc_hi q, enc_hi q]
  · intro h i _
    rw [h]
/-- the other way to draw: from the least on -/
def bitN (k v : Nat) : Bool := decide (nI k &&& (1 <<< (nI v &&& 31)) = 0)
theorem lot_bits : ((List.range 64).all fun k => (List.range 6).all fun v => decide (bitN k v = decide (bitM (nI k) v = 0))) = true := by decide +kernel
theorem lot_01 : ((List.range 64).all fun k => (List.range 6).all fun v => decide (bitM (nI k) v = 0) || decide (bitM (nI k) v = 1)) = true := by decide +kernel
theorem lot_one : ((List.range 64).all fun k => (List.range 6).all fun r => (List.range 6).all fun v => !(decide (bitM (nI k) v = 1) && decide (bitsM (nI k) v = nI r)) || decide (pickM (nI k) (nI r) 6 = nI v)) = true := by decide +kernel
def bcE (x : Int32) : Int32 :=
  let a := x - ((x.toUInt32 >>> ((1 : Int32).toUInt32 &&& Int32.toUInt32 31)).toInt32 &&& 1431655765)
  let b := (a &&& 858993459) + ((a.toUInt32 >>> ((2 : Int32).toUInt32 &&& Int32.toUInt32 31)).toInt32 &&& 858993459)
  let c := (b + (b.toUInt32 >>> ((4 : Int32).toUInt32 &&& Int32.toUInt32 31)).toInt32) &&& 252645135
  let d := c + (c.toUInt32 >>> ((8 : Int32).toUInt32 &&& Int32.toUInt32 31)).toInt32
  (d + (d.toUInt32 >>> ((16 : Int32).toUInt32 &&& Int32.toUInt32 31)).toInt32) &&& 63
theorem bc_all : ((List.range 64).all fun k => decide (bcE (nI k) = bitsM (nI k) 6)) = true := by decide +kernel
theorem bc_eq {k : Nat} (hk : k < 64) : bcE (nI k) = bitsM (nI k) 6 := by
  have h := List.all_eq_true.mp bc_all k (List.mem_range.mpr hk)
  simpa using h
noncomputable def sameE (z w : Zf) : Bool := @decide (encC z = encC w) (Classical.propDecidable _)
theorem sameE_t {z w : Zf} (h : encC z = encC w) : sameE z w = true := @decide_eq_true _ (Classical.propDecidable _) h
theorem sameE_f {z w : Zf} (h : ¬ encC z = encC w) : sameE z w = false := @decide_eq_false _ (Classical.propDecidable _) h
