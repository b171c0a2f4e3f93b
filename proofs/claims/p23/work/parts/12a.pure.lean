/-! what a step does to the counts -/
theorem st6_far {w : Zf} {v : Nat} {s : Int32} (h : ∃ m : Nat, m ≤ 6 ∧ w 53 = nI m) {j : Nat} (hj : 62 ≤ j) : st6 w v s j = w j := by
  obtain ⟨m, hm, e⟩ := h
  unfold st6
  split
  · rw [e, ix_nI (by omega), pk_un (by omega), pk_un (by omega)]
  · rfl
theorem lvM_far {w : Zf} {v m : Nat} (hm : m ≤ 6) (e : w 53 = nI m) {j : Nat} (hj : 62 ≤ j) : lvM w v j = w j := by
  rw [lvM_of hm e]
  rcases plc_cases w v m with q | ⟨p, hp, q⟩
  · rw [if_pos q]
  · rw [if_neg (by rw [q]; exact nI_m5 (by omega)), q, ix_nI (by omega), shl_at _ _ _ (Or.inr (by omega)), pk_un (by omega)]
theorem st5_far {w : Zf} {v m : Nat} (hm : m ≤ 6) (e : w 53 = nI m) {j : Nat} (hj : 62 ≤ j) : st5 w v j = w j + (if j = 74 + v then (if w v = 0 then 1 else 0) else 0) := by
  unfold st5
  by_cases h : w v = 0
  · rw [if_pos h, if_pos h, lvM_far hm (by rw [pk_un (by omega)]; exact e) hj]
    by_cases h2 : j = 74 + v
    · subst h2
      rw [pk_us, if_pos rfl]
    · rw [pk_un (by omega), if_neg h2, Int32.add_zero]
  · rw [if_neg h, if_neg h]
    simp
/-- what a step of v adds at the place j of the counts -/
def dS (z : Zf) (v j : Nat) : Int32 := if j = 62 + v then 1 else if j = 68 + v then bI (isLook z v) else if j = 74 + v then (if stM z v v = 0 then 1 else 0) else if j = 80 + v then costM (z 60) (z v) else 0
theorem look_ne0 {z : Zf} {v : Nat} (hl : isLook z v = true) : ¬ z v = 0 := by
  intro q
  unfold isLook at hl
  rw [q] at hl
  simp at hl
theorem st3_far {z : Zf} {v : Nat} (hv : v < 6) {j : Nat} (hj : 62 ≤ j) : st3 z v j = z j + (if j = 62 + v then 1 else if j = 68 + v then bI (isLook z v) else if j = 80 + v then costM (z 60) (z v) else 0) := by
  unfold st3
  by_cases h1 : j = 80 + v
  · subst h1
    rw [pk_us, if_neg (by omega), if_neg (by omega), if_pos rfl]
  · rw [pk_un (by omega)]
    by_cases h2 : j = 68 + v
    · subst h2
      rw [pk_us, if_neg (by omega), if_pos rfl]
    · rw [pk_un (by omega)]
      by_cases h3 : j = 62 + v
      · subst h3
        rw [pk_us, if_pos rfl]
      · rw [pk_un (by omega), if_neg h3, if_neg h2, if_neg h1, Int32.add_zero]
theorem stM_hi {z : Zf} {v : Nat} (hv : v < 6) (h : Inv z) {j : Nat} (hj : 62 ≤ j) : stM z v j = z j + dS z v j := by
  have hW := h.wf
  unfold dS
  by_cases hl : isLook z v = true
  · have e : stM z v = st3 z v := by simp [stM, hl]
    have hs : ¬ stM z v v = 0 := by
      rw [look_lo hl (by omega)]
      exact look_ne0 hl
    rw [e] at hs ⊢
    rw [st3_far hv hj, if_neg hs]
    by_cases h2 : j = 74 + v
    · rw [if_neg (by omega), if_neg (by omega), if_neg (by omega), if_neg (by omega), if_neg (by omega), if_pos h2]
    · rw [if_neg h2]
  · have hl : isLook z v = false := by simpa using hl
    have hsv : stM z v v = chM z v v := h.stv hv hv hl
    have e : stM z v = st6 (st5 (chM (st3 z v) v) v) v (z v) := by simp [stM, hl]
    have hc : chM (st3 z v) v v = chM z v v := chM_congr hv (fun j hj => st3_lo (by omega)) (by omega)
    obtain ⟨m, hm, em⟩ := hW.m
    have e53 : chM (st3 z v) v 53 = nI m := by rw [chM_hi (st3_wf hW) hv (by omega), st3_lo (by omega)]; exact em
    rw [hsv, e, st6_far (st5_53 hv hm e53) hj, st5_far hm e53 hj, chM_hi (st3_wf hW) hv (by omega), hc, st3_far hv hj]
    by_cases h2 : j = 74 + v
    · subst h2
      simp [show ¬ (74 + v = 62 + v) by omega, show ¬ (74 + v = 68 + v) by omega, show ¬ (74 + v = 80 + v) by omega]
    · rw [if_neg h2, if_neg h2, Int32.add_zero]
theorem sum_up {z w : Zf} {c v : Nat} {d : Int32} (hv : v < 6) (h : ∀ u : Nat, u < 6 → w (c + u) = z (c + u) + (if u = v then d else 0)) : sumZ w c 6 = sumZ z c 6 + d := by
  have h0 := h 0 (by omega)
  have h1 := h 1 (by omega)
  have h2 := h 2 (by omega)
  have h3 := h 3 (by omega)
  have h4 := h 4 (by omega)
  have h5 := h 5 (by omega)
  simp only [sumZ]
  rw [h0, h1, h2, h3, h4, h5]
  rcases (show v = 0 ∨ v = 1 ∨ v = 2 ∨ v = 3 ∨ v = 4 ∨ v = 5 by omega) with rfl | rfl | rfl | rfl | rfl | rfl <;> simp <;> grind
theorem dS_62 {z : Zf} {v u : Nat} (hv : v < 6) (hu : u < 6) : dS z v (62 + u) = if u = v then 1 else 0 := by
  unfold dS
  by_cases e : u = v
  · rw [if_pos (by omega), if_pos e]
  · rw [if_neg (by omega), if_neg (by omega), if_neg (by omega), if_neg (by omega), if_neg e]
theorem dS_68 {z : Zf} {v u : Nat} (hv : v < 6) (hu : u < 6) : dS z v (68 + u) = if u = v then bI (isLook z v) else 0 := by
  unfold dS
  by_cases e : u = v
  · rw [if_neg (by omega), if_pos (by omega), if_pos e]
  · rw [if_neg (by omega), if_neg (by omega), if_neg (by omega), if_neg (by omega), if_neg e]
theorem dS_74 {z : Zf} {v u : Nat} (hv : v < 6) (hu : u < 6) : dS z v (74 + u) = if u = v then (if stM z v v = 0 then 1 else 0) else 0 := by
  unfold dS
  by_cases e : u = v
  · rw [if_neg (by omega), if_neg (by omega), if_pos (by omega), if_pos e]
  · rw [if_neg (by omega), if_neg (by omega), if_neg (by omega), if_neg (by omega), if_neg e]
theorem dS_80 {z : Zf} {v u : Nat} (hv : v < 6) (hu : u < 6) : dS z v (80 + u) = if u = v then costM (z 60) (z v) else 0 := by
  unfold dS
  by_cases e : u = v
  · rw [if_neg (by omega), if_neg (by omega), if_neg (by omega), if_pos (by omega), if_pos e]
  · rw [if_neg (by omega), if_neg (by omega), if_neg (by omega), if_neg (by omega), if_neg e]
theorem sum_62 {z : Zf} {v : Nat} (hv : v < 6) (h : Inv z) : sumZ (stM z v) 62 6 = sumZ z 62 6 + 1 := sum_up hv (fun u hu => by rw [stM_hi hv h (by omega), dS_62 hv hu])
theorem sum_68 {z : Zf} {v : Nat} (hv : v < 6) (h : Inv z) : sumZ (stM z v) 68 6 = sumZ z 68 6 + bI (isLook z v) := sum_up hv (fun u hu => by rw [stM_hi hv h (by omega), dS_68 hv hu])
theorem sum_74 {z : Zf} {v : Nat} (hv : v < 6) (h : Inv z) : sumZ (stM z v) 74 6 = sumZ z 74 6 + (if stM z v v = 0 then 1 else 0) := sum_up hv (fun u hu => by rw [stM_hi hv h (by omega), dS_74 hv hu])
theorem sum_80 {z : Zf} {v : Nat} (hv : v < 6) (h : Inv z) : sumZ (stM z v) 80 6 = sumZ z 80 6 + costM (z 60) (z v) := sum_up hv (fun u hu => by rw [stM_hi hv h (by omega), dS_80 hv hu])
/-- steps and looks of each, as numbers up to B -/
def Ct (z : Zf) (B : Nat) : Prop := ∀ v : Nat, v < 6 → ∃ s l : Nat, l ≤ s ∧ s ≤ B ∧ z (62 + v) = nI s ∧ z (68 + v) = nI l
theorem Ct.le {z : Zf} {B C : Nat} (h : Ct z B) (hB : B ≤ C) : Ct z C := fun v hv => by
  obtain ⟨s, l, h1, h2, h3⟩ := h v hv
  exact ⟨s, l, h1, by omega, h3⟩
theorem Ct.to {z w : Zf} {B : Nat} (h : Ct z B) (e : ∀ j : Nat, 62 ≤ j → w j = z j) : Ct w B := fun v hv => by
  rw [e (62 + v) (by omega), e (68 + v) (by omega)]
  exact h v hv
theorem Ct.st {z : Zf} {v B : Nat} (hv : v < 6) (h : Inv z) (hc : Ct z B) : Ct (stM z v) (B + 1) := fun u hu => by
  obtain ⟨s, l, h1, h2, h3, h4⟩ := hc u hu
  rw [stM_hi hv h (by omega), stM_hi hv h (by omega), dS_62 hv hu, dS_68 hv hu, h3, h4]
  by_cases e : u = v
  · rw [if_pos e, if_pos e]
    cases isLook z v
    · exact ⟨s + 1, l, by omega, by omega, nI_add s 1, Int32.add_zero _⟩
    · exact ⟨s + 1, l + 1, by omega, by omega, nI_add s 1, nI_add l 1⟩
  · rw [if_neg e, if_neg e]
    exact ⟨s, l, by omega, by omega, Int32.add_zero _, Int32.add_zero _⟩
theorem cost_01 (k s : Int32) : costM k s = 0 ∨ costM k s = 1 := by
  unfold costM
  repeat' split
  all_goals first | exact Or.inl rfl | exact Or.inr rfl
theorem st_look {z : Zf} {v : Nat} (hv : v < 6) (h : Inv z) : stM z v v = z v ↔ isLook z v = true := by
  constructor
  · intro e
    by_cases hl : isLook z v = true
    · exact hl
    · have hl : isLook z v = false := by simpa using hl
      have hsv : stM z v v = chM z v v := h.stv hv hv hl
      by_cases h0 : z v = 0
      · exfalso
        rw [hsv, h0] at e
        revert e
        unfold chM chN chW chT chG
        simp only [h0, if_true]
        repeat' split
        all_goals simp (disch := omega) only [pk_un, pk_us]
        all_goals decide
      · have t := rk_step hv h.wc h0
        rw [← hsv, e] at t
        omega
  · intro hl
    exact look_lo hl (by omega)
theorem st_oth {z : Zf} {v u : Nat} (hv : v < 6) (hu : u < 6) (hne : u ≠ v) (h : Inv z) : stM z v u = z u := by
  by_cases hl : isLook z v = true
  · exact look_lo hl (by omega)
  · have hl : isLook z v = false := by simpa using hl
    rw [h.stv hv hu hl, chM_oth hv h.wf hu hne]
theorem st_lt8 {z : Zf} {v : Nat} (hv : v < 6) (h : Inv z) : ∃ s : Nat, s < 8 ∧ z v = nI s := by
  obtain ⟨s, hs, e, -⟩ := h.wc.2.1 v hv
  exact ⟨s, hs, e⟩
