/-- what the class's side needs to know of z beside Wf: stages by kind; flags; next ones -/
def Wg (z : Zf) : Prop := ∀ v : Nat, v < 6 → ∃ s : Nat, s < 8 ∧ z v = nI s ∧ (z 60 = 0 ∨ (z 60 = 1 ∧ (s = 0 ∨ s = 1 ∨ s = 3 ∨ s = 4)) ∨ ((z 60 = 2 ∨ z 60 = 3) ∧ (s = 0 ∨ s = 3 ∨ s = 4)))
def Wb (z : Zf) : Prop := (∀ v : Nat, v < 6 → z (12 + v) = 0 ∨ z (12 + v) = 1) ∧ (∀ c : Nat, c < 7 → z (42 + c) = 0 ∨ z (42 + c) = 1) ∧ (z 52 = 0 ∨ z 52 = 1) ∧ (∀ v : Nat, v < 6 → z (6 + v) = -1 ∨ ∃ a : Nat, a < 6 ∧ z (6 + v) = nI a) ∧ (z 60 = 0 → z 49 = -1 ∨ ∃ a : Nat, a < 6 ∧ z 49 = nI a)
def Wc (z : Zf) : Prop := Wf z ∧ Wg z ∧ Wb z
def ksB (k s : Nat) : Bool := k == 0 || (k == 1 && (s == 0 || s == 1 || s == 3 || s == 4)) || ((k == 2 || k == 3) && (s == 0 || s == 3 || s == 4))
theorem far_all : ((List.range 4).all fun k => (List.range 8).all fun s => !ksB k s || decide (farT (k * 8 + s) = costM (nI k) (nI s))) = true := by decide +kernel
theorem far_cost (k : Nat) (hk : k < 4) (s : Nat) (hs : s < 8) (h : k = 0 ∨ (k = 1 ∧ (s = 0 ∨ s = 1 ∨ s = 3 ∨ s = 4)) ∨ ((k = 2 ∨ k = 3) ∧ (s = 0 ∨ s = 3 ∨ s = 4))) : farT (k * 8 + s) = costM (nI k) (nI s) := by
  have h1 := List.all_eq_true.mp (List.all_eq_true.mp far_all k (List.mem_range.mpr hk)) s (List.mem_range.mpr hs)
  have h2 : ksB k s = true := by
    rcases h with rfl | ⟨rfl, q⟩ | ⟨q1, q⟩
    · rfl
    · rcases q with rfl | rfl | rfl | rfl <;> rfl
    · rcases q1 with rfl | rfl <;> rcases q with rfl | rfl | rfl <;> rfl
  rw [h2] at h1
  simpa using h1
theorem lt_le {x : Int32} {n : Nat} (hn : n + 1 < 2 ^ 31) : x < nI (n + 1) ↔ x ≤ nI n := by
  rw [Int32.lt_iff_toInt_lt, Int32.le_iff_toInt_le, nI_toInt hn, nI_toInt (by omega)]
  omega
theorem isV_C (x : Int32) : isV x = (decide (0 ≤ x) && decide (x < 6)) := by
  simp only [isV, inB]
  congr 1
  exact decide_eq_decide.mpr (lt_le (n := 5) (by omega)).symm
theorem isC_C (x : Int32) : inB x 0 6 = (decide (0 ≤ x) && decide (x < 7)) := by
  simp only [inB]
  congr 1
  exact decide_eq_decide.mpr (lt_le (n := 6) (by omega)).symm
def flagC (z : Zf) (x : Int32) : Int32 := if inB x 0 6 = true then z (42 + ix x) else -5
theorem isC_nI {c : Nat} (h : c < 7) : inB (nI c) 0 6 = true := by
  simp only [inB, Bool.and_eq_true, decide_eq_true_eq]
  exact ⟨nI_pos' (by omega), nI_le (b := 6) (by omega) (by decide)⟩
theorem isC_nat {x : Int32} (h : inB x 0 6 = true) : ∃ c : Nat, c < 7 ∧ x = nI c := by
  simp only [inB, Bool.and_eq_true, decide_eq_true_eq] at h
  obtain ⟨j, hj, e⟩ := nI_of2 (M := 6) (n := 6) (by decide) (fun q => absurd h.1 (Int32.not_le.mpr q)) h.2
  exact ⟨j, by omega, e⟩
def quB (z : Zf) (v : Nat) : Bool := if z 60 = 0 then !decide (z v < 2) else if z 60 = 1 then !decide (z v < 3) else if z 60 = 2 then !decide (z v = 0) else false
def mayB (z : Zf) (v : Nat) : Bool := if z 60 = 0 then decide (z (12 + v) = 0) else if z 60 = 1 then decide (flagC z (tN (z (30 + v))) = 0) else if z 60 = 2 then decide ((if z 60 = 2 ∧ ¬ z v = 0 then z (36 + v) else -5) = z 51) else decide (z 52 = 0)
theorem insM_first {z : Zf} {v : Nat} (hv : v < 6) (h : z v = 4) (hj : ∀ j : Nat, j < v → ¬ z j = 4) : insM z 6 = nI v := by
  rcases (show v = 0 ∨ v = 1 ∨ v = 2 ∨ v = 3 ∨ v = 4 ∨ v = 5 by omega) with rfl | rfl | rfl | rfl | rfl | rfl
  · simp [insM, h]
  · simp [insM, h, hj 0 (by omega)]
  · simp [insM, h, hj 0 (by omega), hj 1 (by omega)]
  · simp [insM, h, hj 0 (by omega), hj 1 (by omega), hj 2 (by omega)]
  · simp [insM, h, hj 0 (by omega), hj 1 (by omega), hj 2 (by omega), hj 3 (by omega)]
  · simp [insM, h, hj 0 (by omega), hj 1 (by omega), hj 2 (by omega), hj 3 (by omega), hj 4 (by omega)]
theorem insM_none {z : Zf} (hj : ∀ j : Nat, j < 6 → ¬ z j = 4) : insM z 6 = -5 := by
  simp [insM, hj 0 (by omega), hj 1 (by omega), hj 2 (by omega), hj 3 (by omega), hj 4 (by omega), hj 5 (by omega)]
theorem wait_eq {z : Zf} {v : Nat} (hv : v < 6) (h : Wc z) : (if z v = 6 then decide (tN (z (6 + v)) = -5) else decide (z v = 3) && !mayB z v) = isLook z v := by
  obtain ⟨hf, hg, hb⟩ := h
  obtain ⟨s, hs, es, hk⟩ := hg v hv
  obtain ⟨b1, b2, b3, b4, b5⟩ := hb
  by_cases h6 : z v = 6
  · have k0 : z 60 = 0 := by
      rcases hk with k | ⟨-, k⟩ | ⟨-, k⟩
      · exact k
      · exfalso; rw [es] at h6; rcases k with rfl | rfl | rfl | rfl <;> exact absurd h6 (by decide)
      · exfalso; rw [es] at h6; rcases k with rfl | rfl | rfl <;> exact absurd h6 (by decide)
    rw [if_pos h6]
    simp only [isLook]
    rw [if_pos k0]
    have e : (tN (z (6 + v)) = -5) ↔ z (6 + v) = -1 := by
      rcases b4 v hv with q | ⟨a, ha, q⟩
      · rw [q]; decide
      · rw [q, tN_nI (by omega)]
        exact ⟨fun x => absurd x (nI_m5 (by omega)), fun x => absurd x (nI_m1 (by omega))⟩
    rw [show decide (tN (z (6 + v)) = -5) = decide (z (6 + v) = -1) from decide_eq_decide.mpr e]
    simp [h6]
  · rw [if_neg h6]
    by_cases h3 : z v = 3
    · simp only [isLook, mayB]
      rw [h3]
      by_cases k0 : z 60 = 0
      · rw [if_pos k0, if_pos k0]
        rcases b1 v hv with q | q <;> simp [q]
      · rw [if_neg k0, if_neg k0]
        by_cases k1 : z 60 = 1
        · obtain ⟨w, hw, ew⟩ := hf.w k1 hv h3
          have hfl : flagC z (nI w) = z (42 + w) := by unfold flagC; rw [if_pos (isC_nI hw), ix_nI (by omega)]
          rcases b2 w hw with q | q <;> simp [k1, ew, tN_nI (show w < 2 ^ 31 by omega), hfl, ix_nI (show w < 2 ^ 31 by omega), q]
        · rw [if_neg k1, if_neg k1]
          by_cases k2 : z 60 = 2
          · simp [k2, h3]
          · simp only [k2, if_false]
            rcases b3 with q | q <;> simp [q]
    · simp only [isLook]
      by_cases k0 : z 60 = 0
      · simp [k0, h3, h6]
      · simp [k0, h3]
