/-- what the class's side needs to know of z beside Wf: stages by kind; flags; next ones -/
def Wg (z : Zf) : Prop := ∀ v : Nat, v < 6 → ∃ s : Nat, s < 8 ∧ z v = nI s ∧ (z 60 = 0 ∨ (z 60 = 1 ∧ (s = 0 ∨ s = 1 ∨ s = 3 ∨ s = 4)) ∨ ((z 60 = 2 ∨ z 60 = 3) ∧ (s = 0 ∨ s = 3 ∨ s = 4)))
def Wb (z : Zf) : Prop := (∀ v : Nat, v < 6 → z (12 + v) = 0 ∨ z (12 + v) = 1) ∧ (∀ c : Nat, c < 7 → z (42 + c) = 0 ∨ z (42 + c) = 1) ∧ (z 52 = 0 ∨ z 52 = 1) ∧ (∀ v : Nat, v < 6 → z (6 + v) = -1 ∨ ∃ a : Nat, a < 6 ∧ z (6 + v) = nI a) ∧ (z 60 = 0 → z 49 = -1 ∨ ∃ a : Nat, a < 6 ∧ z 49 = nI a) ∧ (z 60 = 1 → ∃ c : Nat, c < 7 ∧ z 49 = nI c) ∧ (z 60 = 1 → ∀ v : Nat, v < 6 → z v = 3 ∨ z v = 4 → ∃ w : Nat, w < 7 ∧ z (30 + v) = nI w)
def Wc (z : Zf) : Prop := Wf z ∧ Wg z ∧ Wb z
def ksB (k s : Nat) : Bool := k == 0 || (k == 1 && (s == 0 || s == 1 || s == 3 || s == 4)) || ((k == 2 || k == 3) && (s == 0 || s == 3 || s == 4))
theorem far_all : ((List.range 4).all fun k => (List.range 8).all fun s => !ksB k s || decide (farT (k * 8 + s) = costM (nI k) (nI s))) = true := by decide +kernel
theorem far_cost (k : Nat) (hk : k < 4) (s : Nat) (hs : s < 8) (h : k = 0 ∨ (k = 1 ∧ (s = 0 ∨ s = 1 ∨ s = 3 ∨ s = 4)) ∨ ((k = 2 ∨ k = 3) ∧ (s = 0 ∨ s = 3 ∨ s = 4))) : farT (k * 8 + s) = costM (nI k) (nI s) := by
  have h1 := List.all_eq_true.mp (List.all_eq_true.mp far_all k (List.mem_range.mpr hk)) s (List.mem_range.mpr hs)
  have h2 : ksB k s = true := by
    rcases h with rfl | ⟨rfl, q⟩ | ⟨q1, q⟩
    · rfl
    · rcases q with rfl | rfl | rfl | rfl <;> rfl
    · rcases q1 with rfl | rfl <;> rcases q with rfl | rfl | rfl <;> rfl
  rw [h2] at h1
  simpa using h1
theorem lt_le {x : Int32} {n : Nat} (hn : n + 1 < 2 ^ 31) : x < nI (n + 1) ↔ x ≤ nI n := by
  rw [Int32.lt_iff_toInt_lt, Int32.le_iff_toInt_le, nI_toInt hn, nI_toInt (by omega)]
  omega
theorem isV_C (x : Int32) : isV x = (decide (0 ≤ x) && decide (x < 6)) := by
  simp only [isV, inB]
  congr 1
  exact decide_eq_decide.mpr (lt_le (n := 5) (by omega)).symm
theorem isC_C (x : Int32) : inB x 0 6 = (decide (0 ≤ x) && decide (x < 7)) := by
  simp only [inB]
  congr 1
  exact decide_eq_decide.mpr (lt_le (n := 6) (by omega)).symm
def flagC (z : Zf) (x : Int32) : Int32 := if inB x 0 6 = true then z (42 + ix x) else -5
theorem isC_nI {c : Nat} (h : c < 7) : inB (nI c) 0 6 = true := by
  simp only [inB, Bool.and_eq_true, decide_eq_true_eq]
  exact ⟨nI_pos' (by omega), nI_le (b := 6) (by omega) (by decide)⟩
theorem isC_nat {x : Int32} (h : inB x 0 6 = true) : ∃ c : Nat, c < 7 ∧ x = nI c := by
  simp only [inB, Bool.and_eq_true, decide_eq_true_eq] at h
  obtain ⟨j, hj, e⟩ := nI_of2 (M := 6) (n := 6) (by decide) (fun q => absurd h.1 (Int32.not_le.mpr q)) h.2
  exact ⟨j, by omega, e⟩
def quB (z : Zf) (v : Nat) : Bool := if z 60 = 0 then !decide (z v < 2) else if z 60 = 1 then !decide (z v < 3) else if z 60 = 2 then !decide (z v = 0) else false
def mayB (z : Zf) (v : Nat) : Bool := if z 60 = 0 then decide (z (12 + v) = 0) else if z 60 = 1 then decide (flagC z (tN (z (30 + v))) = 0) else if z 60 = 2 then decide ((if z 60 = 2 ∧ ¬ z v = 0 then z (36 + v) else -5) = z 51) else decide (z 52 = 0)
theorem insM_first {z : Zf} {v : Nat} (hv : v < 6) (h : z v = 4) (hj : ∀ j : Nat, j < v → ¬ z j = 4) : insM z 6 = nI v := by
  rcases (show v = 0 ∨ v = 1 ∨ v = 2 ∨ v = 3 ∨ v = 4 ∨ v = 5 by omega) with rfl | rfl | rfl | rfl | rfl | rfl
  · simp [insM, h]
  · simp [insM, h, hj 0 (by omega)]
  · simp [insM, h, hj 0 (by omega), hj 1 (by omega)]
  · simp [insM, h, hj 0 (by omega), hj 1 (by omega), hj 2 (by omega)]
  · simp [insM, h, hj 0 (by omega), hj 1 (by omega), hj 2 (by omega), hj 3 (by omega)]
  · simp [insM, h, hj 0 (by omega), hj 1 (by omega), hj 2 (by omega), hj 3 (by omega), hj 4 (by omega)]
theorem insM_none {z : Zf} (hj : ∀ j : Nat, j < 6 → ¬ z j = 4) : insM z 6 = -5 := by
  simp [insM, hj 0 (by omega), hj 1 (by omega), hj 2 (by omega), hj 3 (by omega), hj 4 (by omega), hj 5 (by omega)]
theorem wait_eq {z : Zf} {v : Nat} (hv : v < 6) (h : Wc z) : (if z v = 6 then decide (tN (z (6 + v)) = -5) else decide (z v = 3) && !mayB z v) = isLook z v := by
  obtain ⟨hf, hg, hb⟩ := h
  obtain ⟨s, hs, es, hk⟩ := hg v hv
  obtain ⟨b1, b2, b3, b4, b5, -, -⟩ := hb
  by_cases h6 : z v = 6
  · have k0 : z 60 = 0 := by
      rcases hk with k | ⟨-, k⟩ | ⟨-, k⟩
      · exact k
      · exfalso; rw [es] at h6; rcases k with rfl | rfl | rfl | rfl <;> exact absurd h6 (by decide)
      · exfalso; rw [es] at h6; rcases k with rfl | rfl | rfl <;> exact absurd h6 (by decide)
    rw [if_pos h6]
    simp only [isLook]
    rw [if_pos k0]
    have e : (tN (z (6 + v)) = -5) ↔ z (6 + v) = -1 := by
      rcases b4 v hv with q | ⟨a, ha, q⟩
      · rw [q]; decide
      · rw [q, tN_nI (by omega)]
        exact ⟨fun x => absurd x (nI_m5 (by omega)), fun x => absurd x (nI_m1 (by omega))⟩
    rw [show decide (tN (z (6 + v)) = -5) = decide (z (6 + v) = -1) from decide_eq_decide.mpr e]
    simp [h6]
  · rw [if_neg h6]
    by_cases h3 : z v = 3
    · simp only [isLook, mayB]
      rw [h3]
      by_cases k0 : z 60 = 0
      · rw [if_pos k0, if_pos k0]
        rcases b1 v hv with q | q <;> simp [q]
      · rw [if_neg k0, if_neg k0]
        by_cases k1 : z 60 = 1
        · obtain ⟨w, hw, ew⟩ := hf.w k1 hv h3
          have hfl : flagC z (nI w) = z (42 + w) := by unfold flagC; rw [if_pos (isC_nI hw), ix_nI (by omega)]
          rcases b2 w hw with q | q <;> simp [k1, ew, tN_nI (show w < 2 ^ 31 by omega), hfl, ix_nI (show w < 2 ^ 31 by omega), q]
        · rw [if_neg k1, if_neg k1]
          by_cases k2 : z 60 = 2
          · simp [k2, h3]
          · simp only [k2, if_false]
            rcases b3 with q | q <;> simp [q]
    · simp only [isLook]
      by_cases k0 : z 60 = 0
      · simp [k0, h3, h6]
      · simp [k0, h3]
theorem u60o (f : Zf) (x : Int32) {v o : Nat} (hv : v < 7) (ho : o ≤ 42) : upd f (o + v) x 60 = f 60 := pk_un (by omega)
theorem u60z (f : Zf) (x : Int32) {v : Nat} (hv : v < 7) : upd f v x 60 = f 60 := pk_un (by omega)
theorem u60_49 (f : Zf) (x : Int32) : upd f 49 x 60 = f 60 := pk_un (by omega)
theorem u60_50 (f : Zf) (x : Int32) : upd f 50 x 60 = f 60 := pk_un (by omega)
theorem u60_51 (f : Zf) (x : Int32) : upd f 51 x 60 = f 60 := pk_un (by omega)
theorem u60_52 (f : Zf) (x : Int32) : upd f 52 x 60 = f 60 := pk_un (by omega)
theorem tN_iff {x : Int32} (h : x = -1 ∨ ∃ a : Nat, a < 6 ∧ x = nI a) : tN x = -5 ↔ x = -1 := by
  rcases h with q | ⟨a, ha, q⟩
  · rw [q]; decide
  · rw [q, tN_nI (by omega)]
    exact ⟨fun x => absurd x (nI_m5 (by omega)), fun x => absurd x (nI_m1 (by omega))⟩
theorem tN_eq {x : Int32} (h : x = -1 ∨ ∃ a : Nat, a < 6 ∧ x = nI a) {v : Nat} (hv : v < 6) : tN x = nI v ↔ x = nI v := by
  rcases h with q | ⟨a, ha, q⟩
  · rw [q, tN_m1]
    exact ⟨fun x => absurd x.symm (nI_m5 (by omega)), fun x => absurd x.symm (nI_m1 (by omega))⟩
  · rw [q, tN_nI (by omega)]
theorem Wc.nx {z : Zf} (h : Wc z) {v : Nat} (hv : v < 6) : z (6 + v) = -1 ∨ ∃ a : Nat, a < 6 ∧ z (6 + v) = nI a := h.2.2.2.2.2.1 v hv
theorem Wc.ta {z : Zf} (h : Wc z) (k : z 60 = 0) : z 49 = -1 ∨ ∃ a : Nat, a < 6 ∧ z 49 = nI a := h.2.2.2.2.2.2.1 k
theorem Wc.tw {z : Zf} (h : Wc z) (k : z 60 = 1) : ∃ c : Nat, c < 7 ∧ z 49 = nI c := h.2.2.2.2.2.2.2.1 k
theorem Wc.w4 {z : Zf} (h : Wc z) (k : z 60 = 1) {v : Nat} (hv : v < 6) (h0 : ¬ z v = 0) (h1 : ¬ z v = 1) : ∃ w : Nat, w < 7 ∧ z (30 + v) = nI w := by
  refine h.2.2.2.2.2.2.2.2 k v hv ?_
  obtain ⟨s, hs, es, hk⟩ := h.2.1 v hv
  rw [es] at h0 h1 ⊢
  rcases hk with q | ⟨-, q⟩ | ⟨q, -⟩
  · rw [k] at q; exact absurd q (by decide)
  · rcases q with rfl | rfl | rfl | rfl
    · exact absurd rfl h0
    · exact absurd rfl h1
    · exact Or.inl rfl
    · exact Or.inr rfl
  · rw [k] at q; rcases q with q | q <;> exact absurd q (by decide)
def tailC (c : Zf) (v : Nat) : Zf := if c 49 = nI v then upd (upd c 49 (-5)) v 0 else upd c v 6
/-- the cells behind reset, in the order of its loops -/
def rs1 (c : Zf) (k : Int32) : Nat → Zf
  | 0 => c
  | v + 1 => upd (upd (upd (upd (upd (upd (upd (rs1 c k v) v 0) (6 + v) (-5)) (12 + v) 0) (18 + v) (-5)) (24 + v) (if k = 1 then nI v else -5)) (30 + v) (-5)) (36 + v) (-5)
def rs2 (c : Zf) : Nat → Zf
  | 0 => c
  | v + 1 => upd (rs2 c v) (42 + v) 0
def rsC (c : Zf) (k : Int32) : Zf := upd (upd (upd (upd (upd (rs2 (rs1 c k 6) 7) 49 (if k = 1 then 6 else -5)) 50 0) 51 0) 52 0) 53 k
theorem rsC_eq (c z : Zf) (k : Int32) (hc : ∀ j : Nat, 54 ≤ j → c j = 0) : rsC c k = encC (clrM z k) := by
  funext j
  by_cases h : j < 54
  · have hj : ∀ P : Nat → Prop, (∀ i ∈ List.range 54, P i) → P j := fun P hP => hP j (List.mem_range.mpr h)
    revert h
    refine hj (fun j => j < 54 → rsC c k j = encC (clrM z k) j) ?_
    simp only [List.range, List.range.loop, List.forall_mem_cons]
    by_cases k1 : k = 1
    · subst k1; simp [rsC, rs2, rs1, clrM, clM, zrM, encC, upd, tN]
    · by_cases k0 : k = 0
      · subst k0; simp [rsC, rs2, rs1, clrM, clM, zrM, encC, upd, tN]
      · simp [rsC, rs2, rs1, clrM, clM, zrM, encC, upd, tN, k1, k0]
  · rw [enc_hi (by omega)]
    simp only [rsC, rs2, rs1, upd]
    simp [show ¬ j = 53 by omega, show ¬ j = 52 by omega, show ¬ j = 51 by omega, show ¬ j = 50 by omega, show ¬ j = 49 by omega, show ¬ j = 48 by omega, show ¬ j = 47 by omega, show ¬ j = 46 by omega, show ¬ j = 45 by omega, show ¬ j = 44 by omega, show ¬ j = 43 by omega, show ¬ j = 42 by omega, show ¬ j = 41 by omega, show ¬ j = 40 by omega, show ¬ j = 39 by omega, show ¬ j = 38 by omega, show ¬ j = 37 by omega, show ¬ j = 36 by omega, show ¬ j = 35 by omega, show ¬ j = 34 by omega, show ¬ j = 33 by omega, show ¬ j = 32 by omega, show ¬ j = 31 by omega, show ¬ j = 30 by omega, show ¬ j = 29 by omega, show ¬ j = 28 by omega, show ¬ j = 27 by omega, show ¬ j = 26 by omega, show ¬ j = 25 by omega, show ¬ j = 24 by omega, show ¬ j = 23 by omega, show ¬ j = 22 by omega, show ¬ j = 21 by omega, show ¬ j = 20 by omega, show ¬ j = 19 by omega, show ¬ j = 18 by omega, show ¬ j = 17 by omega, show ¬ j = 16 by omega, show ¬ j = 15 by omega, show ¬ j = 14 by omega, show ¬ j = 13 by omega, show ¬ j = 12 by omega, show ¬ j = 11 by omega, show ¬ j = 10 by omega, show ¬ j = 9 by omega, show ¬ j = 8 by omega, show ¬ j = 7 by omega, show ¬ j = 6 by omega, show ¬ j = 5 by omega, show ¬ j = 4 by omega, show ¬ j = 3 by omega, show ¬ j = 2 by omega, show ¬ j = 1 by omega, show ¬ j = 0 by omega]
    exact hc j (by omega)
