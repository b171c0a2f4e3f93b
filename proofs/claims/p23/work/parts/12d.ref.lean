/-! calls that are refused -/
theorem IsO.no {G : Gx} {x0 : Nat} {b : Bool} {z q : Zf} {r : Nat} {hz : Nat → Zf} {kb : Bool} {zp : Zf} {w : va_W} (h : IsO G x0 (nxZ b z q) (nxN b r) (nxH b hz z r) kb zp w) (e : b = false) : IsO G x0 z r hz kb zp w := by
  subst e
  exact h
theorem IsO.yes {G : Gx} {x0 : Nat} {b : Bool} {z q : Zf} {r : Nat} {hz : Nat → Zf} {kb : Bool} {zp : Zf} {w : va_W} (h : IsO G x0 (nxZ b z q) (nxN b r) (nxH b hz z r) kb zp w) (e : b = true) : IsO G x0 q (recN r) (rmH hz z r) kb zp w := by
  subst e
  exact h
theorem neg1 {a : Nat} (h : a < 99) : (-1 - nI a : Int32) < 0 := by
  have e : (-1 - nI a : Int32) = - nI (a + 1) := by
    rw [← nI_add a 1]
    show -1 - nI a = - (nI a + 1)
    grind
  rw [e, Int32.lt_iff_toInt_lt]
  have t := nI_toInt (show a + 1 < 2 ^ 31 by omega)
  have h0 : (0 : Int32).toInt = 0 := by decide
  rw [h0, Int32.toInt_neg, t]
  have : (-((a + 1 : Nat) : Int)).bmod (2 ^ 32) = -((a + 1 : Nat) : Int) := by
    rw [Int.bmod_eq_of_le] <;> omega
  rw [this]
  omega
theorem inB_neg {x n : Int32} (h : x < 0) : inB x 0 n = false := by
  unfold inB
  rw [decide_eq_false (Int32.not_le.mpr h)]
  rfl
theorem inB_neg1 {x n : Int32} (h : x < 0) : inB x 1 n = false := by
  unfold inB
  rw [decide_eq_false (Int32.not_le.mpr (Int32.lt_trans h (by decide)))]
  rfl
theorem inB_big {a n : Nat} {l : Int32} (h : n < a) (ha : a < 2 ^ 31) : inB (nI a) l (nI n) = false := by
  unfold inB
  rw [decide_eq_false (p := nI a ≤ nI n) (Int32.not_le.mpr (nI_lt h ha)), Bool.and_false]
theorem isV_neg {x : Int32} (h : x < 0) : isV x = false := inB_neg h
theorem isV_big {a : Nat} (h : 5 < a) (ha : a < 2 ^ 31) : isV (nI a) = false := inB_big (n := 5) h ha
theorem okB_no {z : Zf} {x : Int32} (h : inB x 0 3 = false) : okB z x = false := by unfold okB; rw [h]; rfl
theorem buildA_no {z : Zf} {x : Int32} (h : inB x 0 3 = false) : buildA z x = -1 := by unfold buildA; rw [if_pos h]
theorem cnt_ne {z : Zf} (c : ¬ cntZ z 6 = 0) : 0 < cntZ z 6 := by
  by_cases q : ∃ v : Nat, v < 6 ∧ ¬ z v = 0
  · exact cnt_pos.mpr q
  · exact absurd (cnt_zero.mpr (fun v hv => by
      by_cases e : z v = 0
      · exact e
      · exact absurd ⟨v, hv, e⟩ q)) c
theorem cnt_nul {z : Zf} (c : ¬ 0 < cntZ z 6) : cntZ z 6 = 0 := by
  by_cases q : cntZ z 6 = 0
  · exact q
  · exact absurd (cnt_ne q) c
theorem okB_not {z : Zf} {x : Int32} (h : 0 < cntZ z 6) : okB z x = false := by unfold okB; rw [decide_eq_true h]; simp
theorem buildA_not {z : Zf} {k : Nat} (hk : k < 4) (h : 0 < cntZ z 6) : buildA z (nI k) = -4 := by
  unfold buildA
  have e : inB (nI k) 0 3 = true := by
    unfold inB
    rw [decide_eq_true (nI_pos' (by omega)), decide_eq_true (p := nI k ≤ 3) (nI_le (b := 3) (by omega) (by omega))]
    rfl
  rw [if_neg (by rw [e]; decide), if_pos h]
theorem stepA_no {z : Zf} {x : Int32} (h : isV x = false) : stepA z x = -1 := by unfold stepA; rw [if_neg (by rw [h]; decide)]
theorem okG_no {z : Zf} {x : Int32} (h : isV x = false) : okG z x = false := by unfold okG; rw [h]; rfl
theorem goA_no {z : Zf} {x : Int32} {N : Nat} (h : isV x = false) : goA z x N = -1 := by unfold goA; rw [if_pos h]
theorem okD_no {x n : Int32} (h : inB x 1 63 = false) : okD x n = false := by unfold okD; rw [h]; rfl
theorem drawA_no {z : Zf} {x n : Int32} (h : okD x n = false) : drawA z x n = -2 := by unfold drawA; rw [if_neg (by rw [h]; decide)]
theorem okH_neg {z : Zf} {x : Int32} (h : x < 0) : okH z x = false := by unfold okH; rw [decide_eq_true h]; rfl
theorem shufA_neg {z : Zf} {x : Int32} (h : x < 0) : shufA z x = -2 := by unfold shufA; rw [if_pos h]
theorem okH_same {z : Zf} {x : Int32} (h : x = z 61) : okH z x = false := by unfold okH; rw [decide_eq_true h]; simp
theorem shufA_same {z : Zf} {x : Int32} (h0 : ¬ x < 0) (h : x = z 61) : shufA z x = -5 := by unfold shufA; rw [if_neg h0, if_pos h]
theorem okF_no {z : Zf} (h : cntZ z 6 = 0) : okF z = false := by unfold okF; rw [decide_eq_true h]; rfl
theorem finishA_no {z : Zf} {N : Nat} (h : cntZ z 6 = 0) : finishA z N = -5 := by unfold finishA; rw [if_pos h]
theorem finA_no {z : Zf} {N : Nat} (hN : FiC z N) (h : cntZ z 6 = 0) : finA z N = 0 := by
  have e : N = 0 := by
    by_cases q : N = 0
    · exact q
    · have t := hN.1.2.2.1 0 (by omega)
      have t2 : 0 < cntZ z 6 := t
      rw [h] at t2
      exact absurd t2 (by decide)
  subst e
  unfold finA
  show sumZ z 62 6 - sumZ z 62 6 = 0
  exact Int32.sub_self _
theorem visA_no {z : Zf} {x w : Int32} (h : isV x = false) : visA z x w = -1 := by unfold visA; rw [if_pos h]
theorem lineA_neg {z : Zf} {x : Int32} (h : x < 0) : lineA z x = -2 := by unfold lineA; rw [if_pos h]
theorem lineA_big {z : Zf} {a : Nat} (h : Inv z) (h6 : 6 ≤ a) (ha : a < 2 ^ 31) : lineA z (nI a) = -5 := by
  obtain ⟨m, hm, e⟩ := h.wf.m
  unfold lineA
  rw [e, if_neg (Int32.not_lt.mpr (nI_pos' ha)), if_neg (fun q => by
    have := (nI_ltI ha (by omega)).mp q
    omega)]
theorem lookA_no {z : Zf} {x : Int32} (h : isV x = false) : lookA z x = -1 := by unfold lookA; rw [if_pos h]
theorem touchA_no {z : Zf} {x : Int32} (h : isV x = false) : touchA z x = -1 := by unfold touchA; rw [if_pos h]
theorem okO_no1 {x y w : Int32} (h : isV x = false) : okO x y w = false := by unfold okO; rw [h]; rfl
theorem okO_no2 {x y w : Int32} (h : isV y = false) : okO x y w = false := by unfold okO; rw [h]; simp
