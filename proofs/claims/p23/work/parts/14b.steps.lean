/-! for the law's own steps: who stands where, as one number -/
theorem st_ix {z : Zf} {v : Nat} (hv : v < 6) (h : Inv z) : z v = nI (ix (z v)) ∧ ix (z v) < 8 := by
  obtain ⟨s, hs, e⟩ := st_lt8 hv h
  rw [e, ix_nI (by omega)]
  exact ⟨rfl, hs⟩
def othN (z : Zf) (v : Nat) : Nat → Nat
  | 0 => 0
  | k + 1 => 8 * othN z v k + (if k = v then 0 else ix (z k))
theorem oth_d {z : Zf} {v k : Nat} (h : Inv z) (hk : k < 6) : (if k = v then 0 else ix (z k)) < 8 := by
  by_cases e : k = v
  · rw [if_pos e]
    omega
  · rw [if_neg e]
    exact (st_ix hk h).2
theorem oth_lt {z : Zf} {v : Nat} (h : Inv z) : ∀ {k : Nat}, k ≤ 6 → othN z v k < 8 ^ k
  | 0, _ => Nat.zero_lt_one
  | k + 1, hk => by
    have t := oth_lt (v := v) h (show k ≤ 6 by omega)
    have d := oth_d (v := v) h (show k < 6 by omega)
    simp only [othN]
    rw [Nat.pow_succ]
    omega
theorem oth_31 {z : Zf} {v k : Nat} (h : Inv z) (hk : k ≤ 6) : othN z v k < 2 ^ 31 := by
  have t := oth_lt (v := v) h hk
  have : 8 ^ k ≤ 8 ^ 6 := Nat.pow_le_pow_right (by decide) hk
  omega
theorem oth_mod {z : Zf} {v k : Nat} (h : Inv z) (hk : k < 6) (hne : ¬ k = v) : othN z v (k + 1) % 8 = ix (z k) := by
  have d := oth_d (v := v) h hk
  simp only [othN]
  rw [if_neg hne] at d ⊢
  omega
theorem oth_div {z : Zf} {v k : Nat} (h : Inv z) (hk : k < 6) : othN z v (k + 1) / 8 = othN z v k := by
  have d := oth_d (v := v) h hk
  simp only [othN]
  omega
theorem st_68 {z : Zf} {v : Nat} (hv : v < 6) (h : Inv z) : stM z v (68 + v) = z (68 + v) + bI (isLook z v) := by rw [stM_hi hv h (by omega), dS_68 hv hv, if_pos rfl]
theorem st_74y {z : Zf} {v : Nat} (hv : v < 6) (h : Inv z) (e : stM z v v = 0) : stM z v (74 + v) = z (74 + v) + 1 := by rw [stM_hi hv h (by omega), dS_74 hv hv, if_pos rfl, if_pos e]
theorem st_74n {z : Zf} {v : Nat} (hv : v < 6) (h : Inv z) (e : ¬ stM z v v = 0) : stM z v (74 + v) = z (74 + v) + 0 := by rw [stM_hi hv h (by omega), dS_74 hv hv, if_pos rfl, if_neg e]
theorem stepA_v (z : Zf) {v : Nat} (hv : v < 6) : stepA z (nI v) = stM z v v := by
  unfold stepA
  rw [isV_nI hv, ix_nI (by omega)]
  rfl
theorem IsO.stp {G : Gx} {x0 : Nat} {z : Zf} {r : Nat} {hz : Nat → Zf} {kb : Bool} {zp : Zf} {w : va_W} {v : Nat} (hv : v < 6) (h : IsO G x0 (nxZ (isV (nI v)) z (stM z (ix (nI v)))) (nxN (isV (nI v)) r) (nxH (isV (nI v)) hz z r) kb zp w) : IsO G x0 (stM z v) (recN r) (rmH hz z r) kb zp w := by
  have t := h.yes (isV_nI hv)
  rw [ix_nI (by omega)] at t
  exact t
theorem okG_yes {z : Zf} {v : Nat} (hv : v < 6) (hl : isLook z v = false) : okG z (nI v) = true := by
  unfold okG
  rw [isV_nI hv, ix_nI (by omega), hl]
  rfl
theorem okG_look {z : Zf} {v : Nat} (hv : v < 6) (hl : isLook z v = true) : okG z (nI v) = false := by
  unfold okG
  rw [ix_nI (by omega), hl]
  simp
theorem goA_look {z : Zf} {v N : Nat} (hv : v < 6) (hl : isLook z v = true) : goA z (nI v) N = -5 := by
  unfold goA
  rw [isV_nI hv, ix_nI (by omega), hl, if_neg (by decide), if_pos rfl]
theorem goA_yes {z : Zf} {v N : Nat} (hv : v < 6) (hl : isLook z v = false) : goA z (nI v) N = nI N := by
  unfold goA
  rw [isV_nI hv, ix_nI (by omega), hl, if_neg (by decide), if_neg (by decide)]
theorem IsO.gos {G : Gx} {x0 : Nat} {z : Zf} {r : Nat} {hz : Nat → Zf} {kb : Bool} {zp : Zf} {w : va_W} {v N : Nat} (hv : v < 6) (hl : isLook z v = false) (h : IsO G x0 (nxZ (okG z (nI v)) z (itS z (ix (nI v)) N)) (nxN (okG z (nI v)) r) (nxH (okG z (nI v)) hz z r) kb zp w) : IsO G x0 (itS z v N) (recN r) (rmH hz z r) kb zp w := by
  have t := h.yes (okG_yes hv hl)
  rw [ix_nI (by omega)] at t
  exact t
theorem okD_yes {S n : Nat} (h0 : 0 < S) (hS : S < 64) (n0 : 0 < n) (hn : n ≤ 200) : okD (nI S) (nI n) = true := by
  unfold okD inB
  rw [decide_eq_true (p := 1 ≤ nI S) (nI_le (a := 1) (by omega) (by omega)), decide_eq_true (p := nI S ≤ 63) (nI_le (b := 63) (by omega) (by omega)), decide_eq_true (p := 1 ≤ nI n) (nI_le (a := 1) (by omega) (by omega)), decide_eq_true (p := nI n ≤ 200) (nI_le (b := 200) (by omega) (by omega))]
  rfl
theorem drawA_yes {z : Zf} {S n t : Nat} (h0 : 0 < S) (hS : S < 64) (n0 : 0 < n) (hn : n ≤ 200) (e : sumZ (drZ z (nI S) n) 74 6 = sumZ z 74 6 + nI t) : drawA z (nI S) (nI n) = nI t := by
  unfold drawA
  rw [if_pos (okD_yes h0 hS n0 hn), ix_nI (by omega), e]
  grind
theorem IsO.drs {G : Gx} {x0 : Nat} {z : Zf} {r : Nat} {hz : Nat → Zf} {kb : Bool} {zp : Zf} {w : va_W} {S n : Nat} (h0 : 0 < S) (hS : S < 64) (n0 : 0 < n) (hn : n ≤ 200) (h : IsO G x0 (nxZ (okD (nI S) (nI n)) z (drZ z (nI S) (ix (nI n)))) (nxN (okD (nI S) (nI n)) r) (nxH (okD (nI S) (nI n)) hz z r) kb zp w) : IsO G x0 (drZ z (nI S) n) (recN r) (rmH hz z r) kb zp w := by
  have t := h.yes (okD_yes h0 hS n0 hn)
  rw [ix_nI (by omega)] at t
  exact t
/-- the steps of those who aren't drawn -/
def nsM (z : Zf) (x : Int32) : Nat → Int32
  | 0 => 0
  | k + 1 => nsM z x k + (if bitM x k = 0 then z (62 + k) else 0)
theorem nsM_eq {z w : Zf} {x : Int32} (h : ∀ u : Nat, u < 6 → bitM x u = 0 → w (62 + u) = z (62 + u)) : ∀ {k : Nat}, k ≤ 6 → nsM w x k = nsM z x k
  | 0, _ => rfl
  | k + 1, hk => by
    simp only [nsM]
    rw [nsM_eq h (show k ≤ 6 by omega)]
    by_cases c : bitM x k = 0
    · rw [if_pos c, if_pos c, h k (by omega) c]
    · rw [if_neg c, if_neg c]
theorem okF_yes {z : Zf} (h : ¬ cntZ z 6 = 0) : okF z = true := by
  unfold okF
  rw [decide_eq_false h]
  rfl
theorem finishA_yes {z : Zf} {N : Nat} (h : ¬ cntZ z 6 = 0) : finishA z N = finA z N := by
  unfold finishA
  rw [if_neg h]
theorem okH_yes {z : Zf} {x : Int32} (h0 : ¬ x < 0) (h : ¬ x = z 61) : okH z x = true := by
  unfold okH
  rw [decide_eq_false h0, decide_eq_false h]
  rfl
theorem shufA_yes {z : Zf} {x : Int32} (h0 : ¬ x < 0) (h : ¬ x = z 61) : shufA z x = z 61 := by
  unfold shufA
  rw [if_neg h0, if_neg h]
theorem okB_yes {z : Zf} {k : Nat} (hk : k < 4) (h : ¬ 0 < cntZ z 6) : okB z (nI k) = true := by
  unfold okB inB
  rw [decide_eq_true (nI_pos' (by omega)), decide_eq_true (p := nI k ≤ 3) (nI_le (b := 3) (by omega) (by omega)), decide_eq_false h]
  rfl
theorem buildA_yes {z : Zf} {k : Nat} (hk : k < 4) (h : ¬ 0 < cntZ z 6) : buildA z (nI k) = z 60 := by
  unfold buildA inB
  rw [decide_eq_true (nI_pos' (by omega)), decide_eq_true (p := nI k ≤ 3) (nI_le (b := 3) (by omega) (by omega)), if_neg (by decide), if_neg h]
theorem sb1 (i : Nat) : nI (i + 1) + -1 = nI i := by
  rw [← nI_add i 1]
  show nI i + 1 + -1 = nI i
  grind
theorem sb0 : nI 0 + -1 = -1 := by decide
theorem sb5 : (5 : Int32) = nI 6 + -1 := by decide
theorem x_nat {x : Int32} (h : ¬ x < 0) : ∃ n : Nat, n < 2 ^ 31 ∧ x = nI n := by
  have h0 : 0 ≤ x.toInt := by
    have t := Int32.not_lt.mp h
    have t2 := Int32.le_iff_toInt_le.mp t
    have e0 : (0 : Int32).toInt = 0 := by decide
    omega
  refine ⟨x.toInt.toNat, ?_, ?_⟩
  · have := Int32.toInt_lt x
    omega
  · apply Int32.toInt_inj.mp
    have := Int32.toInt_lt x
    rw [nI_toInt (by omega)]
    omega
theorem clr_60 (z : Zf) (k : Int32) : clrM z k 60 = k := by
  unfold clrM
  exact pk_us
theorem clr_far (z : Zf) {k j : Nat} (hk : k < 4) (hj : 62 ≤ j) : clrM z (nI k) j = z j := by
  have key : ∀ n : Nat, n ≤ 6 → clM (zrM z 53) n j = z j := by
    intro n
    induction n with
    | zero =>
      intro _
      show zrM z 53 j = z j
      unfold zrM
      rw [if_neg (by omega)]
    | succ n ih =>
      intro hn
      simp only [clM]
      rw [pk_un (by omega), pk_un (by omega), pk_un (by omega), pk_un (by omega), pk_un (by omega)]
      exact ih (by omega)
  unfold clrM
  rw [pk_un (by omega), pk_un (by omega)]
  exact key 6 (by omega)
theorem fin_0 {z : Zf} {N : Nat} (hN : FiC z N) (h : cntZ z 6 = 0) : N = 0 := by
  by_cases q : N = 0
  · exact q
  · have t := hN.1.2.2.1 0 (by omega)
    have t2 : 0 < cntZ z 6 := t
    rw [h] at t2
    exact absurd t2 (by decide)
