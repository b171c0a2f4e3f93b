/-! the reference's reading: counts that stop at 2001 -/
def atm (x : Int32) : Int32 := if 2000 < x then 2001 else x
theorem atm_n {a : Nat} (h : a < 2 ^ 31) : atm (nI a) = nI (min 2001 a) := by
  unfold atm
  by_cases q : 2000 < a
  · rw [if_pos (by rw [show (2000 : Int32) = nI 2000 from rfl, nI_ltI (by omega) h]; exact q), show min 2001 a = 2001 by omega]
    rfl
  · rw [if_neg (by rw [show (2000 : Int32) = nI 2000 from rfl, nI_ltI (by omega) h]; exact q), show min 2001 a = a by omega]
def cntT (t : Zf) (i k : Nat) : Nat := (if k = (scT t i).1 then (exT t i).1.length else (exT t i).2.1 (k + 1)) - (exT t i).2.1 k
def RdI (t : Zf) (i : Nat) (su it ti : Zf) : Prop := (∀ k : Nat, k ≤ (scT t i).1 → su k = nI (min 2001 (cntT t i k)) ∧ ∃ m : Nat, m ≤ i ∧ it k = nI m) ∧ (∀ k : Nat, 1 ≤ k → k ≤ (scT t i).1 → ti k = nI ((exT t i).2.2 k)) ∧ ((scT t i).2.1 = 0 → ((scT t i).2.2 = true ↔ ¬ it (scT t i).1 = 0))
theorem ex_ord {t : Zf} : ∀ {i : Nat}, OkP t i → ∀ k : Nat, k < (scT t i).1 → (exT t i).2.1 k ≤ (exT t i).2.1 (k + 1)
  | 0, _, k, hk => by
    have : (scT t 0).1 = 0 := rfl
    omega
  | i + 1, h, k, hk => by
    have h' := h.le (Nat.le_succ i)
    have ih := ex_ord h' k
    rcases okc_cases (h i (by omega)) with ⟨q, -⟩ | ⟨q, q1⟩ | ⟨q, q1, q2⟩ | ⟨q, q1, q2, -⟩
    · obtain ⟨s1, s2, s3⟩ := sc_dg q
      rw [s1] at hk
      rw [s3]
      exact ih hk
    · obtain ⟨s1, s2, s3⟩ := sc_lt q q1
      rw [s1] at hk
      rw [s3]
      exact ih hk
    · obtain ⟨s1, s2, s3⟩ := sc_op q q1 q2
      rw [s1] at hk
      have hk : k < (scT t i).1 + 1 := hk
      rw [s3]
      show updN _ _ _ _ ≤ updN _ _ _ _
      rw [updN_n (by omega)]
      by_cases e : k = (scT t i).1
      · subst e
        rw [updN_s]
        rcases Nat.eq_zero_or_pos (scT t i).1 with z | z
        · rw [z, ex_0]; omega
        · exact (bg_spec h' _ z (Nat.le_refl _)).2.2.2.2.2.2
      · rw [updN_n (by omega)]
        exact ih (by omega)
    · obtain ⟨s1, s2, s3⟩ := sc_cl q q1 q2
      rw [s1] at hk
      have hk : k < (scT t i).1 - 1 := hk
      rw [s3]
      exact ih (by omega)
theorem ex_top {t : Zf} {i : Nat} (h : OkP t i) : (exT t i).2.1 (scT t i).1 ≤ (exT t i).1.length := by
  rcases Nat.eq_zero_or_pos (scT t i).1 with z | z
  · rw [z, ex_0]; omega
  · exact (bg_spec h _ z (Nat.le_refl _)).2.2.2.2.2.2
theorem rd_dg {t : Zf} {i : Nat} {su it ti : Zf} (h : RdI t i su it ti) (hO : OkP t i) (q : isDg (t i) = true) : RdI t (i + 1) su it ti := by
  obtain ⟨s1, s2, s3⟩ := sc_dg q
  obtain ⟨d, d1, d2, -, e⟩ := dg_nat q
  obtain ⟨h1, h2, h3⟩ := h
  unfold RdI cntT
  rw [s1, s3]
  refine ⟨fun k hk => ?_, h2, fun x => ?_⟩
  · obtain ⟨a, m, hm, b⟩ := h1 k hk
    exact ⟨a, m, by omega, b⟩
  · exfalso
    have x : ix (t i - 48) = 0 := x
    rw [e, ix_nI (by omega)] at x
    omega
theorem rd_lt {t : Zf} {i : Nat} {su it ti : Zf} (h : RdI t i su it ti) (hO : OkP t i) (hi : i < 2 ^ 20) (q : isDg (t i) = false) (q1 : isLt (t i) = true) : RdI t (i + 1) (upd su (scT t i).1 (atm (su (scT t i).1 + nI (mT t i)))) (upd it (scT t i).1 (it (scT t i).1 + 1)) ti := by
  obtain ⟨s1, s2, s3⟩ := sc_lt q q1
  obtain ⟨h1, h2, h3⟩ := h
  have hm := mT_le hO
  have ht := ex_top hO
  unfold RdI
  rw [s1]
  refine ⟨fun k hk => ?_, by rw [s3]; exact h2, fun _ => ?_⟩
  · have hk : k ≤ (scT t i).1 := hk
    obtain ⟨a, m, hm2, b⟩ := h1 k hk
    by_cases e : k = (scT t i).1
    · subst e
      have hc : cntT t (i + 1) (scT t i).1 = cntT t i (scT t i).1 + mT t i := by
        unfold cntT
        rw [s1, s3]
        simp only [if_true]
        rw [List.length_append, List.length_replicate]
        omega
      rw [pk_us, pk_us, a, b, nI_add, atm_n (by omega), hc]
      exact ⟨by congr 1; omega, m + 1, by omega, nI_1 m⟩
    · have hc : cntT t (i + 1) k = cntT t i k := by
        unfold cntT
        rw [s1, s3]
        simp only []
        rw [if_neg e, if_neg e]
      rw [pk_un e, pk_un e, hc]
      exact ⟨a, m, by omega, b⟩
  · obtain ⟨a, m, hm2, b⟩ := h1 (scT t i).1 (Nat.le_refl _)
    show true = true ↔ ¬ upd it (scT t i).1 (it (scT t i).1 + 1) (scT t i).1 = 0
    rw [pk_us, b, nI_1]
    exact ⟨fun _ => nI_ne0 (by omega) (by omega), fun _ => rfl⟩
theorem rd_op {t : Zf} {i : Nat} {su it ti : Zf} (h : RdI t i su it ti) (hO : OkP t i) (q : isDg (t i) = false) (q1 : isLt (t i) = false) (q2 : t i = 40) : RdI t (i + 1) (upd su ((scT t i).1 + 1) 0) (upd it ((scT t i).1 + 1) 0) (upd ti ((scT t i).1 + 1) (nI (mT t i))) := by
  obtain ⟨s1, s2, s3⟩ := sc_op q q1 q2
  obtain ⟨h1, h2, h3⟩ := h
  unfold RdI
  rw [s1]
  refine ⟨fun k hk => ?_, fun k k1 hk => ?_, fun _ => ?_⟩
  · have hk : k ≤ (scT t i).1 + 1 := hk
    by_cases e : k = (scT t i).1 + 1
    · subst e
      have hc : cntT t (i + 1) ((scT t i).1 + 1) = 0 := by
        unfold cntT
        rw [s1, s3]
        simp only [if_true]
        rw [updN_s]
        omega
      rw [pk_us, pk_us, hc]
      exact ⟨rfl, 0, by omega, rfl⟩
    · obtain ⟨a, m, hm2, b⟩ := h1 k (by omega)
      have hc : cntT t (i + 1) k = cntT t i k := by
        unfold cntT
        rw [s1, s3]
        simp only []
        rw [if_neg e, updN_n e]
        by_cases e2 : k = (scT t i).1
        · subst e2; rw [updN_s, if_pos rfl]
        · rw [updN_n (by omega), if_neg e2]
      rw [pk_un e, pk_un e, hc]
      exact ⟨a, m, by omega, b⟩
  · have hk : k ≤ (scT t i).1 + 1 := hk
    rw [s3]
    show _ = nI (updN (exT t i).2.2 ((scT t i).1 + 1) (mT t i) k)
    by_cases e : k = (scT t i).1 + 1
    · subst e; rw [pk_us, updN_s]
    · rw [pk_un e, updN_n e]; exact h2 k k1 (by omega)
  · show false = true ↔ ¬ upd it ((scT t i).1 + 1) 0 ((scT t i).1 + 1) = 0
    rw [pk_us]
    exact ⟨fun x => (by cases x), fun x => absurd rfl x⟩
theorem min_app (a b r : Nat) (hr : 1 ≤ r) : min 2001 (min 2001 a + min 2001 (min 2001 b * r)) = min 2001 (a + b * r) := by
  by_cases q : b < 2001
  · rw [show min 2001 b = b by omega]; omega
  · have h1 : 2001 ≤ b * r := Nat.le_trans (by omega) (Nat.le_mul_of_pos_right b (by omega))
    have h2 : 2001 ≤ 2001 * r := Nat.le_mul_of_pos_right 2001 (by omega)
    rw [show min 2001 b = 2001 by omega]
    omega
theorem rd_cl {t : Zf} {i : Nat} {su it ti : Zf} (h : RdI t i su it ti) (hO : OkP t i) (hi : i < 2 ^ 20) (q : isDg (t i) = false) (q1 : isLt (t i) = false) (q2 : ¬ t i = 40) (hd : 0 < (scT t i).1) : RdI t (i + 1) (upd su ((scT t i).1 - 1) (atm (su ((scT t i).1 - 1) + atm (su (scT t i).1 * ti (scT t i).1)))) (upd it ((scT t i).1 - 1) (it ((scT t i).1 - 1) + 1)) ti := by
  obtain ⟨s1, s2, s3⟩ := sc_cl q q1 q2
  obtain ⟨h1, h2, h3⟩ := h
  have ht := ex_top hO
  have hb := bg_spec hO (scT t i).1 hd (Nat.le_refl _)
  have hr : (exT t i).2.2 (scT t i).1 ≤ 9 := hb.2.2.2.2.2.1
  have hr1 : 1 ≤ (exT t i).2.2 (scT t i).1 := hb.2.2.2.2.1
  have hord := ex_ord hO ((scT t i).1 - 1) (by omega)
  rw [show (scT t i).1 - 1 + 1 = (scT t i).1 by omega] at hord
  unfold RdI
  rw [s1]
  refine ⟨fun k hk => ?_, fun k k1 hk => ?_, fun _ => ?_⟩
  · have hk : k ≤ (scT t i).1 - 1 := hk
    obtain ⟨a, m, hm2, b⟩ := h1 k (by omega)
    by_cases e : k = (scT t i).1 - 1
    · subst e
      obtain ⟨a2, -⟩ := h1 (scT t i).1 (Nat.le_refl _)
      have a3 := h2 (scT t i).1 hd (Nat.le_refl _)
      have c1 : cntT t i ((scT t i).1 - 1) = (exT t i).2.1 (scT t i).1 - (exT t i).2.1 ((scT t i).1 - 1) := by
        unfold cntT
        rw [if_neg (by omega), show (scT t i).1 - 1 + 1 = (scT t i).1 by omega]
      have c2 : cntT t i (scT t i).1 = (exT t i).1.length - (exT t i).2.1 (scT t i).1 := by
        unfold cntT
        rw [if_pos rfl]
      have hc : cntT t (i + 1) ((scT t i).1 - 1) = cntT t i ((scT t i).1 - 1) + cntT t i (scT t i).1 * (exT t i).2.2 (scT t i).1 := by
        rw [c1, c2]
        unfold cntT
        rw [s1, s3]
        simp only [if_true]
        rw [List.length_append, cpN_len, List.length_drop]
        obtain ⟨r, er⟩ : ∃ r : Nat, (exT t i).2.2 (scT t i).1 = r + 1 := ⟨_, (Nat.succ_pred_eq_of_pos hr1).symm⟩
        rw [er, Nat.add_sub_cancel, Nat.mul_comm _ (r + 1), Nat.succ_mul]
        omega
      have hmul : min 2001 (cntT t i (scT t i).1) * (exT t i).2.2 (scT t i).1 ≤ 2001 * 9 := Nat.mul_le_mul (by omega) hr
      rw [pk_us, pk_us, a, b, a2, a3, pk_mul, atm_n (by omega), nI_add, atm_n (by omega), hc, min_app _ _ _ hr1]
      exact ⟨rfl, m + 1, by omega, nI_1 m⟩
    · have hc : cntT t (i + 1) k = cntT t i k := by
        unfold cntT
        rw [s1, s3]
        simp only []
        rw [if_neg e, if_neg (by omega)]
      rw [pk_un e, pk_un e, hc]
      exact ⟨a, m, by omega, b⟩
  · have hk : k ≤ (scT t i).1 - 1 := hk
    rw [s3]
    exact h2 k k1 (by omega)
  · obtain ⟨a, m, hm2, b⟩ := h1 ((scT t i).1 - 1) (by omega)
    show true = true ↔ ¬ upd it ((scT t i).1 - 1) (it ((scT t i).1 - 1) + 1) ((scT t i).1 - 1) = 0
    rw [pk_us, b, nI_1]
    exact ⟨fun _ => nI_ne0 (by omega) (by omega), fun _ => rfl⟩
theorem rd_0 (t : Zf) {su it ti : Zf} (h1 : su 0 = 0) (h2 : it 0 = 0) : RdI t 0 su it ti := by
  have hd : (scT t 0).1 = 0 := rfl
  refine ⟨fun k hk => ?_, fun k k1 hk => by omega, fun _ => ?_⟩
  · have : k = 0 := by omega
    subst this
    exact ⟨h1, 0, by omega, h2⟩
  · show false = true ↔ ¬ it 0 = 0
    rw [h2]
    exact ⟨fun x => (by cases x), fun x => absurd rfl x⟩
theorem okc_f1 {t : Zf} {i : Nat} (h : isDg (t i) = true) (h2 : ¬ (scT t i).2.1 = 0) : okc t i = false := by
  have := dg_no h
  unfold okc
  rw [h, this.1, decide_eq_false h2, decide_eq_false this.2.1, decide_eq_false this.2.2]
  rfl
theorem okc_f2 {t : Zf} {i : Nat} (h : isDg (t i) = false) (h2 : isLt (t i) = false) (h3 : ¬ t i = 40) (h4 : (¬ t i = 41) ∨ (scT t i).1 = 0 ∨ (scT t i).2.2 = false) : okc t i = false := by
  unfold okc
  rw [h, h2, decide_eq_false h3]
  rcases h4 with q | q | q
  · rw [decide_eq_false q]; rfl
  · rw [q]; simp
  · rw [q]; simp
theorem fau_some {t : Zf} {i n : Nat} (h : OkP t i) (h2 : okc t i = false) (hi : i < n) : fauA t n = nI i := by
  unfold fauA
  rw [fbT_some h h2 hi]
theorem fau_none {t : Zf} {n : Nat} (h : OkP t n) : fauA t n = if (scT t n).1 = 0 ∧ (scT t n).2.2 = true then -5 else nI n := by
  unfold fauA
  rw [fbT_none.mpr h]
theorem fbT_lt {t : Zf} {j : Nat} : ∀ {n : Nat}, fbT t n = some j → j < n
  | 0, h => by cases h
  | n + 1, h => by
    simp only [fbT] at h
    cases e : fbT t n with
    | some k =>
      rw [e] at h
      have : k = j := Option.some.inj h
      have := fbT_lt e
      omega
    | none =>
      rw [e] at h
      simp only [] at h
      split at h
      · cases h
      · have := Option.some.inj h
        omega
theorem fau_ok {t : Zf} {n : Nat} (hn : n < 2 ^ 31) (h : fauA t n = -5) : OkP t n ∧ (scT t n).1 = 0 ∧ (scT t n).2.2 = true := by
  unfold fauA at h
  cases e : fbT t n with
  | some j =>
    rw [e] at h
    have := fbT_lt e
    exact absurd h (nI_m5 (by omega))
  | none =>
    rw [e] at h
    simp only [] at h
    have ho : OkP t n := fbT_none.mp e
    split at h
    · next q => exact ⟨ho, q⟩
    · exact absurd h (nI_m5 hn)
theorem cnt_top {t : Zf} {n : Nat} (h : (scT t n).1 = 0) : cntT t n 0 = (exT t n).1.length := by
  unfold cntT
  rw [if_pos h.symm, ex_0, Nat.sub_zero]
def okP (t : Zf) (n : Nat) : Bool := decide (fauA t n = -5) && !decide (2000 < (exT t n).1.length)
def perfA (t : Zf) (n : Nat) : Int32 := if fauA t n = -5 then (if 2000 < (exT t n).1.length then -3 else nI (exT t n).1.length) else -100 - fauA t n
theorem mrun_pos {t : Zf} {n K : Nat} {q : Mq} (h : 0 < K) : mrun t n K q = mrun t n (K - 1) (mstep t n q) := by
  obtain ⟨k, rfl⟩ : ∃ k : Nat, K = k + 1 := ⟨K - 1, by omega⟩
  rfl
theorem ms_dg {t : Zf} {n i dd m : Nat} {b l z : Zf} (ni : i < n) (h : isDg (t i) = true) : mstep t n (i, dd, m, b, l, z) = (i + 1, dd, ix (t i - 48), b, l, z) := by
  unfold mstep
  rw [if_neg (by omega), if_pos h]
theorem ms_op {t : Zf} {n i dd m : Nat} {b l z : Zf} (ni : i < n) (c2 : t i = 40) : mstep t n (i, dd, m, b, l, z) = (i + 1, dd + 1, 1, upd b (dd + 1) (nI (i + 1)), upd l (dd + 1) (nI m - 1), z) := by
  have n0 : ¬ isDg (t i) = true := by rw [c2]; decide
  unfold mstep
  rw [if_neg (by omega), if_neg n0, if_pos c2]
theorem ms_lt {t : Zf} {n i dd m : Nat} {b l z : Zf} (ni : i < n) (h : isLt (t i) = true) : mstep t n (i, dd, m, b, l, z) = (i + 1, dd, 1, b, l, itS z (ix (t i - 97)) m) := by
  have n0 : ¬ isDg (t i) = true := by rw [(lt_no h).1]; decide
  unfold mstep
  rw [if_neg (by omega), if_neg n0, if_neg (lt_no h).2.1, if_neg (lt_no h).2.2]
