/-! texts: how far they are schedules, what they spread out to, and the walk that repeats -/
def isDg (c : Int32) : Bool := inB c 50 57
def isLt (c : Int32) : Bool := inB c 97 102
/-- depth, digit (0: none), whether an item stands last -/
def scT (t : Zf) : Nat → Nat × Nat × Bool
  | 0 => (0, 0, false)
  | i + 1 => if isDg (t i) = true then ((scT t i).1, ix (t i - 48), false) else if isLt (t i) = true then ((scT t i).1, 0, true) else if t i = 40 then ((scT t i).1 + 1, 0, false) else ((scT t i).1 - 1, 0, true)
def okc (t : Zf) (i : Nat) : Bool := (isDg (t i) && decide ((scT t i).2.1 = 0)) || isLt (t i) || decide (t i = 40) || (decide (t i = 41) && decide (0 < (scT t i).1) && (scT t i).2.2)
def fbT (t : Zf) : Nat → Option Nat
  | 0 => none
  | i + 1 => match fbT t i with
    | some j => some j
    | none => if okc t i = true then none else some i
def fauA (t : Zf) (n : Nat) : Int32 := match fbT t n with
  | some j => nI j
  | none => if (scT t n).1 = 0 ∧ (scT t n).2.2 = true then -5 else nI n
def mT (t : Zf) (i : Nat) : Nat := if (scT t i).2.1 = 0 then 1 else (scT t i).2.1
def updN (f : Nat → Nat) (i x : Nat) : Nat → Nat := fun j => if j = i then x else f j
def bgT (t : Zf) : Nat → Nat → Nat
  | 0 => fun _ => 0
  | i + 1 => if t i = 40 then updN (bgT t i) ((scT t i).1 + 1) (i + 1) else bgT t i
def cpN (l : List Nat) : Nat → List Nat
  | 0 => []
  | c + 1 => cpN l c ++ l
/-- the plan, where each open bracket's contents start in it, how often they are meant -/
def exT (t : Zf) : Nat → List Nat × (Nat → Nat) × (Nat → Nat)
  | 0 => ([], fun _ => 0, fun _ => 0)
  | i + 1 => if isDg (t i) = true then exT t i
    else if isLt (t i) = true then ((exT t i).1 ++ List.replicate (mT t i) (ix (t i - 97)), (exT t i).2)
    else if t i = 40 then ((exT t i).1, updN (exT t i).2.1 ((scT t i).1 + 1) (exT t i).1.length, updN (exT t i).2.2 ((scT t i).1 + 1) (mT t i))
    else ((exT t i).1 ++ cpN ((exT t i).1.drop ((exT t i).2.1 (scT t i).1)) ((exT t i).2.2 (scT t i).1 - 1), (exT t i).2)
theorem fbT_none {t : Zf} : ∀ {n : Nat}, fbT t n = none ↔ ∀ i : Nat, i < n → okc t i = true
  | 0 => ⟨fun _ i hi => absurd hi (Nat.not_lt_zero i), fun _ => rfl⟩
  | n + 1 => by
    have ih := fbT_none (t := t) (n := n)
    simp only [fbT]
    cases h : fbT t n with
    | some j =>
      refine ⟨fun q => (by cases q), fun q => ?_⟩
      have := ih.mpr (fun i hi => q i (by omega))
      rw [h] at this; cases this
    | none =>
      have h2 := ih.mp h
      by_cases o : okc t n = true
      · refine ⟨fun _ i hi => ?_, fun _ => by simp [o]⟩
        by_cases e : i = n
        · rw [e]; exact o
        · exact h2 i (by omega)
      · refine ⟨fun q => (by simp [o] at q), fun q => absurd (q n (by omega)) o⟩
theorem fbT_some {t : Zf} {i : Nat} (h : ∀ j : Nat, j < i → okc t j = true) (h2 : okc t i = false) : ∀ {n : Nat}, i < n → fbT t n = some i
  | 0, hn => absurd hn (Nat.not_lt_zero i)
  | n + 1, hn => by
    simp only [fbT]
    by_cases e : i = n
    · subst e
      rw [fbT_none.mpr h]
      simp [h2]
    · rw [fbT_some h h2 (n := n) (by omega)]
theorem dg_nat {c : Int32} (h : isDg c = true) : ∃ d : Nat, 2 ≤ d ∧ d ≤ 9 ∧ c = nI (48 + d) ∧ c - 48 = nI d := by
  simp only [isDg, inB, Bool.and_eq_true, decide_eq_true_eq] at h
  obtain ⟨j, hj, e⟩ := nI_of2 (M := 57) (n := 57) (x := c) (by decide) (fun q => absurd h.1 (Int32.not_le.mpr (Int32.lt_trans q (by decide)))) h.2
  have h1 := h.1
  rw [e, show (50 : Int32) = nI 50 from rfl, nI_leI (by omega) (by omega)] at h1
  exact ⟨j - 48, by omega, by omega, by rw [e]; congr 1; omega, by rw [e, show (48 : Int32) = nI 48 from rfl, pk_sub (by omega)]⟩
theorem lt_nat {c : Int32} (h : isLt c = true) : ∃ v : Nat, v < 6 ∧ c = nI (97 + v) ∧ c - 97 = nI v := by
  simp only [isLt, inB, Bool.and_eq_true, decide_eq_true_eq] at h
  obtain ⟨j, hj, e⟩ := nI_of2 (M := 102) (n := 102) (x := c) (by decide) (fun q => absurd h.1 (Int32.not_le.mpr (Int32.lt_trans q (by decide)))) h.2
  have h1 := h.1
  rw [e, show (97 : Int32) = nI 97 from rfl, nI_leI (by omega) (by omega)] at h1
  exact ⟨j - 97, by omega, by rw [e]; congr 1; omega, by rw [e, show (97 : Int32) = nI 97 from rfl, pk_sub (by omega)]⟩
theorem dg_no {c : Int32} (h : isDg c = true) : isLt c = false ∧ ¬ c = 40 ∧ ¬ c = 41 := by
  obtain ⟨d, h1, h2, e, -⟩ := dg_nat h
  rw [e]
  rcases (show d = 2 ∨ d = 3 ∨ d = 4 ∨ d = 5 ∨ d = 6 ∨ d = 7 ∨ d = 8 ∨ d = 9 by omega) with rfl | rfl | rfl | rfl | rfl | rfl | rfl | rfl <;> decide
theorem lt_no {c : Int32} (h : isLt c = true) : isDg c = false ∧ ¬ c = 40 ∧ ¬ c = 41 := by
  obtain ⟨d, h1, e, -⟩ := lt_nat h
  rw [e]
  rcases (show d = 0 ∨ d = 1 ∨ d = 2 ∨ d = 3 ∨ d = 4 ∨ d = 5 by omega) with rfl | rfl | rfl | rfl | rfl | rfl <;> decide
/-- the four kinds of characters that go on -/
theorem okc_cases {t : Zf} {i : Nat} (h : okc t i = true) : (isDg (t i) = true ∧ (scT t i).2.1 = 0) ∨ (isDg (t i) = false ∧ isLt (t i) = true) ∨ (isDg (t i) = false ∧ isLt (t i) = false ∧ t i = 40) ∨ (isDg (t i) = false ∧ isLt (t i) = false ∧ (¬ t i = 40) ∧ t i = 41 ∧ 0 < (scT t i).1 ∧ (scT t i).2.2 = true) := by
  simp only [okc, Bool.or_eq_true, Bool.and_eq_true, decide_eq_true_eq] at h
  rcases h with ((h | h) | h) | h
  · exact Or.inl h
  · exact Or.inr (Or.inl ⟨(lt_no h).1, h⟩)
  · exact Or.inr (Or.inr (Or.inl ⟨by rw [h]; decide, by rw [h]; decide, h⟩))
  · exact Or.inr (Or.inr (Or.inr ⟨by rw [h.1.1]; decide, by rw [h.1.1]; decide, by rw [h.1.1]; decide, h.1.1, h.1.2, h.2⟩))
theorem sc_dg {t : Zf} {i : Nat} (h : isDg (t i) = true) : scT t (i + 1) = ((scT t i).1, ix (t i - 48), false) ∧ bgT t (i + 1) = bgT t i ∧ exT t (i + 1) = exT t i := by
  refine ⟨?_, ?_, ?_⟩
  · simp only [scT, if_pos h]
  · simp only [bgT, if_neg (dg_no h).2.1]
  · simp only [exT, if_pos h]
theorem sc_lt {t : Zf} {i : Nat} (h0 : isDg (t i) = false) (h : isLt (t i) = true) : scT t (i + 1) = ((scT t i).1, 0, true) ∧ bgT t (i + 1) = bgT t i ∧ exT t (i + 1) = ((exT t i).1 ++ List.replicate (mT t i) (ix (t i - 97)), (exT t i).2) := by
  have n0 : ¬ isDg (t i) = true := by rw [h0]; decide
  refine ⟨?_, ?_, ?_⟩
  · simp only [scT, if_neg n0, if_pos h]
  · simp only [bgT, if_neg (lt_no h).2.1]
  · simp only [exT, if_neg n0, if_pos h]
theorem sc_op {t : Zf} {i : Nat} (h0 : isDg (t i) = false) (h1 : isLt (t i) = false) (h : t i = 40) : scT t (i + 1) = ((scT t i).1 + 1, 0, false) ∧ bgT t (i + 1) = updN (bgT t i) ((scT t i).1 + 1) (i + 1) ∧ exT t (i + 1) = ((exT t i).1, updN (exT t i).2.1 ((scT t i).1 + 1) (exT t i).1.length, updN (exT t i).2.2 ((scT t i).1 + 1) (mT t i)) := by
  have n0 : ¬ isDg (t i) = true := by rw [h0]; decide
  have n1 : ¬ isLt (t i) = true := by rw [h1]; decide
  refine ⟨?_, ?_, ?_⟩
  · simp only [scT, if_neg n0, if_neg n1, if_pos h]
  · simp only [bgT, if_pos h]
  · simp only [exT, if_neg n0, if_neg n1, if_pos h]
theorem sc_cl {t : Zf} {i : Nat} (h0 : isDg (t i) = false) (h1 : isLt (t i) = false) (h : ¬ t i = 40) : scT t (i + 1) = ((scT t i).1 - 1, 0, true) ∧ bgT t (i + 1) = bgT t i ∧ exT t (i + 1) = ((exT t i).1 ++ cpN ((exT t i).1.drop ((exT t i).2.1 (scT t i).1)) ((exT t i).2.2 (scT t i).1 - 1), (exT t i).2) := by
  have n0 : ¬ isDg (t i) = true := by rw [h0]; decide
  have n1 : ¬ isLt (t i) = true := by rw [h1]; decide
  refine ⟨?_, ?_, ?_⟩
  · simp only [scT, if_neg n0, if_neg n1, if_neg h]
  · simp only [bgT, if_neg h]
  · simp only [exT, if_neg n0, if_neg n1, if_neg h]
theorem updN_s (f : Nat → Nat) (i x : Nat) : updN f i x i = x := if_pos rfl
theorem updN_n {f : Nat → Nat} {i j x : Nat} (h : j ≠ i) : updN f i x j = f j := if_neg h
def OkP (t : Zf) (n : Nat) : Prop := ∀ i : Nat, i < n → okc t i = true
theorem OkP.le {t : Zf} {i n : Nat} (h : OkP t n) (hi : i ≤ n) : OkP t i := fun j hj => h j (by omega)
theorem mT_le {t : Zf} : ∀ {i : Nat}, OkP t i → 1 ≤ mT t i ∧ mT t i ≤ 9 ∧ (scT t i).1 ≤ i ∧ ((scT t i).2.2 = true → (scT t i).2.1 = 0)
  | 0, _ => ⟨Nat.le_refl 1, by show 1 ≤ 9; omega, Nat.le_refl 0, fun _ => rfl⟩
  | i + 1, h => by
    obtain ⟨a1, a2, a3, a4⟩ := mT_le (h.le (Nat.le_succ i))
    rcases okc_cases (h i (by omega)) with ⟨q, -⟩ | ⟨q, q1⟩ | ⟨q, q1, q2⟩ | ⟨q, q1, q2, -⟩
    · obtain ⟨d, d1, d2, -, e⟩ := dg_nat q
      have s := (sc_dg q).1
      unfold mT
      rw [s, e, ix_nI (by omega)]
      refine ⟨?_, ?_, by show (scT t i).1 ≤ i + 1; omega, fun x => (by cases x)⟩
      · show 1 ≤ if d = 0 then 1 else d
        rw [if_neg (by omega)]; omega
      · show (if d = 0 then 1 else d) ≤ 9
        rw [if_neg (by omega)]; omega
    · have s := (sc_lt q q1).1
      unfold mT
      rw [s]
      exact ⟨Nat.le_refl 1, by show 1 ≤ 9; omega, by show (scT t i).1 ≤ i + 1; omega, fun _ => rfl⟩
    · have s := (sc_op q q1 q2).1
      unfold mT
      rw [s]
      exact ⟨Nat.le_refl 1, by show 1 ≤ 9; omega, by show (scT t i).1 + 1 ≤ i + 1; omega, fun _ => rfl⟩
    · have s := (sc_cl q q1 q2).1
      unfold mT
      rw [s]
      exact ⟨Nat.le_refl 1, by show 1 ≤ 9; omega, by show (scT t i).1 - 1 ≤ i + 1; omega, fun _ => rfl⟩
/-- where the contents of an open bracket begin -/
theorem bg_spec {t : Zf} : ∀ {i : Nat}, OkP t i → ∀ k : Nat, 1 ≤ k → k ≤ (scT t i).1 → bgT t i k ≤ i ∧ (scT t (bgT t i k)).1 = k ∧ (scT t (bgT t i k)).2.1 = 0 ∧ (∀ k' : Nat, k' ≤ k → bgT t (bgT t i k) k' = bgT t i k') ∧ 1 ≤ (exT t i).2.2 k ∧ (exT t i).2.2 k ≤ 9 ∧ (exT t i).2.1 k ≤ (exT t i).1.length
  | 0, _, k, h1, h2 => by
    have : (scT t 0).1 = 0 := rfl
    omega
  | i + 1, h, k, h1, h2 => by
    have ih := bg_spec (h.le (Nat.le_succ i)) k h1
    have hm := mT_le (h.le (Nat.le_succ i))
    rcases okc_cases (h i (by omega)) with ⟨q, -⟩ | ⟨q, q1⟩ | ⟨q, q1, q2⟩ | ⟨q, q1, q2, -⟩
    · obtain ⟨s1, s2, s3⟩ := sc_dg q
      rw [s1] at h2
      rw [s2, s3]
      obtain ⟨a1, a2, a3, a4, a5, a6, a7⟩ := ih h2
      exact ⟨by omega, a2, a3, a4, a5, a6, a7⟩
    · obtain ⟨s1, s2, s3⟩ := sc_lt q q1
      rw [s1] at h2
      rw [s2, s3]
      obtain ⟨a1, a2, a3, a4, a5, a6, a7⟩ := ih h2
      exact ⟨by omega, a2, a3, a4, a5, a6, by rw [List.length_append]; show (exT t i).2.1 k ≤ _; omega⟩
    · obtain ⟨s1, s2, s3⟩ := sc_op q q1 q2
      rw [s1] at h2
      have h2 : k ≤ (scT t i).1 + 1 := h2
      by_cases e : k = (scT t i).1 + 1
      · subst e
        have eb : bgT t (i + 1) ((scT t i).1 + 1) = i + 1 := by rw [s2, updN_s]
        rw [eb, s1, s3]
        refine ⟨by omega, rfl, rfl, fun k' _ => rfl, ?_, ?_, ?_⟩
        · show 1 ≤ updN _ _ _ _; rw [updN_s]; exact hm.1
        · show updN _ _ _ _ ≤ 9; rw [updN_s]; exact hm.2.1
        · show updN _ _ _ _ ≤ _; rw [updN_s]; exact Nat.le_refl _
      · obtain ⟨a1, a2, a3, a4, a5, a6, a7⟩ := ih (by omega)
        have eb : bgT t (i + 1) k = bgT t i k := by rw [s2, updN_n e]
        rw [eb, s3]
        refine ⟨by omega, a2, a3, fun k' hk' => ?_, ?_, ?_, ?_⟩
        · rw [a4 k' hk', s2, updN_n (by omega)]
        · show 1 ≤ updN _ _ _ _; rw [updN_n e]; exact a5
        · show updN _ _ _ _ ≤ 9; rw [updN_n e]; exact a6
        · show updN _ _ _ _ ≤ _; rw [updN_n e]; exact a7
    · obtain ⟨s1, s2, s3⟩ := sc_cl q q1 q2
      rw [s1] at h2
      have h2 : k ≤ (scT t i).1 - 1 := h2
      rw [s2, s3]
      obtain ⟨a1, a2, a3, a4, a5, a6, a7⟩ := ih (by omega)
      exact ⟨by omega, a2, a3, a4, a5, a6, by rw [List.length_append]; show (exT t i).2.1 k ≤ _; omega⟩
theorem ex_0 {t : Zf} : ∀ {i : Nat}, (exT t i).2.1 0 = 0
  | 0 => rfl
  | i + 1 => by
    have ih := ex_0 (t := t) (i := i)
    simp only [exT]
    repeat' split
    · exact ih
    · exact ih
    · show updN (exT t i).2.1 ((scT t i).1 + 1) (exT t i).1.length 0 = 0
      rw [updN_n (by omega)]; exact ih
    · exact ih
theorem cpN_len (l : List Nat) : ∀ c : Nat, (cpN l c).length = c * l.length
  | 0 => by simp [cpN]
  | c + 1 => by rw [cpN, List.length_append, cpN_len l c, Nat.succ_mul]
theorem ex_mono {t : Zf} {i : Nat} : (exT t i).1.length ≤ (exT t (i + 1)).1.length := by
  simp only [exT]
  repeat' split
  all_goals first | exact Nat.le_refl _ | (rw [List.length_append]; omega)
theorem ex_mono2 {t : Zf} {i : Nat} : ∀ {n : Nat}, i ≤ n → (exT t i).1.length ≤ (exT t n).1.length
  | 0, h => by rw [show i = 0 by omega]; exact Nat.le_refl _
  | n + 1, h => by
    by_cases e : i = n + 1
    · rw [e]; exact Nat.le_refl _
    · exact Nat.le_trans (ex_mono2 (n := n) (by omega)) ex_mono
/-- all planned ones are visitors -/
theorem ex_vis {t : Zf} : ∀ {i : Nat}, ∀ v ∈ (exT t i).1, OkP t i → v < 6
  | 0, v, hv, _ => by simp [exT] at hv
  | i + 1, v, hv, h => by
    have ih := ex_vis (t := t) (i := i)
    have h' := h.le (Nat.le_succ i)
    rcases okc_cases (h i (by omega)) with ⟨q, -⟩ | ⟨q, q1⟩ | ⟨q, q1, q2⟩ | ⟨q, q1, q2, -⟩
    · rw [(sc_dg q).2.2] at hv; exact ih v hv h'
    · rw [(sc_lt q q1).2.2] at hv
      rcases List.mem_append.mp hv with x | x
      · exact ih v x h'
      · obtain ⟨w, w1, -, w2⟩ := lt_nat q1
        rw [(List.mem_replicate.mp x).2, w2, ix_nI (by omega)]; exact w1
    · rw [(sc_op q q1 q2).2.2] at hv; exact ih v hv h'
    · rw [(sc_cl q q1 q2).2.2] at hv
      rcases List.mem_append.mp hv with x | x
      · exact ih v x h'
      · have key : ∀ c : Nat, v ∈ cpN ((exT t i).1.drop ((exT t i).2.1 (scT t i).1)) c → v ∈ (exT t i).1 := by
          intro c
          induction c with
          | zero => intro y; simp [cpN] at y
          | succ c ihc =>
            intro y
            rcases List.mem_append.mp y with y | y
            · exact ihc y
            · exact List.mem_of_mem_drop y
        exact ih v (key _ x) h'
