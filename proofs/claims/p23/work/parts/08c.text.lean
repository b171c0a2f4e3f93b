/-! the walk that repeats: spot, depth, digit, begins, left, state -/
abbrev Mq : Type := Nat × Nat × Nat × Zf × Zf × Zf
def mstep (t : Zf) (n : Nat) (q : Mq) : Mq :=
  if n ≤ q.1 then q
  else if isDg (t q.1) = true then (q.1 + 1, q.2.1, ix (t q.1 - 48), q.2.2.2.1, q.2.2.2.2.1, q.2.2.2.2.2)
  else if t q.1 = 40 then (q.1 + 1, q.2.1 + 1, 1, upd q.2.2.2.1 (q.2.1 + 1) (nI (q.1 + 1)), upd q.2.2.2.2.1 (q.2.1 + 1) (nI q.2.2.1 - 1), q.2.2.2.2.2)
  else if t q.1 = 41 then ((if 0 < q.2.2.2.2.1 q.2.1 then ix (q.2.2.2.1 q.2.1) else q.1 + 1), q.2.1 - (if q.2.2.2.2.1 q.2.1 - 1 < 0 then 1 else 0), q.2.2.1, q.2.2.2.1, upd q.2.2.2.2.1 q.2.1 (q.2.2.2.2.1 q.2.1 - 1), q.2.2.2.2.2)
  else (q.1 + 1, q.2.1, 1, q.2.2.2.1, q.2.2.2.2.1, itS q.2.2.2.2.2 (ix (t q.1 - 97)) q.2.2.1)
def mrun (t : Zf) (n : Nat) : Nat → Mq → Mq
  | 0, q => q
  | k + 1, q => mrun t n k (mstep t n q)
theorem mrun_add (t : Zf) (n : Nat) : ∀ (a b : Nat) (q : Mq), mrun t n (a + b) q = mrun t n b (mrun t n a q)
  | 0, b, q => by rw [Nat.zero_add]; rfl
  | a + 1, b, q => by rw [show a + 1 + b = (a + b) + 1 by omega]; exact mrun_add t n a b (mstep t n q)
def MTo (t : Zf) (n : Nat) (q q' : Mq) : Prop := ∃ k : Nat, mrun t n k q = q'
theorem MTo.rf {t : Zf} {n : Nat} (q : Mq) : MTo t n q q := ⟨0, rfl⟩
theorem MTo.tr {t : Zf} {n : Nat} {a b c : Mq} (h1 : MTo t n a b) (h2 : MTo t n b c) : MTo t n a c := by
  obtain ⟨k, h1⟩ := h1
  obtain ⟨j, h2⟩ := h2
  exact ⟨k + j, by rw [mrun_add, h1, h2]⟩
theorem MTo.st {t : Zf} {n : Nat} {a b : Mq} (h : mstep t n a = b) : MTo t n a b := ⟨1, h⟩
/-- steps one after another -/
def runZ (z : Zf) (l : List Nat) : Zf := l.foldl stM z
theorem runZ_app (z : Zf) (a b : List Nat) : runZ z (a ++ b) = runZ (runZ z a) b := List.foldl_append
theorem runZ_rep (z : Zf) (v : Nat) : ∀ c : Nat, runZ z (List.replicate c v) = itS z v c
  | 0 => rfl
  | c + 1 => by
    rw [List.replicate_succ', runZ_app, runZ_rep z v c]
    rfl
theorem Inv.run {z : Zf} (h : Inv z) : ∀ {l : List Nat}, (∀ v ∈ l, v < 6) → Inv (runZ z l) := by
  intro l
  induction l generalizing z with
  | nil => intro _; exact h
  | cons a l ih =>
    intro hl
    exact ih (h.st (hl a (List.mem_cons_self ..))) (fun v hv => hl v (List.mem_cons_of_mem _ hv))
/-- a state at the spot i, all of the open brackets from level e on fresh -/
def At (t : Zf) (i e : Nat) (l0 : Zf) (zz : Zf) (q : Mq) : Prop := q.1 = i ∧ q.2.1 = (scT t i).1 ∧ q.2.2.1 = mT t i ∧ (∀ k : Nat, 1 ≤ k → k ≤ (scT t i).1 → q.2.2.2.1 k = nI (bgT t i k)) ∧ (∀ k : Nat, k ≤ e → q.2.2.2.2.1 k = l0 k) ∧ (∀ k : Nat, e < k → k ≤ (scT t i).1 → q.2.2.2.2.1 k = nI ((exT t i).2.2 k - 1)) ∧ q.2.2.2.2.2 = zz
def bg0 (t : Zf) (i e : Nat) : Nat := if e = 0 then 0 else bgT t i e
theorem reach {t : Zf} {n : Nat} (hO : OkP t n) (hn : n < 2 ^ 20) : ∀ (i : Nat), i ≤ n → ∀ e : Nat, e ≤ (scT t i).1 → ∀ (b l z : Zf), (∀ k : Nat, 1 ≤ k → k ≤ e → b k = nI (bgT t i k)) → ∃ q' : Mq, MTo t n (bg0 t i e, e, 1, b, l, z) q' ∧ At t i e l (runZ z ((exT t i).1.drop ((exT t i).2.1 e))) q'
  | 0, _, e, he, b, l, z, hb => by
    have he0 : e = 0 := by have : (scT t 0).1 = 0 := rfl; omega
    subst he0
    exact ⟨_, MTo.rf _, rfl, rfl, rfl, fun k h1 h2 => by have : (scT t 0).1 = 0 := rfl; omega, fun _ _ => rfl, fun k h1 h2 => by have : (scT t 0).1 = 0 := rfl; omega, rfl⟩
  | i + 1, hi, e, he, b, l, z, hb => by
    have ih := reach hO hn i (by omega)
    have hO' : OkP t i := hO.le (by omega)
    have hm := mT_le hO'
    have hbs := bg_spec hO'
    have ni : ¬ n ≤ i := by omega
    rcases okc_cases (hO i (by omega)) with ⟨c, -⟩ | ⟨c, c1⟩ | ⟨c, c1, c2⟩ | ⟨c, c1, c2, c3, c4, c5⟩
    · -- a digit
      obtain ⟨s1, s2, s3⟩ := sc_dg c
      obtain ⟨d, d1, d2, -, d3⟩ := dg_nat c
      rw [s1] at he
      rw [s2] at hb
      obtain ⟨q, r, g1, g2, g3, g4, g5, g6, g7⟩ := ih e he b l z hb
      have eb : bg0 t (i + 1) e = bg0 t i e := by unfold bg0; rw [s2]
      rw [eb]
      refine ⟨mstep t n q, r.tr (MTo.st rfl), ?_⟩
      have es : mstep t n q = (i + 1, (scT t i).1, ix (t i - 48), q.2.2.2.1, q.2.2.2.2.1, q.2.2.2.2.2) := by
        unfold mstep
        rw [g1, if_neg ni, if_pos c, g2]
      rw [es]
      unfold At
      rw [s1, s2, s3]
      refine ⟨rfl, rfl, ?_, g4, g5, g6, g7⟩
      show ix (t i - 48) = mT t (i + 1)
      unfold mT
      rw [s1, d3, ix_nI (by omega)]
      show d = if d = 0 then 1 else d
      rw [if_neg (by omega)]
    · -- a letter
      obtain ⟨s1, s2, s3⟩ := sc_lt c c1
      obtain ⟨v, v1, -, v2⟩ := lt_nat c1
      have n0 : ¬ isDg (t i) = true := by rw [c]; decide
      rw [s1] at he
      rw [s2] at hb
      obtain ⟨q, r, g1, g2, g3, g4, g5, g6, g7⟩ := ih e he b l z hb
      have eb : bg0 t (i + 1) e = bg0 t i e := by unfold bg0; rw [s2]
      rw [eb]
      refine ⟨mstep t n q, r.tr (MTo.st rfl), ?_⟩
      have es : mstep t n q = (i + 1, (scT t i).1, 1, q.2.2.2.1, q.2.2.2.2.1, itS q.2.2.2.2.2 (ix (t i - 97)) q.2.2.1) := by
        unfold mstep
        rw [g1, if_neg ni, if_neg n0, if_neg (lt_no c1).2.1, if_neg (lt_no c1).2.2, g2]
      have hle : (exT t i).2.1 e ≤ (exT t i).1.length := by
        rcases Nat.eq_zero_or_pos e with q0 | q0
        · rw [q0, ex_0]; omega
        · exact (hbs e q0 he).2.2.2.2.2.2
      rw [es]
      unfold At
      rw [s1, s2, s3]
      refine ⟨rfl, rfl, ?_, g4, g5, g6, ?_⟩
      · show 1 = mT t (i + 1)
        unfold mT
        rw [s1]
        rfl
      · show itS q.2.2.2.2.2 (ix (t i - 97)) q.2.2.1 = runZ z (((exT t i).1 ++ List.replicate (mT t i) (ix (t i - 97))).drop ((exT t i).2.1 e))
        rw [List.drop_append_of_le_length hle, runZ_app, ← g7, g3, runZ_rep]
    · -- an opening bracket
      obtain ⟨s1, s2, s3⟩ := sc_op c c1 c2
      have n0 : ¬ isDg (t i) = true := by rw [c]; decide
      have m1 : mT t (i + 1) = 1 := by unfold mT; rw [s1]; rfl
      have he : e ≤ (scT t i).1 + 1 := by rw [s1] at he; exact he
      by_cases q0 : e = (scT t i).1 + 1
      · subst q0
        have eb : bg0 t (i + 1) ((scT t i).1 + 1) = i + 1 := by unfold bg0; rw [if_neg (by omega), s2, updN_s]
        rw [eb]
        refine ⟨_, MTo.rf _, rfl, by rw [s1], m1.symm, fun k h1 h2 => ?_, fun _ _ => rfl, fun k h1 h2 => ?_, ?_⟩
        · rw [s1] at h2
          exact hb k h1 h2
        · rw [s1] at h2
          have h2 : k ≤ (scT t i).1 + 1 := h2
          omega
        · rw [s3]
          show z = runZ z ((exT t i).1.drop (updN (exT t i).2.1 ((scT t i).1 + 1) (exT t i).1.length ((scT t i).1 + 1)))
          rw [updN_s, List.drop_length]
          rfl
      · have he' : e ≤ (scT t i).1 := by omega
        obtain ⟨q, r, g1, g2, g3, g4, g5, g6, g7⟩ := ih e he' b l z (fun k h1 h2 => by rw [hb k h1 h2, s2, updN_n (by omega)])
        have eb : bg0 t (i + 1) e = bg0 t i e := by unfold bg0; rw [s2, updN_n (by omega)]
        rw [eb]
        refine ⟨mstep t n q, r.tr (MTo.st rfl), ?_⟩
        have es : mstep t n q = (i + 1, (scT t i).1 + 1, 1, upd q.2.2.2.1 ((scT t i).1 + 1) (nI (i + 1)), upd q.2.2.2.2.1 ((scT t i).1 + 1) (nI (mT t i) - 1), q.2.2.2.2.2) := by
          unfold mstep
          rw [g1, if_neg ni, if_neg n0, if_pos c2, g2, g3]
        rw [es]
        unfold At
        rw [s1, s2, s3]
        refine ⟨rfl, rfl, m1.symm, fun k h1 h2 => ?_, fun k h1 => ?_, fun k h1 h2 => ?_, ?_⟩
        · have h2 : k ≤ (scT t i).1 + 1 := h2
          by_cases x : k = (scT t i).1 + 1
          · subst x
            show upd _ _ _ _ = _
            rw [pk_us, updN_s]
          · show upd _ _ _ _ = _
            rw [pk_un x, updN_n x]
            exact g4 k h1 (by omega)
        · show upd _ _ _ _ = _
          rw [pk_un (by omega)]
          exact g5 k h1
        · have h2 : k ≤ (scT t i).1 + 1 := h2
          by_cases x : k = (scT t i).1 + 1
          · subst x
            show upd _ _ _ _ = nI (updN (exT t i).2.2 ((scT t i).1 + 1) (mT t i) ((scT t i).1 + 1) - 1)
            rw [pk_us, updN_s]
            exact pk_sub (a := mT t i) (b := 1) (by omega)
          · show upd _ _ _ _ = nI (updN (exT t i).2.2 ((scT t i).1 + 1) (mT t i) k - 1)
            rw [pk_un x, updN_n x]
            exact g6 k h1 (by omega)
        · show q.2.2.2.2.2 = runZ z ((exT t i).1.drop (updN (exT t i).2.1 ((scT t i).1 + 1) (exT t i).1.length e))
          rw [updN_n q0]
          exact g7
    · -- a closing bracket
      obtain ⟨s1, s2, s3⟩ := sc_cl c c1 c2
      have n0 : ¬ isDg (t i) = true := by rw [c]; decide
      have hd0 : (scT t i).2.1 = 0 := hm.2.2.2 c5
      have mi : mT t i = 1 := by unfold mT; rw [if_pos hd0]
      have m1 : mT t (i + 1) = 1 := by unfold mT; rw [s1]; rfl
      have he : e ≤ (scT t i).1 - 1 := by rw [s1] at he; exact he
      rw [s2] at hb
      obtain ⟨q, r, g1, g2, g3, g4, g5, g6, g7⟩ := ih e (by omega) b l z hb
      have eb : bg0 t (i + 1) e = bg0 t i e := by unfold bg0; rw [s2]
      rw [eb]
      obtain ⟨b1, b2, b3, b4, b5, b6, b7⟩ := hbs (scT t i).1 (by omega) (Nat.le_refl _)
      -- what is left of the block's rounds
      have key : ∀ (cc : Nat), cc ≤ 9 → ∀ (q : Mq), q.1 = i → q.2.1 = (scT t i).1 → q.2.2.1 = 1 → (∀ k : Nat, 1 ≤ k → k ≤ (scT t i).1 → q.2.2.2.1 k = nI (bgT t i k)) → q.2.2.2.2.1 (scT t i).1 = nI cc → ∃ q' : Mq, MTo t n q q' ∧ q'.1 = i + 1 ∧ q'.2.1 = (scT t i).1 - 1 ∧ q'.2.2.1 = 1 ∧ (∀ k : Nat, 1 ≤ k → k ≤ (scT t i).1 - 1 → q'.2.2.2.1 k = nI (bgT t i k)) ∧ (∀ k : Nat, k < (scT t i).1 → q'.2.2.2.2.1 k = q.2.2.2.2.1 k) ∧ q'.2.2.2.2.2 = runZ q.2.2.2.2.2 (cpN ((exT t i).1.drop ((exT t i).2.1 (scT t i).1)) cc) := by
        intro cc
        induction cc with
        | zero =>
          intro _ q f1 f2 f3 f4 f5
          have es : mstep t n q = (i + 1, (scT t i).1 - 1, 1, q.2.2.2.1, upd q.2.2.2.2.1 (scT t i).1 (q.2.2.2.2.1 (scT t i).1 - 1), q.2.2.2.2.2) := by
            unfold mstep
            rw [f1, if_neg ni, if_neg n0, if_neg c2, if_pos c3, f2, f3, f5, if_neg (by decide), if_pos (by decide)]
          refine ⟨mstep t n q, MTo.st rfl, by rw [es], by rw [es], by rw [es], fun k h1 h2 => by rw [es]; exact f4 k h1 (by omega), fun k h1 => ?_, by rw [es]; rfl⟩
          rw [es]
          show upd _ _ _ _ = _
          rw [pk_un (by omega)]
        | succ cc ihc =>
          intro hc9 q f1 f2 f3 f4 f5
          have es : mstep t n q = (bgT t i (scT t i).1, (scT t i).1, 1, q.2.2.2.1, upd q.2.2.2.2.1 (scT t i).1 (nI cc), q.2.2.2.2.2) := by
            have e1 : nI (cc + 1) - 1 = nI cc := nI_pred cc
            have e2 : (0 : Int32) < nI (cc + 1) := by rw [show (0 : Int32) = nI 0 from rfl, nI_ltI (by omega) (by omega)]; omega
            have e3 : ¬ nI cc < 0 := nI_pos (by omega)
            unfold mstep
            rw [f1, if_neg ni, if_neg n0, if_neg c2, if_pos c3, f2, f3, f5, e1, if_pos e2, if_neg e3, f4 _ (by omega) (Nat.le_refl _), ix_nI (by omega)]
            rfl
          obtain ⟨q2, r2, h1, h2, h3, h4, h5, h6, h7⟩ := ih (scT t i).1 (Nat.le_refl _) q.2.2.2.1 (upd q.2.2.2.2.1 (scT t i).1 (nI cc)) q.2.2.2.2.2 f4
          have eb2 : bg0 t i (scT t i).1 = bgT t i (scT t i).1 := by unfold bg0; rw [if_neg (by omega)]
          rw [eb2] at r2
          obtain ⟨q3, r3, k1, k2, k3, k4, k5, k6⟩ := ihc (by omega) q2 h1 h2 (by rw [h3, mi]) h4 (by rw [h5 _ (Nat.le_refl _), pk_us])
          refine ⟨q3, (MTo.st es).tr (r2.tr r3), k1, k2, k3, k4, fun k hk => ?_, ?_⟩
          · rw [k5 k hk, h5 k (by omega), pk_un (by omega)]
          · rw [k6, h7, ← runZ_app]
            congr 1
            have comm : ∀ (L : List Nat) (a : Nat), L ++ cpN L a = cpN L (a + 1) := by
              intro L a
              induction a with
              | zero => simp [cpN]
              | succ a iha => rw [cpN, ← List.append_assoc, iha]; rfl
            exact comm _ cc
      obtain ⟨q3, r3, k1, k2, k3, k4, k5, k6⟩ := key ((exT t i).2.2 (scT t i).1 - 1) (by omega) q g1 g2 (by rw [g3, mi]) g4 (g6 _ (by omega) (Nat.le_refl _))
      have hle : (exT t i).2.1 e ≤ (exT t i).1.length := by
        rcases Nat.eq_zero_or_pos e with q0 | q0
        · rw [q0, ex_0]; omega
        · exact (hbs e q0 (by omega)).2.2.2.2.2.2
      refine ⟨q3, r.tr r3, k1, by rw [s1]; exact k2, by rw [m1]; exact k3, fun k h1 h2 => ?_, fun k hk => ?_, fun k h1 h2 => ?_, ?_⟩
      · rw [s1] at h2
        rw [s2]
        exact k4 k h1 h2
      · rw [k5 k (by omega)]
        exact g5 k hk
      · rw [s1] at h2
        have h2 : k ≤ (scT t i).1 - 1 := h2
        rw [s3]
        show _ = nI ((exT t i).2.2 k - 1)
        rw [k5 k (by omega)]
        exact g6 k h1 (by omega)
      · rw [s3]
        show _ = runZ z (((exT t i).1 ++ cpN ((exT t i).1.drop ((exT t i).2.1 (scT t i).1)) ((exT t i).2.2 (scT t i).1 - 1)).drop ((exT t i).2.1 e))
        rw [List.drop_append_of_le_length hle, runZ_app, ← g7]
        exact k6
/-- what every state of the walk keeps -/
def Gd (t : Zf) (n : Nat) (q : Mq) : Prop := q.1 ≤ n ∧ q.2.1 = (scT t q.1).1 ∧ q.2.2.1 = mT t q.1 ∧ (∀ k : Nat, 1 ≤ k → k ≤ q.2.1 → q.2.2.2.1 k = nI (bgT t q.1 k) ∧ ∃ e : Nat, e ≤ 9 ∧ q.2.2.2.2.1 k = nI e) ∧ Inv q.2.2.2.2.2
theorem ms_cl {t : Zf} {n i dd m : Nat} {b l z : Zf} (ni : ¬ n ≤ i) (n0 : ¬ isDg (t i) = true) (c2 : ¬ t i = 40) (c3 : t i = 41) {x : Int32} (hx : l dd = x) : mstep t n (i, dd, m, b, l, z) = ((if 0 < x then ix (b dd) else i + 1), dd - (if x - 1 < 0 then 1 else 0), m, b, upd l dd (x - 1), z) := by
  subst hx
  unfold mstep
  rw [if_neg ni, if_neg n0, if_neg c2, if_pos c3]
theorem Gd.step {t : Zf} {n : Nat} {q : Mq} (hO : OkP t n) (hn : n < 2 ^ 20) (h : Gd t n q) : Gd t n (mstep t n q) := by
  obtain ⟨i, dd, m, b, l, z⟩ := q
  obtain ⟨g1, g2, g3, g4, g5⟩ := h
  have h1 : i ≤ n := g1
  have h2 : dd = (scT t i).1 := g2
  have h3 : m = mT t i := g3
  have h4 : ∀ k : Nat, 1 ≤ k → k ≤ dd → b k = nI (bgT t i k) ∧ ∃ e : Nat, e ≤ 9 ∧ l k = nI e := g4
  have h5 : Inv z := g5
  clear g1 g2 g3 g4 g5
  subst h2
  subst h3
  by_cases ni : n ≤ i
  · have es : mstep t n (i, (scT t i).1, mT t i, b, l, z) = (i, (scT t i).1, mT t i, b, l, z) := if_pos ni
    rw [es]
    exact ⟨h1, rfl, rfl, h4, h5⟩
  · have hO' : OkP t i := hO.le (by omega)
    have hm := mT_le hO'
    rcases okc_cases (hO i (by omega)) with ⟨c, -⟩ | ⟨c, c1⟩ | ⟨c, c1, c2⟩ | ⟨c, c1, c2, c3, c4, c5⟩
    · obtain ⟨s1, s2, s3⟩ := sc_dg c
      obtain ⟨d, d1, d2, -, d3⟩ := dg_nat c
      have es : mstep t n (i, (scT t i).1, mT t i, b, l, z) = (i + 1, (scT t i).1, ix (t i - 48), b, l, z) := by
        unfold mstep
        rw [if_neg ni, if_pos c]
      rw [es]
      refine ⟨by show i + 1 ≤ n; omega, by rw [s1], ?_, ?_, h5⟩
      · show ix (t i - 48) = mT t (i + 1)
        unfold mT
        rw [s1, d3, ix_nI (by omega)]
        show d = if d = 0 then 1 else d
        rw [if_neg (by omega)]
      · show ∀ k : Nat, 1 ≤ k → k ≤ (scT t i).1 → b k = nI (bgT t (i + 1) k) ∧ _
        rw [s2]
        exact h4
    · obtain ⟨s1, s2, s3⟩ := sc_lt c c1
      obtain ⟨v, v1, -, v2⟩ := lt_nat c1
      have n0 : ¬ isDg (t i) = true := by rw [c]; decide
      have es : mstep t n (i, (scT t i).1, mT t i, b, l, z) = (i + 1, (scT t i).1, 1, b, l, itS z (ix (t i - 97)) (mT t i)) := by
        unfold mstep
        rw [if_neg ni, if_neg n0, if_neg (lt_no c1).2.1, if_neg (lt_no c1).2.2]
      rw [es]
      refine ⟨by show i + 1 ≤ n; omega, by rw [s1], ?_, ?_, ?_⟩
      · show 1 = mT t (i + 1)
        unfold mT
        rw [s1]
        rfl
      · show ∀ k : Nat, 1 ≤ k → k ≤ (scT t i).1 → b k = nI (bgT t (i + 1) k) ∧ _
        rw [s2]
        exact h4
      · show Inv (itS z (ix (t i - 97)) (mT t i))
        rw [v2, ix_nI (by omega)]
        exact Inv.it v1 h5 _
    · obtain ⟨s1, s2, s3⟩ := sc_op c c1 c2
      have n0 : ¬ isDg (t i) = true := by rw [c]; decide
      have es : mstep t n (i, (scT t i).1, mT t i, b, l, z) = (i + 1, (scT t i).1 + 1, 1, upd b ((scT t i).1 + 1) (nI (i + 1)), upd l ((scT t i).1 + 1) (nI (mT t i) - 1), z) := by
        unfold mstep
        rw [if_neg ni, if_neg n0, if_pos c2]
      rw [es]
      refine ⟨by show i + 1 ≤ n; omega, by rw [s1], ?_, ?_, h5⟩
      · show 1 = mT t (i + 1)
        unfold mT
        rw [s1]
        rfl
      · show ∀ k : Nat, 1 ≤ k → k ≤ (scT t i).1 + 1 → upd b ((scT t i).1 + 1) (nI (i + 1)) k = nI (bgT t (i + 1) k) ∧ ∃ e : Nat, e ≤ 9 ∧ upd l ((scT t i).1 + 1) (nI (mT t i) - 1) k = nI e
        intro k k1 k2
        rw [s2]
        by_cases x : k = (scT t i).1 + 1
        · subst x
          rw [pk_us, pk_us, updN_s]
          exact ⟨rfl, mT t i - 1, by omega, pk_sub (a := mT t i) (b := 1) (by omega)⟩
        · rw [pk_un x, pk_un x, updN_n x]
          exact h4 k k1 (by omega)
    · obtain ⟨s1, s2, s3⟩ := sc_cl c c1 c2
      have n0 : ¬ isDg (t i) = true := by rw [c]; decide
      have hd0 : (scT t i).2.1 = 0 := hm.2.2.2 c5
      have mi : mT t i = 1 := by unfold mT; rw [if_pos hd0]
      have m1 : mT t (i + 1) = 1 := by unfold mT; rw [s1]; rfl
      obtain ⟨f1, e, e9, f2⟩ := h4 (scT t i).1 (by omega) (Nat.le_refl _)
      obtain ⟨b1, b2, b3, b4, -⟩ := bg_spec hO' (scT t i).1 (by omega) (Nat.le_refl _)
      rcases e with _ | e
      · have es : mstep t n (i, (scT t i).1, mT t i, b, l, z) = (i + 1, (scT t i).1 - 1, mT t i, b, upd l (scT t i).1 (nI 0 - 1), z) := by
          rw [ms_cl ni n0 c2 c3 f2, if_neg (by decide), if_pos (by decide)]
        rw [es]
        refine ⟨by show i + 1 ≤ n; omega, by rw [s1], by show mT t i = mT t (i + 1); rw [mi, m1], ?_, h5⟩
        show ∀ k : Nat, 1 ≤ k → k ≤ (scT t i).1 - 1 → b k = nI (bgT t (i + 1) k) ∧ ∃ e : Nat, e ≤ 9 ∧ upd l (scT t i).1 (nI 0 - 1) k = nI e
        intro k k1 k2
        rw [s2, pk_un (by omega)]
        exact h4 k k1 (by omega)
      · have es : mstep t n (i, (scT t i).1, mT t i, b, l, z) = (bgT t i (scT t i).1, (scT t i).1, mT t i, b, upd l (scT t i).1 (nI e), z) := by
          have e1 : nI (e + 1) - 1 = nI e := nI_pred e
          have e2 : (0 : Int32) < nI (e + 1) := by rw [show (0 : Int32) = nI 0 from rfl, nI_ltI (by omega) (by omega)]; omega
          have e3 : ¬ nI e < 0 := nI_pos (by omega)
          rw [ms_cl ni n0 c2 c3 f2, e1, if_pos e2, if_neg e3, f1, ix_nI (by omega)]
          rfl
        rw [es]
        refine ⟨by show bgT t i (scT t i).1 ≤ n; omega, b2.symm, ?_, ?_, h5⟩
        · show mT t i = mT t (bgT t i (scT t i).1)
          unfold mT
          rw [b3, hd0]
        · show ∀ k : Nat, 1 ≤ k → k ≤ (scT t i).1 → b k = nI (bgT t (bgT t i (scT t i).1) k) ∧ ∃ e' : Nat, e' ≤ 9 ∧ upd l (scT t i).1 (nI e) k = nI e'
          intro k k1 k2
          rw [b4 k k2]
          refine ⟨(h4 k k1 k2).1, ?_⟩
          by_cases x : k = (scT t i).1
          · subst x; rw [pk_us]; exact ⟨e, by omega, rfl⟩
          · rw [pk_un x]; exact (h4 k k1 k2).2
/-- the whole walk -/
theorem walk {t : Zf} {n : Nat} (hO : OkP t n) (hn : n < 2 ^ 20) (b l z : Zf) : ∃ (M : Nat) (q' : Mq), mrun t n M (0, 0, 1, b, l, z) = q' ∧ q'.1 = n ∧ q'.2.2.2.2.2 = runZ z (exT t n).1 := by
  obtain ⟨q, ⟨M, hM⟩, h1, h2, h3, h4, h5, h6, h7⟩ := reach hO hn n (Nat.le_refl n) 0 (Nat.zero_le _) b l z (fun k h1 h2 => by omega)
  refine ⟨M, q, hM, h1, ?_⟩
  rw [h7, ex_0]
  rfl
