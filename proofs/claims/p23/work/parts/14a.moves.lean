/-! what goes, draws and finishes do to the counts; one inside at most is kept -/
theorem st_60 {z : Zf} {v : Nat} (hv : v < 6) (h : Inv z) : stM z v 60 = z 60 := by
  have hW := h.wf
  obtain ⟨⟨m, g, h1, h2⟩, h3, h4⟩ := h
  cases hl : isLook z v with
  | true => exact look_lo hl (by omega)
  | false =>
    obtain ⟨m', g', k1, k2⟩ := LK_step hv h1 hl
    obtain ⟨s1, s2, -⟩ := stM_nl hv hW h1.1.1 h2.1 hl
    refine s2 ?_
    rcases k2 with ⟨r1, -⟩ | ⟨r1, r2, -⟩ | ⟨r1, -⟩
    · exact Or.inr (Or.inl r1)
    · exact Or.inl (by have := k1.1.1; omega)
    · exact Or.inr (Or.inr r1)
theorem n4 : ¬ (3 : Int32) = 4 := by decide
theorem n04 : ¬ (0 : Int32) = 4 := by decide
theorem G3.st {z : Zf} {v : Nat} (hv : v < 6) (h : Inv z) (hG : G3 z) : G3 (stM z v) := by
  intro k
  rw [st_60 hv h] at k
  obtain ⟨g1, g2⟩ := hG k
  cases hl : isLook z v with
  | true =>
    have e : ∀ j : Nat, j < 62 → stM z v j = z j := fun j hj => look_lo hl hj
    refine ⟨fun a b ha hb ea eb => ?_, fun e52 u hu => ?_⟩
    · rw [e a (by omega)] at ea
      rw [e b (by omega)] at eb
      exact g1 a b ha hb ea eb
    · rw [e u (by omega)]
      rw [e 52 (by omega)] at e52
      exact g2 e52 u hu
  | false =>
    have hW := h.wf
    obtain ⟨⟨m, g, hK, h2⟩, -, -⟩ := h
    obtain ⟨s1, -⟩ := stM_nl hv hW hK.1.1 h2.1 hl
    have hA : (∀ v : Nat, v < 6 → z v = 0 ∨ z v = 3 ∨ z v = 4) ∧ (z 52 = 0 ∨ z 52 = 1) := by
      rcases hK.2 with ⟨kk, -⟩ | ⟨kk, -⟩ | ⟨kk, -⟩ | ⟨kk, -, a1, a2, a3⟩
      · exact absurd (kk.symm.trans k) (by decide)
      · exact absurd (kk.symm.trans k) (by decide)
      · exact absurd (kk.symm.trans k) (by decide)
      · exact ⟨a2, a3.elim Or.inl (fun q => Or.inr q.1)⟩
    have ec : chM z v = chG z v := by
      unfold chM
      rw [k]
      rfl
    have e : ∀ j : Nat, j < 53 → stM z v j = chG z v j := fun j hj => by rw [s1 j hj, ec]
    have eu : ∀ u : Nat, u < 6 → u ≠ v → stM z v u = z u := fun u hu hne => by
      rw [e u (by omega)]
      unfold chG
      rw [pk_un (by omega), pk_un (by omega)]
    have ev : stM z v v = if z v = 0 then 3 else if z v = 3 then 4 else 0 := by
      rw [e v (by omega)]
      unfold chG
      rw [pk_us]
    have e5 : stM z v 52 = if z v = 0 then z 52 else if z v = 3 then 1 else 0 := by
      rw [e 52 (by omega)]
      unfold chG
      rw [pk_un (by omega), pk_us]
    have key : ∀ u : Nat, u < 6 → stM z v u = 4 → (u = v ∧ z v = 3) ∨ (u ≠ v ∧ z u = 4) := by
      intro u hu e4
      by_cases q : u = v
      · subst q
        rw [ev] at e4
        by_cases c0 : z u = 0
        · rw [if_pos c0] at e4
          exact absurd e4 n4
        · rw [if_neg c0] at e4
          by_cases c3 : z u = 3
          · exact Or.inl ⟨rfl, c3⟩
          · rw [if_neg c3] at e4
            exact absurd e4 n04
      · rw [eu u hu q] at e4
        exact Or.inr ⟨q, e4⟩
    have no3 : z v = 3 → ∀ u : Nat, u < 6 → ¬ z u = 4 := by
      intro c3
      refine g2 ?_
      rcases hA.2 with q | q
      · exact q
      · exfalso
        unfold isLook at hl
        rw [k, c3, q] at hl
        simp at hl
    refine ⟨fun a b ha hb ea eb => ?_, fun e52 u hu e4 => ?_⟩
    · rcases key a ha ea with ⟨a1, a2⟩ | ⟨a1, a2⟩
      · rcases key b hb eb with ⟨b1, b2⟩ | ⟨b1, b2⟩
        · omega
        · exact absurd b2 (no3 a2 b hb)
      · rcases key b hb eb with ⟨b1, b2⟩ | ⟨b1, b2⟩
        · exact absurd a2 (no3 b2 a ha)
        · exact g1 a b ha hb a2 b2
    · rcases key u hu e4 with ⟨a1, a2⟩ | ⟨a1, a2⟩
      · rw [e5, a2, if_neg (by decide), if_pos rfl] at e52
        exact absurd e52 (by decide)
      · rw [e5] at e52
        rcases hA.1 v hv with c | c | c
        · rw [if_pos c] at e52
          exact g2 e52 u hu a2
        · exact no3 c u hu a2
        · exact a1 (g1 u v hu hv a2 c)
theorem G3.to {z w : Zf} (h : G3 z) (e : ∀ j : Nat, j < 61 → w j = z j) : G3 w := by
  intro k
  rw [e 60 (by omega)] at k
  obtain ⟨g1, g2⟩ := h k
  refine ⟨fun a b ha hb ea eb => ?_, fun e52 u hu => ?_⟩
  · rw [e a (by omega)] at ea
    rw [e b (by omega)] at eb
    exact g1 a b ha hb ea eb
  · rw [e u (by omega)]
    rw [e 52 (by omega)] at e52
    exact g2 e52 u hu
theorem G3.x {z : Zf} (h : G3 z) (x : Int32) : G3 (upd z 61 x) := h.to (fun j hj => pk_un (by omega))
theorem G3.clr {z : Zf} {k : Nat} (hk : k < 4) : G3 (clrM z (nI k)) := by
  have t := (clr_lo (z := z) hk).1
  intro _
  refine ⟨fun a b ha hb ea eb => ?_, fun _ u hu e4 => ?_⟩
  · rw [(t a ha).1] at ea
    exact absurd ea n04
  · rw [(t u hu).1] at e4
    exact absurd e4 n04
theorem G3.it {z : Zf} {v : Nat} (hv : v < 6) (h : Inv z) (hG : G3 z) : ∀ n : Nat, G3 (itS z v n)
  | 0 => hG
  | n + 1 => G3.st hv (h.it hv n) (G3.it hv h hG n)
theorem Ct.it {z : Zf} {v B : Nat} (hv : v < 6) (h : Inv z) (hc : Ct z B) : ∀ n : Nat, Ct (itS z v n) (B + n)
  | 0 => hc
  | n + 1 => Ct.st hv (h.it hv n) (Ct.it hv h hc n)
theorem it_62 {z : Zf} {v : Nat} (hv : v < 6) (h : Inv z) : ∀ n : Nat, itS z v n (62 + v) = z (62 + v) + nI n
  | 0 => (Int32.add_zero _).symm
  | n + 1 => by
    show stM (itS z v n) v (62 + v) = _
    rw [stM_hi hv (h.it hv n) (by omega), dS_62 hv hv, if_pos rfl, it_62 hv h n, Int32.add_assoc]
    exact congrArg _ (nI_add n 1)
theorem it_68 {z : Zf} {v : Nat} (hv : v < 6) (h : Inv z) : ∀ n : Nat, (∀ j : Nat, j < n → isLook (itS z v j) v = false) → sumZ (itS z v n) 68 6 = sumZ z 68 6
  | 0, _ => rfl
  | n + 1, hl => by
    show sumZ (stM (itS z v n) v) 68 6 = _
    rw [sum_68 hv (h.it hv n), hl n (by omega), it_68 hv h n (fun j hj => hl j (by omega))]
    exact Int32.add_zero _
theorem rk_4 {s : Int32} (h : rk s = 4) : s = 4 := by
  unfold rk at h
  repeat' split at h
  all_goals first | assumption | omega
/-- where a go stops: after seven steps at most -/
theorem go_lt {z : Zf} {v N : Nat} (hv : v < 6) (h : Inv z) (hl : isLook z v = false) (hN : GoC z v N) : 0 < N ∧ N < 8 ∧ stp (itS z v N) v = true ∧ ∀ j : Nat, j < N → isLook (itS z v j) v = false := by
  obtain ⟨⟨h1, h2, h3, h4⟩, h5⟩ := hN
  have hs : ∀ j : Nat, 0 < j → j < N → ¬ itS z v j v = 4 ∧ ¬ itS z v j v = 0 ∧ isLook (itS z v j) v = false := by
    intro j hj hjN
    have t := h4 j hj (by omega)
    rw [decide_eq_false (by omega)] at t
    unfold stp at t
    simp only [Bool.or_eq_false_iff, decide_eq_false_iff_not] at t
    exact ⟨t.1.1, t.1.2, t.2⟩
  have hlk : ∀ j : Nat, j < N → isLook (itS z v j) v = false := by
    intro j hj
    rcases Nat.eq_zero_or_pos j with q | q
    · subst q
      exact hl
    · exact (hs j q hj).2.2
  have hr : ∀ j : Nat, 0 < j → j < N → rk (itS z v (j + 1) v) < rk (itS z v j v) ∧ ¬ rk (itS z v j v) = 4 ∧ 0 < rk (itS z v j v) := by
    intro j hj hjN
    obtain ⟨a, b, c⟩ := hs j hj hjN
    refine ⟨?_, fun q => a (rk_4 q), ?_⟩
    · have t := rk_step hv (h.it hv j).wc b
      rw [← (h.it hv j).stv hv hv c] at t
      exact t
    · rcases Nat.eq_zero_or_pos (rk (itS z v j v)) with q | q
      · exact absurd (rk_0.mp q) b
      · exact q
  refine ⟨h1, ?_, ?_, hlk⟩
  · by_cases q : N < 8
    · exact q
    · exfalso
      have r0 := rk_le (itS z v 1 v)
      have r1 : rk (itS z v 2 v) < rk (itS z v 1 v) ∧ ¬ rk (itS z v 1 v) = 4 ∧ 0 < rk (itS z v 1 v) := hr 1 (by omega) (by omega)
      have r2 : rk (itS z v 3 v) < rk (itS z v 2 v) ∧ ¬ rk (itS z v 2 v) = 4 ∧ 0 < rk (itS z v 2 v) := hr 2 (by omega) (by omega)
      have r3 : rk (itS z v 4 v) < rk (itS z v 3 v) ∧ ¬ rk (itS z v 3 v) = 4 ∧ 0 < rk (itS z v 3 v) := hr 3 (by omega) (by omega)
      have r4 : rk (itS z v 5 v) < rk (itS z v 4 v) ∧ ¬ rk (itS z v 4 v) = 4 ∧ 0 < rk (itS z v 4 v) := hr 4 (by omega) (by omega)
      have r5 : rk (itS z v 6 v) < rk (itS z v 5 v) ∧ ¬ rk (itS z v 5 v) = 4 ∧ 0 < rk (itS z v 5 v) := hr 5 (by omega) (by omega)
      have r6 : rk (itS z v 7 v) < rk (itS z v 6 v) ∧ ¬ rk (itS z v 6 v) = 4 ∧ 0 < rk (itS z v 6 v) := hr 6 (by omega) (by omega)
      have r7 : rk (itS z v 8 v) < rk (itS z v 7 v) ∧ ¬ rk (itS z v 7 v) = 4 ∧ 0 < rk (itS z v 7 v) := hr 7 (by omega) (by omega)
      omega
  · rw [h4 N h1 (Nat.le_refl N)]
    exact decide_eq_true rfl
/-! draws -/
theorem pick_bit {x r : Int32} {v : Nat} (hv : v < 2 ^ 31) : ∀ {n : Nat}, n < 2 ^ 31 → pickM x r n = nI v → bitM x v = 1
  | 0, _, h => absurd h.symm (nI_m5 hv)
  | n + 1, hn, h => by
    simp only [pickM] at h
    by_cases c : bitM x n = 1 ∧ bitsM x n = r
    · rw [if_pos c] at h
      have e := nI_inj (by omega) hv h
      subst e
      exact c.1
    · rw [if_neg c] at h
      exact pick_bit hv (by omega) h
theorem dr_st {z : Zf} {k : Nat} (hk : k < 64) (h0 : 0 < k) (h : Inv z) (n : Nat) : ∃ (v : Nat) (q : Int32), v < 6 ∧ bitM (nI k) v = 1 ∧ Inv (upd (drZ z (nI k) n) 61 q) ∧ drZ z (nI k) (n + 1) = stM (upd (drZ z (nI k) n) 61 q) v := by
  have t := Inv.dr hk h0 h n
  obtain ⟨s, r, v, h1, h2, h3, h4, h5, h6, h7⟩ := lot_ok hk h0 t.2.1
  obtain ⟨m, hm, em⟩ := lcg_nat t.2.1
  refine ⟨v, lcg (drZ z (nI k) n 61), h6, pick_bit (by omega) (by omega) h7, t.x (by rw [em]; exact nI_pos hm), ?_⟩
  have ev : ix (lotM (nI k) (drZ z (nI k) n 61)) = v := by unfold lotM; rw [h4, h7, ix_nI (by omega)]
  show stM _ _ = _
  rw [ev]
theorem up_hi {z : Zf} {q : Int32} {j : Nat} (hj : 62 ≤ j) : upd z 61 q j = z j := pk_un (by omega)
theorem sum_x (z : Zf) (q : Int32) {c : Nat} (hc : 62 ≤ c) : sumZ (upd z 61 q) c 6 = sumZ z c 6 := by
  simp only [sumZ]
  rw [up_hi (by omega), up_hi (by omega), up_hi (by omega), up_hi (by omega), up_hi (by omega), up_hi (by omega)]
theorem dr_62 {z : Zf} {k : Nat} (hk : k < 64) (h0 : 0 < k) (h : Inv z) : ∀ n : Nat, sumZ (drZ z (nI k) n) 62 6 = sumZ z 62 6 + nI n
  | 0 => (Int32.add_zero _).symm
  | n + 1 => by
    obtain ⟨v, q, h1, h2, h3, h4⟩ := dr_st hk h0 h n
    rw [h4, sum_62 h1 h3, sum_x _ _ (by omega), dr_62 hk h0 h n, Int32.add_assoc]
    exact congrArg _ (nI_add n 1)
theorem dr_74 {z : Zf} {k : Nat} (hk : k < 64) (h0 : 0 < k) (h : Inv z) : ∀ n : Nat, ∃ t : Nat, t ≤ n ∧ sumZ (drZ z (nI k) n) 74 6 = sumZ z 74 6 + nI t
  | 0 => ⟨0, Nat.le_refl 0, (Int32.add_zero _).symm⟩
  | n + 1 => by
    obtain ⟨v, q, h1, h2, h3, h4⟩ := dr_st hk h0 h n
    obtain ⟨t, ht, e⟩ := dr_74 hk h0 h n
    rw [h4, sum_74 h1 h3, sum_x _ _ (by omega), e, Int32.add_assoc]
    split
    · exact ⟨t + 1, by omega, congrArg _ (nI_add t 1)⟩
    · exact ⟨t, by omega, congrArg _ (Int32.add_zero _)⟩
theorem dr_oth {z : Zf} {k : Nat} (hk : k < 64) (h0 : 0 < k) (h : Inv z) {u : Nat} (hu : u < 6) (hb : bitM (nI k) u = 0) : ∀ n : Nat, drZ z (nI k) n (62 + u) = z (62 + u)
  | 0 => rfl
  | n + 1 => by
    obtain ⟨v, q, h1, h2, h3, h4⟩ := dr_st hk h0 h n
    have hne : ¬ u = v := fun e => by
      subst e
      exact absurd (hb.symm.trans h2) (by decide)
    rw [h4, stM_hi h1 h3 (by omega), dS_62 h1 hu, if_neg hne, up_hi (by omega), dr_oth hk h0 h hu hb n]
    exact Int32.add_zero _
theorem Ct.x {z : Zf} {B : Nat} (h : Ct z B) (q : Int32) : Ct (upd z 61 q) B := h.to (fun j hj => up_hi hj)
theorem Gd.dr {z : Zf} {k B : Nat} (hk : k < 64) (h0 : 0 < k) (h : Inv z) (hG : G3 z) (hc : Ct z B) : ∀ n : Nat, G3 (drZ z (nI k) n) ∧ Ct (drZ z (nI k) n) (B + n)
  | 0 => ⟨hG, hc⟩
  | n + 1 => by
    obtain ⟨v, q, h1, h2, h3, h4⟩ := dr_st hk h0 h n
    obtain ⟨a, b⟩ := Gd.dr hk h0 h hG hc n
    rw [h4]
    exact ⟨G3.st h1 h3 (a.x q), Ct.st h1 h3 (b.x q)⟩
/-! all come back -/
theorem rd_st {z : Zf} (h : Inv z) {i : Nat} (hi : i < 6) : (rdZ z i i = 0 ∧ rdZ z (i + 1) = rdZ z i) ∨ (¬ rdZ z i i = 0 ∧ rdZ z (i + 1) = stM (rdZ z i) i) := by
  by_cases c : rdZ z i i = 0
  · exact Or.inl ⟨c, by simp only [rdZ]; rw [if_pos c]⟩
  · exact Or.inr ⟨c, by simp only [rdZ]; rw [if_neg c]⟩
/-- since z: steps up to B more, one inside, each that was there is back once or is still there -/
def Bk (z y : Zf) (T : Nat) : Prop := (∃ t : Nat, t ≤ T ∧ sumZ y 62 6 = sumZ z 62 6 + nI t) ∧ G3 y ∧ (∀ B : Nat, Ct z B → Ct y (B + T)) ∧ ∀ v : Nat, v < 6 → (y v = 0 ∧ y (74 + v) = z (74 + v) + (if z v = 0 then 0 else 1)) ∨ ((¬ y v = 0) ∧ (¬ z v = 0) ∧ y (74 + v) = z (74 + v))
theorem Bk.le {z y : Zf} {T U : Nat} (h : Bk z y T) (hU : T ≤ U) : Bk z y U := by
  obtain ⟨⟨t, h1, h2⟩, h3, h4, h5⟩ := h
  exact ⟨⟨t, by omega, h2⟩, h3, fun B hB => (h4 B hB).le (by omega), h5⟩
theorem Bk.st {z y : Zf} {T u : Nat} (hu : u < 6) (hy : Inv y) (h0 : ¬ y u = 0) (h : Bk z y T) : Bk z (stM y u) (T + 1) := by
  obtain ⟨⟨t, h1, h2⟩, h3, h4, h5⟩ := h
  refine ⟨⟨t + 1, by omega, ?_⟩, G3.st hu hy h3, fun B hB => (Ct.st hu hy (h4 B hB)), fun v hv => ?_⟩
  · rw [sum_62 hu hy, h2, Int32.add_assoc]
    exact congrArg _ (nI_add t 1)
  · have e := stM_hi hu hy (show 62 ≤ 74 + v by omega)
    rw [dS_74 hu hv] at e
    by_cases q : v = u
    · subst q
      rw [if_pos rfl] at e
      rcases h5 v hv with ⟨a, -⟩ | ⟨a, b, c⟩
      · exact absurd a h0
      · rw [c] at e
        by_cases s0 : stM y v v = 0
        · rw [if_pos s0] at e
          exact Or.inl ⟨s0, by rw [e, if_neg b]⟩
        · rw [if_neg s0, Int32.add_zero] at e
          exact Or.inr ⟨s0, b, e⟩
    · rw [if_neg q, Int32.add_zero] at e
      rw [e, st_oth hu hv q hy]
      exact h5 v hv
theorem Bk.rd {z y : Zf} {T : Nat} (hy : Inv y) (h : Bk z y T) : ∀ i : Nat, i ≤ 6 → Bk z (rdZ y i) (T + i)
  | 0, _ => h
  | i + 1, hi => by
    have ih := Bk.rd hy h i (by omega)
    rcases rd_st hy (show i < 6 by omega) with ⟨a, b⟩ | ⟨a, b⟩
    · rw [b]
      exact ih.le (by omega)
    · rw [b]
      exact ih.st (by omega) (hy.rd i (by omega)) a
theorem Bk.fr {z : Zf} (h : Inv z) (hG : G3 z) : ∀ n : Nat, Bk z (frZ z n) (6 * n)
  | 0 => ⟨⟨0, Nat.le_refl 0, (Int32.add_zero _).symm⟩, hG, fun B hB => hB, fun v hv => by
      by_cases c : z v = 0
      · exact Or.inl ⟨c, by rw [if_pos c]; exact (Int32.add_zero _).symm⟩
      · exact Or.inr ⟨c, c, rfl⟩⟩
  | n + 1 => by
    have t := Bk.rd (h.fr n) (Bk.fr h hG n) 6 (by omega)
    exact t.le (by omega)
/-- the end of a finish -/
theorem fin_all {z : Zf} {N : Nat} (h : Inv z) (hG : G3 z) (hN : FiC z N) : ∃ t : Nat, t ≤ 6000 ∧ finA z N = nI t ∧ sumZ (frZ z N) 62 6 = sumZ z 62 6 + nI t ∧ sumZ (frZ z N) 74 6 = sumZ z 74 6 + cntZ z 6 ∧ cntZ (frZ z N) 6 = 0 ∧ insM (frZ z N) 6 = -5 ∧ lineA (frZ z N) 0 = -5 ∧ G3 (frZ z N) ∧ ∀ B : Nat, Ct z B → Ct (frZ z N) (B + 6000) := by
  obtain ⟨⟨t, h1, h2⟩, h3, h4, h5⟩ := Bk.fr h hG N
  have hN1 := hN.1.1
  have c0 : cntZ (frZ z N) 6 = 0 := cnt_nul hN.1.2.2.2
  have s0 := cnt_zero.mp c0
  refine ⟨t, by omega, ?_, h2, ?_, c0, insM_none (fun j hj e => absurd ((s0 j hj).symm.trans e) n04), ?_, h3, fun B hB => (h4 B hB).le (by omega)⟩
  · unfold finA
    rw [h2]
    grind
  · have e : ∀ v : Nat, v < 6 → frZ z N (74 + v) = z (74 + v) + (if z v = 0 then 0 else 1) := fun v hv => by
      rcases h5 v hv with ⟨a, b⟩ | ⟨a, b, c⟩
      · exact b
      · exact absurd (s0 v hv) a
    simp only [sumZ, cntZ]
    rw [e 0 (by omega), e 1 (by omega), e 2 (by omega), e 3 (by omega), e 4 (by omega), e 5 (by omega)]
    generalize (if z 0 = 0 then (0 : Int32) else 1) = a0
    generalize (if z 1 = 0 then (0 : Int32) else 1) = a1
    generalize (if z 2 = 0 then (0 : Int32) else 1) = a2
    generalize (if z 3 = 0 then (0 : Int32) else 1) = a3
    generalize (if z 4 = 0 then (0 : Int32) else 1) = a4
    generalize (if z 5 = 0 then (0 : Int32) else 1) = a5
    grind
  · obtain ⟨⟨m, g, hK, hL⟩, -, -⟩ := h.fr N
    have hm := hK.away s0
    unfold lineA
    rw [hL.1, hm, if_neg (by decide), if_neg (by decide)]
