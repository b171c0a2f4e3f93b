/-! the rows of both sides -/
def Rel (F z : Zf) (N : Nat) (Z : Nat → Zf) (bk : Zf) : Prop := ∀ k : Nat, k < N → Z k = tkZ F z k ∧ bk k = F (55 * k + 53) + 2 * F (55 * k + 53 + 1)
theorem bk_eq {a b c d : Int32} (ha : a = 0 ∨ a = 1) (hb : b = 0 ∨ b = 1) (hc : c = 0 ∨ c = 1) (hd : d = 0 ∨ d = 1) : a + 2 * b = c + 2 * d ↔ a = c ∧ b = d := by
  rcases ha with rfl | rfl <;> rcases hb with rfl | rfl <;> rcases hc with rfl | rfl <;> rcases hd with rfl | rfl <;> decide
theorem bk_1 {a b : Int32} (ha : a = 0 ∨ a = 1) (hb : b = 0 ∨ b = 1) : (a + 2 * b) &&& 1 = 0 ↔ a = 0 := by
  rcases ha with rfl | rfl <;> rcases hb with rfl | rfl <;> decide
theorem bk_2 {a b : Int32} (ha : a = 0 ∨ a = 1) (hb : b = 0 ∨ b = 1) : (a + 2 * b) &&& 2 = 0 ↔ b = 0 := by
  rcases ha with rfl | rfl <;> rcases hb with rfl | rfl <;> decide
theorem bk_3 {a b : Int32} (ha : a = 0 ∨ a = 1) (hb : b = 0 ∨ b = 1) : (a + 2 * b = 3) ↔ (a = 1 ∧ b = 1) := by
  rcases ha with rfl | rfl <;> rcases hb with rfl | rfl <;> decide
theorem bk_o1 {b : Int32} (hb : b = 0 ∨ b = 1) (q : Prop) [Decidable q] : (if q then (0 + 2 * b) ||| 1 else 0 + 2 * b) = bI (decide q) + 2 * b := by
  by_cases h : q
  · rw [if_pos h, decide_eq_true h]
    rcases hb with rfl | rfl <;> decide
  · rw [if_neg h, decide_eq_false h]
    rcases hb with rfl | rfl <;> decide
theorem bk_o2 {a : Int32} (ha : a = 0 ∨ a = 1) (q : Prop) [Decidable q] : (if q then (a + 2 * 0) ||| 2 else a + 2 * 0) = a + 2 * bI (decide q) := by
  by_cases h : q
  · rw [if_pos h, decide_eq_true h]
    rcases ha with rfl | rfl <;> decide
  · rw [if_neg h, decide_eq_false h]
    rcases ha with rfl | rfl <;> decide
theorem smI_iff {F y : Zf} {k : Nat} : ∀ {n : Nat}, smI F y k n = true ↔ ∀ i : Nat, i < n → F (55 * k + i) = y i
  | 0 => ⟨fun _ i hi => absurd hi (Nat.not_lt_zero i), fun _ => rfl⟩
  | n + 1 => by
    simp only [smI, Bool.and_eq_true, decide_eq_true_eq]
    rw [smI_iff (n := n)]
    constructor
    · intro ⟨h1, h2⟩ i hi
      by_cases e : i = n
      · rw [e]; exact h2
      · exact h1 i (by omega)
    · intro h1
      exact ⟨fun i hi => h1 i (by omega), h1 n (by omega)⟩
theorem same_row {F z y : Zf} {k : Nat} (hy : ∃ (m : Nat) (g : Nat → Nat), LK y m g) (hr : ∃ (m : Nat) (g : Nat → Nat), LK (tkZ F z k) m g) (h60 : y 60 = z 60) : sameE y (tkZ F z k) = smI F y k 53 := by
  obtain ⟨m, g, h1⟩ := hy
  obtain ⟨m', g', h2⟩ := hr
  have e60 : y 60 = tkZ F z k 60 := by rw [tkZ_hi (by omega)]; exact h60
  cases e : smI F y k 53
  · refine sameE_f (fun q => ?_)
    have t : smI F y k 53 = true := smI_iff.mpr (fun i hi => by
      have := enc_inj h1 h2 e60 q hi
      rw [tkZ_lo hi] at this
      exact this.symm)
    rw [e] at t
    cases t
  · refine sameE_t (enc_congr2 (fun j hj => ?_) e60)
    rw [tkZ_lo hj]
    exact (smI_iff.mp e j hj).symm
theorem rel_known {F z y : Zf} {Z : Nat → Zf} {bk : Zf} {bo bt : Int32} {N : Nat} (hO : RowsOk F z N) (hY : ∃ (m : Nat) (g : Nat → Nat), LK y m g) (h60 : y 60 = z 60) (hbo : bo = 0 ∨ bo = 1) (hbt : bt = 0 ∨ bt = 1) : ∀ {n : Nat}, n ≤ N → Rel F z N Z bk → xHas Z bk y (bo + 2 * bt) n = hasB F y bo bt n
  | 0, _, _ => rfl
  | n + 1, hn, hR => by
    simp only [xHas, hasB]
    rw [rel_known hO hY h60 hbo hbt (by omega) hR]
    obtain ⟨r1, r2⟩ := hR n (by omega)
    obtain ⟨o1, o2, o3⟩ := hO n (by omega)
    congr 1
    rw [r1, r2, same_row hY o1 h60]
    show _ = (decide (F (55 * n + 53) = bo) && decide (F (55 * n + 53 + 1) = bt) && smI F y n 53)
    congr 1
    rw [← Bool.decide_and]
    exact decide_eq_decide.mpr (bk_eq o2 o3 hbo hbt)
theorem rel_col {F z y : Zf} {Z : Nat → Zf} {bk : Zf} {bo bt : Int32} {n : Nat} (hR : Rel F z n Z bk) (hy : ∀ j : Nat, 53 ≤ j → y j = z j) : Rel (colF F y bo bt n) z (n + 1) (updZ Z n y) (upd bk n (bo + 2 * bt)) := by
  intro k hk
  by_cases e : k = n
  · subst e
    rw [updZ_s, pk_us]
    refine ⟨?_, ?_⟩
    · funext j
      rcases Nat.lt_or_ge j 53 with q | q
      · rw [tkZ_lo q]
        unfold colF
        rw [pk_un (by omega), pk_un (by omega)]
        simp only [va_cpy]
        rw [if_pos (by omega)]
        congr 1; omega
      · rw [tkZ_hi q]; exact hy j q
    · unfold colF
      rw [pk_us, pk_un (show 55 * k + 53 ≠ 55 * k + 53 + 1 by omega), pk_us]
  · have hkn : k < n := by omega
    rw [updZ_n e, pk_un e]
    have row : ∀ i : Nat, i < 55 → colF F y bo bt n (55 * k + i) = F (55 * k + i) := by
      intro i hi
      simp only [colF, upd, va_cpy]
      rw [if_neg (by omega), if_neg (by omega), if_neg (by omega)]
    refine ⟨?_, ?_⟩
    · rw [(hR k hkn).1]
      exact (tk_row (fun i hi => row i (by omega)) (fun _ _ => rfl)).symm
    · rw [row 53 (by omega), show 55 * k + 53 + 1 = 55 * k + 54 by omega, row 54 (by omega)]
      exact (hR k hkn).2
/-- a step's row is added, or is known -/
theorem rel_add {F z y : Zf} {Z : Nat → Zf} {bk : Zf} {bo bt : Int32} {n : Nat} (hO : RowsOk F z n) (hR : Rel F z n Z bk) (hn : n ≤ 300) (hY : ∃ (m : Nat) (g : Nat → Nat), LK y m g) (hy : ∀ j : Nat, 53 ≤ j → y j = z j) (hbo : bo = 0 ∨ bo = 1) (hbt : bt = 0 ∨ bt = 1) :
    (!(!xHas Z bk y (bo + 2 * bt) n) || decide (n < 300)) = colB F y bo bt n ∧ (if (!xHas Z bk y (bo + 2 * bt) n) = true then xn n else n) = colN F y bo bt n ∧ Rel (colR F y bo bt n) z (colN F y bo bt n) (if (!xHas Z bk y (bo + 2 * bt) n) = true then xZ Z n y else Z) (if (!xHas Z bk y (bo + 2 * bt) n) = true then xB bk n (bo + 2 * bt) else bk) := by
  rw [rel_known hO hY (hy 60 (by omega)) hbo hbt (Nat.le_refl n) hR]
  unfold colB colN colR
  cases e : hasB F y bo bt n
  · simp only [Bool.not_false, Bool.not_true, Bool.false_or, Bool.false_eq_true, ↓reduceIte]
    by_cases q : n = 300
    · subst q
      exact ⟨rfl, rfl, hR⟩
    · have q2 : n < 300 := by omega
      rw [if_neg q, if_neg q, decide_eq_true q2, decide_eq_false q]
      refine ⟨rfl, if_pos q2, ?_⟩
      unfold xZ xB
      rw [if_pos q2, if_pos q2]
      exact rel_col hR hy
  · simp only [Bool.not_true, Bool.not_false, Bool.true_or, Bool.false_eq_true, ↓reduceIte]
    exact ⟨trivial, trivial, hR⟩
/-- nothing is added -/
theorem fo_no {Z : Nat → Zf} {bk : Zf} {n i v : Nat} {bt : Int32} (h : foC Z bk n i v bt = false) : foK Z bk n i v bt = true ∧ foN Z bk n i v bt = n ∧ foZ Z bk n i v bt = Z ∧ foB Z bk n i v bt = bk := by
  unfold foK foN foZ foB
  rw [h]
  exact ⟨rfl, rfl, rfl, rfl⟩
theorem fo_look {Z : Nat → Zf} {bk : Zf} {n i v : Nat} {bt : Int32} (hi : i < n) (hl : isLook (Z i) v = true) : foC Z bk n i v bt = false := by
  have e1 : xW Z i v = Z i := if_pos hl
  have e2 : xb Z bk i v bt = bk i := by unfold xb; rw [e1, if_neg (look_st hl)]
  unfold foC
  rw [e1, e2, xHas_of hi rfl (sameE_t rfl)]
  simp
theorem fo_back {Z : Nat → Zf} {bk : Zf} {n i v : Nat} {bt : Int32} (h : ¬ bk i &&& bt = 0) : foC Z bk n i v bt = false := by
  unfold foC
  rw [decide_eq_false h]
  rfl
theorem row_hi {F z : Zf} {k v : Nat} (h : ∃ (m : Nat) (g : Nat → Nat), LK (tkZ F z k) m g) (h53 : ∃ m : Nat, m ≤ 6 ∧ z 53 = nI m) (hv : v < 6) : ∀ j : Nat, 53 ≤ j → chM (tkZ F z k) v j = z j := by
  intro j hj
  obtain ⟨m, g, hm⟩ := h
  have hW : Wf (tkZ F z k) := hm.wf (by rw [tkZ_hi (by omega)]; exact h53)
  rw [chM_hi hW hv hj, tkZ_hi hj]
theorem fol_1 {F z : Zf} {Z : Nat → Zf} {bk : Zf} {n i a : Nat} (hO : RowsOk F z n) (hR : Rel F z n Z bk) (hn : n ≤ 300) (h53 : ∃ m : Nat, m ≤ 6 ∧ z 53 = nI m) (hi : i < n) (ha : a < 6) :
    foK Z bk n i a 1 = fK1 F (tkZ F z i) i a n ∧ foN Z bk n i a 1 = fN1 F (tkZ F z i) i a n ∧ Rel (fF1 F (tkZ F z i) i a n) z (fN1 F (tkZ F z i) i a n) (foZ Z bk n i a 1) (foB Z bk n i a 1) := by
  obtain ⟨r1, r2⟩ := hR i hi
  obtain ⟨o1, o2, o3⟩ := hO i hi
  unfold fK1 fN1 fF1
  by_cases c : flA F (tkZ F z i) i a 53 = true
  · rw [if_pos c, if_pos c, if_pos c]
    simp only [flA, Bool.and_eq_true, decide_eq_true_eq, Bool.not_eq_true'] at c
    obtain ⟨c1, c2⟩ := c
    have c3 : isLook (Z i) a = false := by rw [r1]; exact c2
    have e1 : xW Z i a = chM (tkZ F z i) a := by unfold xW; rw [c3, r1]; rfl
    have b1 : bk i &&& 1 = 0 := by rw [r2]; exact (bk_1 o2 o3).mpr c1
    have e2 : xb Z bk i a 1 = flb (tkZ F z i) a + 2 * F (55 * i + 53 + 1) := by
      unfold xb
      rw [e1, r2, c1]
      exact bk_o1 o3 _
    have t := row_ch o1 h53 ha c2
    have k := rel_add (bo := flb (tkZ F z i) a) (bt := F (55 * i + 53 + 1)) hO hR hn t.1 (row_hi o1 h53 ha) (flb_01 _ _) o3
    have eC : foC Z bk n i a 1 = !xHas Z bk (chM (tkZ F z i) a) (flb (tkZ F z i) a + 2 * F (55 * i + 53 + 1)) n := by
      unfold foC
      rw [e1, e2, decide_eq_true b1]
      rfl
    unfold foK foN foZ foB
    rw [eC, e1, e2]
    exact k
  · rw [if_neg c, if_neg c, if_neg c]
    have hC : foC Z bk n i a 1 = false := by
      by_cases q : F (55 * i + 53) = 0
      · refine fo_look hi ?_
        rw [r1]
        cases e : isLook (tkZ F z i) a
        · exact absurd (by simp [flA, q, e]) c
        · rfl
      · exact fo_back (fun e => q ((bk_1 o2 o3).mp (by rw [← r2]; exact e)))
    obtain ⟨k1, k2, k3, k4⟩ := fo_no hC
    rw [k1, k2, k3, k4]
    exact ⟨rfl, rfl, hR⟩
theorem fol_2 {F z : Zf} {Z : Nat → Zf} {bk : Zf} {n i b : Nat} {t0 : Zf} {bo : Int32} (hO : RowsOk F z n) (hR : Rel F z n Z bk) (hn : n ≤ 300) (h53 : ∃ m : Nat, m ≤ 6 ∧ z 53 = nI m) (hi : i < n) (hb : b < 6) (ht : t0 = tkZ F z i) (hbo : bo = F (55 * i + 53)) :
    foK Z bk n i b 2 = (if (decide (F (55 * i + 53 + 1) = 0) && !isLook t0 b) = true then colB F (chM t0 b) bo (flb t0 b) n else true) ∧ foN Z bk n i b 2 = (if (decide (F (55 * i + 53 + 1) = 0) && !isLook t0 b) = true then colN F (chM t0 b) bo (flb t0 b) n else n) ∧ Rel (if (decide (F (55 * i + 53 + 1) = 0) && !isLook t0 b) = true then colR F (chM t0 b) bo (flb t0 b) n else F) z (if (decide (F (55 * i + 53 + 1) = 0) && !isLook t0 b) = true then colN F (chM t0 b) bo (flb t0 b) n else n) (foZ Z bk n i b 2) (foB Z bk n i b 2) := by
  subst ht
  subst hbo
  obtain ⟨r1, r2⟩ := hR i hi
  obtain ⟨o1, o2, o3⟩ := hO i hi
  by_cases c : (decide (F (55 * i + 53 + 1) = 0) && !isLook (tkZ F z i) b) = true
  · rw [if_pos c, if_pos c, if_pos c]
    simp only [Bool.and_eq_true, decide_eq_true_eq, Bool.not_eq_true'] at c
    obtain ⟨c1, c2⟩ := c
    have c3 : isLook (Z i) b = false := by rw [r1]; exact c2
    have e1 : xW Z i b = chM (tkZ F z i) b := by unfold xW; rw [c3, r1]; rfl
    have b1 : bk i &&& 2 = 0 := by rw [r2]; exact (bk_2 o2 o3).mpr c1
    have e2 : xb Z bk i b 2 = F (55 * i + 53) + 2 * flb (tkZ F z i) b := by
      unfold xb
      rw [e1, r2, c1]
      exact bk_o2 o2 _
    have t := row_ch o1 h53 hb c2
    have k := rel_add (bo := F (55 * i + 53)) (bt := flb (tkZ F z i) b) hO hR hn t.1 (row_hi o1 h53 hb) o2 (flb_01 _ _)
    have eC : foC Z bk n i b 2 = !xHas Z bk (chM (tkZ F z i) b) (F (55 * i + 53) + 2 * flb (tkZ F z i) b) n := by
      unfold foC
      rw [e1, e2, decide_eq_true b1]
      rfl
    unfold foK foN foZ foB
    rw [eC, e1, e2]
    exact k
  · rw [if_neg c, if_neg c, if_neg c]
    have hC : foC Z bk n i b 2 = false := by
      by_cases q : F (55 * i + 53 + 1) = 0
      · refine fo_look hi ?_
        rw [r1]
        cases e : isLook (tkZ F z i) b
        · exact absurd (by simp [q, e]) c
        · rfl
      · exact fo_back (fun e => q ((bk_2 o2 o3).mp (by rw [← r2]; exact e)))
    obtain ⟨k1, k2, k3, k4⟩ := fo_no hC
    rw [k1, k2, k3, k4]
    exact ⟨rfl, rfl, hR⟩
theorem row_wc {F z : Zf} {k : Nat} (h : ∃ (m : Nat) (g : Nat → Nat), LK (tkZ F z k) m g) (h53 : ∃ m : Nat, m ≤ 6 ∧ z 53 = nI m) : Wc (tkZ F z k) := by
  obtain ⟨m, g, hm⟩ := h
  exact ⟨hm.wf (by rw [tkZ_hi (by omega)]; exact h53), hm.wg, hm.wb⟩
theorem fN12_le {f t : Zf} {k a b n : Nat} (h : n ≤ 300) : fN1 f t k a n ≤ fN2 f t k a b n := by
  unfold fN2
  split
  · exact (colN_le (fN1_le h).2).1
  · exact Nat.le_refl _
theorem orS_mono (f z : Zf) (a b : Nat) {i : Nat} : ∀ {j : Nat}, i ≤ j → (orS f z a b i).2.1 ≤ (orS f z a b j).2.1
  | 0, h => by rw [show i = 0 by omega]; exact Nat.le_refl _
  | j + 1, h => by
    by_cases e : i = j + 1
    · rw [e]; exact Nat.le_refl _
    · exact Nat.le_trans (orS_mono f z a b (show i ≤ j by omega)) (fN2_le (orS_le f z a b j)).1
theorem orS_0 (f z : Zf) (a b : Nat) : (orS f z a b 0).2.1 = xn 0 ∧ (orS f z a b 0).2.2 = true := ⟨rfl, rfl⟩
theorem rel_0 {f z : Zf} {a b : Nat} {Z : Nat → Zf} {bk : Zf} (hI : Inv z) : Rel (orS f z a b 0).1 z (orS f z a b 0).2.1 (xZ Z 0 z) (xB bk 0 0) := by
  obtain ⟨⟨m, g, h1, h2⟩, -⟩ := hI
  have t := rel_add (F := f) (z := z) (y := z) (Z := Z) (bk := bk) (bo := 0) (bt := 0) (n := 0) (fun k hk => absurd hk (Nat.not_lt_zero k)) (fun k hk => absurd hk (Nat.not_lt_zero k)) (Nat.zero_le _) ⟨m, g, h1⟩ (fun _ _ => rfl) (Or.inl rfl) (Or.inl rfl)
  rw [show (0 : Int32) + 2 * 0 = 0 by decide] at t
  exact t.2.2
theorem Inv.h53 {z : Zf} (hI : Inv z) : ∃ m : Nat, m ≤ 6 ∧ z 53 = nI m := by
  obtain ⟨⟨m, g, h1, h2⟩, -⟩ := hI
  exact ⟨m, h1.1.1, h2.1⟩
/-- what both rounds of a row do -/
theorem fol_b {f z : Zf} {Z : Nat → Zf} {bk : Zf} {a b i : Nat} (hI : Inv z) (ha : a < 6) (hb : b < 6) (hO : RowsOk (orS f z a b i).1 z (orS f z a b i).2.1) (hi : i < (orS f z a b i).2.1) (hk : fK1 (orS f z a b i).1 (tkZ (orS f z a b i).1 z i) i a (orS f z a b i).2.1 = true)
    (hR : Rel (fF1 (orS f z a b i).1 (tkZ (orS f z a b i).1 z i) i a (orS f z a b i).2.1) z (fN1 (orS f z a b i).1 (tkZ (orS f z a b i).1 z i) i a (orS f z a b i).2.1) Z bk) :
    foK Z bk (fN1 (orS f z a b i).1 (tkZ (orS f z a b i).1 z i) i a (orS f z a b i).2.1) i b 2 = (orS f z a b (i + 1)).2.2 ∧ foN Z bk (fN1 (orS f z a b i).1 (tkZ (orS f z a b i).1 z i) i a (orS f z a b i).2.1) i b 2 = (orS f z a b (i + 1)).2.1 ∧ Rel (orS f z a b (i + 1)).1 z (orS f z a b (i + 1)).2.1 (foZ Z bk (fN1 (orS f z a b i).1 (tkZ (orS f z a b i).1 z i) i a (orS f z a b i).2.1) i b 2) (foB Z bk (fN1 (orS f z a b i).1 (tkZ (orS f z a b i).1 z i) i a (orS f z a b i).2.1) i b 2) := by
  have l1 := fN1_le (f := (orS f z a b i).1) (t := tkZ (orS f z a b i).1 z i) (k := i) (a := a) (orS_le f z a b i)
  have r53 : fF1 (orS f z a b i).1 (tkZ (orS f z a b i).1 z i) i a (orS f z a b i).2.1 (55 * i + 53) = (orS f z a b i).1 (55 * i + 53) := fF1_row hi (by omega)
  have r54 : fF1 (orS f z a b i).1 (tkZ (orS f z a b i).1 z i) i a (orS f z a b i).2.1 (55 * i + 53 + 1) = (orS f z a b i).1 (55 * i + 53 + 1) := fF1_row (i := 54) hi (by omega)
  have rt : tkZ (orS f z a b i).1 z i = tkZ (fF1 (orS f z a b i).1 (tkZ (orS f z a b i).1 z i) i a (orS f z a b i).2.1) z i := (tk_row (fun j hj => fF1_row hi (by omega)) (fun _ _ => rfl)).symm
  have t := fol_2 (b := b) (hO.f1 hI.h53 hi ha) hR l1.2 hI.h53 (show i < _ by omega) hb rt r53.symm
  rw [r54] at t
  show _ = fK2 _ _ _ _ _ _ ∧ _ = fN2 _ _ _ _ _ _ ∧ Rel (fF2 _ _ _ _ _ _) z (fN2 _ _ _ _ _ _) _ _
  unfold fK2 fN2 fF2 fA2
  rw [hk]
  exact t
theorem fol_n {f z : Zf} {a b i : Nat} (hk : fK1 (orS f z a b i).1 (tkZ (orS f z a b i).1 z i) i a (orS f z a b i).2.1 = false) : (orS f z a b (i + 1)).1 = fF1 (orS f z a b i).1 (tkZ (orS f z a b i).1 z i) i a (orS f z a b i).2.1 ∧ (orS f z a b (i + 1)).2.1 = fN1 (orS f z a b i).1 (tkZ (orS f z a b i).1 z i) i a (orS f z a b i).2.1 ∧ (orS f z a b (i + 1)).2.2 = false := by
  show fF2 _ _ _ _ _ _ = _ ∧ fN2 _ _ _ _ _ _ = _ ∧ fK2 _ _ _ _ _ _ = _
  unfold fF2 fN2 fK2 fA2
  rw [hk]
  exact ⟨rfl, rfl, rfl⟩
