theorem lot_bit {k v : Nat} (hk : k < 64) (hv : v < 6) : (nI k &&& (1 <<< (nI v &&& 31)) = 0) ↔ bitM (nI k) v = 0 := by
  have h := List.all_eq_true.mp (List.all_eq_true.mp lot_bits k (List.mem_range.mpr hk)) v (List.mem_range.mpr hv)
  simp only [decide_eq_true_eq, bitN] at h
  exact decide_eq_decide.mp (of_decide_eq_true h)
theorem lot_bit1 {k v : Nat} (hk : k < 64) (hv : v < 6) (h0 : ¬ bitM (nI k) v = 0) : bitM (nI k) v = 1 := by
  have h := List.all_eq_true.mp (List.all_eq_true.mp lot_01 k (List.mem_range.mpr hk)) v (List.mem_range.mpr hv)
  simp only [Bool.or_eq_true, decide_eq_true_eq] at h
  exact h.resolve_left h0
theorem lot_pick {k r v : Nat} (hk : k < 64) (hr : r < 6) (hv : v < 6) (h1 : bitM (nI k) v = 1) (h2 : bitsM (nI k) v = nI r) : pickM (nI k) (nI r) 6 = nI v := by
  have h := List.all_eq_true.mp (List.all_eq_true.mp (List.all_eq_true.mp lot_one k (List.mem_range.mpr hk)) r (List.mem_range.mpr hr)) v (List.mem_range.mpr hv)
  simp only [Bool.or_eq_true, decide_eq_true_eq, Bool.not_eq_true', Bool.and_eq_false_iff, decide_eq_false_iff_not] at h
  rcases h with (q | q) | q
  · exact absurd h1 q
  · exact absurd h2 q
  · exact q
theorem pick_spec {x r : Int32} : ∀ {n w : Nat}, n ≤ 6 → w < 6 → pickM x r n = nI w → w < n ∧ bitM x w = 1 ∧ bitsM x w = r
  | 0, w, _, hw, h => absurd h.symm (nI_m5 (by omega))
  | n + 1, w, hn, hw, h => by
    simp only [pickM] at h
    by_cases q : bitM x n = 1 ∧ bitsM x n = r
    · rw [if_pos q] at h
      have e : n = w := (nI_eq (by omega) (by omega)).mp h
      subst e
      exact ⟨by omega, q⟩
    · rw [if_neg q] at h
      have := pick_spec (by omega) hw h
      exact ⟨by omega, this.2⟩
theorem lcg_nat {y : Int32} (h : ¬ y < 0) : ∃ n : Nat, n < 2 ^ 31 ∧ lcg y = nI n := by
  obtain ⟨j, hj, rfl⟩ := nI_of h
  refine ⟨(j * 1103515245 + 12345) % 2147483648, Nat.mod_lt _ (by decide), ?_⟩
  have e1 : (nI j).toInt64 * 1103515245 + 12345 = lN (j * 1103515245 + 12345) := by
    rw [nI_l hj, show (1103515245 : Int64) = lN 1103515245 from rfl, show (12345 : Int64) = lN 12345 from rfl, lN_mul, lN_add]
  unfold lcg
  rw [e1, show (2147483648 : Int64) = lN 2147483648 from rfl, pk_lRem (by omega) (by decide) (by decide), lN_i]
theorem bits_all : ((List.range 64).all fun k => (List.range 7).any fun s => decide (bitsM (nI k) 6 = nI s)) = true := by decide +kernel
theorem bits_nat {k : Nat} (hk : k < 64) : ∃ s : Nat, s ≤ 6 ∧ bitsM (nI k) 6 = nI s := by
  have h := List.all_eq_true.mp bits_all k (List.mem_range.mpr hk)
  obtain ⟨s, hs, e⟩ := List.any_eq_true.mp h
  exact ⟨s, by have := List.mem_range.mp hs; omega, of_decide_eq_true e⟩
theorem bits_pos : ((List.range 64).all fun k => decide (k = 0) || !decide (bitsM (nI k) 6 = 0)) = true := by decide +kernel
theorem pick_all : ((List.range 64).all fun k => (List.range 6).all fun r => (List.range 7).all fun s => !(decide (bitsM (nI k) 6 = nI s) && decide (r < s)) || (List.range 6).any fun v => decide (pickM (nI k) (nI r) 6 = nI v)) = true := by decide +kernel
/-- what a lot needs: all numbers are small -/
theorem lot_ok {k : Nat} (hk : k < 64) (h0 : 0 < k) {y : Int32} (hy : ¬ y < 0) : ∃ s r v : Nat, 0 < s ∧ s ≤ 6 ∧ bitsM (nI k) 6 = nI s ∧ lotR (nI k) y = nI r ∧ r < 6 ∧ v < 6 ∧ pickM (nI k) (nI r) 6 = nI v := by
  obtain ⟨s, hs, es⟩ := bits_nat hk
  have hp : 0 < s := by
    rcases Nat.eq_zero_or_pos s with q | q
    · have h := List.all_eq_true.mp bits_pos k (List.mem_range.mpr hk)
      rw [es, q] at h
      simp at h
      rcases h with h | h
      · omega
      · exact absurd rfl h
    · exact q
  obtain ⟨n, hn, en⟩ := lcg_nat hy
  have er : lotR (nI k) y = nI (n / 65536 % s) := by
    unfold lotR
    rw [en, es, show (65536 : Int32) = nI 65536 from rfl, pk_div hn (by decide) (by decide), pk_rem (by omega) hp (by omega)]
  have hr : n / 65536 % s < s := Nat.mod_lt _ hp
  have h := List.all_eq_true.mp (List.all_eq_true.mp (List.all_eq_true.mp pick_all k (List.mem_range.mpr hk)) (n / 65536 % s) (List.mem_range.mpr (by omega))) s (List.mem_range.mpr (by omega))
  rw [decide_eq_true es, decide_eq_true hr] at h
  simp only [Bool.and_self, Bool.not_true, Bool.false_or] at h
  obtain ⟨v, hv, ev⟩ := List.any_eq_true.mp h
  exact ⟨s, n / 65536 % s, v, hp, hs, es, er, by omega, List.mem_range.mp hv, of_decide_eq_true ev⟩
def DrC (z : Zf) (x : Int32) (n : Nat) : Prop := ∃ k : Nat, k < 64 ∧ 0 < k ∧ x = nI k ∧ ∀ j : Nat, j < n → ¬ drZ z x j 61 < 0 ∧ Wc (upd (drZ z x j) 61 (lcg (drZ z x j 61))) ∧ Li (upd (drZ z x j) 61 (lcg (drZ z x j 61)))
