theorem flX1_copyFrom_11 : FL wsX1_copyFrom RX1 11 1 0 := ⟨RX1, TX1, 1, rfl, by decide, by decide +kernel, by decide +kernel⟩
set_option maxHeartbeats 8000000 in
set_option maxRecDepth 100000 in
theorem kX1_copyFrom (G : Gx) (h0 qc h1 qd : Nat) (z w : Zf) : MC G yX1_copyFrom wsX1_copyFrom ({ frames := 1, cells := 0, slots := 0, locals := 30 } : Room) [.ref h0, .ref h1] [(h0, .inr (1, [.ref qc])), (qc, aI G 54 (encC z)), (h1, .inr (1, [.ref qd])), (qd, aI G 54 (encC w))] (fun v' u' => v' = none ∧ u' = [(h0, .inr (1, [.ref qc])), (qc, aI G 54 (encC w)), (h1, .inr (1, [.ref qd])), (qd, aI G 54 (encC w))]) 0 0 := by
  refine mc_of (cc := cX1_copyFrom) (maxL := 2) (ret := none) (by decide) rfl (Nat.le_of_ble_eq_true rfl) (fun X h hR hL hRT => ?_)
  refine u_eql (lv' := [(0, .ref h0), (1, .ref h1)]) rfl ?_
  refine u_aload_n h dX1_copyFrom_0 rfl 1 rfl rfl ?_
  refine u_get h flX1_copyFrom_11 2 (v := .ref qd) rfl rfl dX1_copyFrom_1 rfl ?_
  refine u_iconst (v := 0) h dX1_copyFrom_4 (by decide) rfl ?_
  refine u_aload_n h dX1_copyFrom_5 rfl 0 rfl rfl ?_
  refine u_get h flX1_copyFrom_11 0 (v := .ref qc) rfl rfl dX1_copyFrom_6 rfl ?_
  refine u_iconst (v := 0) h dX1_copyFrom_9 (by decide) rfl ?_
  refine u_bipush (v := 54) h dX1_copyFrom_10 (by decide) rfl ?_
  refine u_cpyI h (sp := 0) (dp := 0) (n := 54) (ws' := [(h0, .inr (1, [.ref qc])), (qc, aI G 54 (va_cpy (encC w) (encC z) 0 0 54)), (h1, .inr (1, [.ref qd])), (qd, aI G 54 (encC w))]) 3 1 (by decide +kernel) (by decide +kernel) (by decide +kernel) (by decide +kernel) rfl rfl (by omega) (by omega) (by omega) (by omega) (by rw [hR]; decide) (by rw [hR]; exact Nat.le_of_ble_eq_true rfl) rfl dX1_copyFrom_12 rfl ?_
  exact u_vret h hRT dX1_copyFrom_15 (by omega) (by omega) (by exact ⟨rfl, by rw [enc_cpy]⟩)


theorem flX1_sameAs_11 : FL wsX1_sameAs RX1 11 1 0 := ⟨RX1, TX1, 1, rfl, by decide, by decide +kernel, by decide +kernel⟩
set_option maxHeartbeats 8000000 in
set_option maxRecDepth 100000 in
theorem kX1_sameAs (G : Gx) (h0 qc h1 qd : Nat) (z w : Zf) : MC G yX1_sameAs wsX1_sameAs ({ frames := 0, cells := 0, slots := 0, locals := 0 } : Room) [.ref h0, .ref h1] [(h0, .inr (1, [.ref qc])), (qc, aI G 54 (encC z)), (h1, .inr (1, [.ref qd])), (qd, aI G 54 (encC w))] (fun v' u' => v' = some (.int (bI (sameE z w))) ∧ u' = [(h0, .inr (1, [.ref qc])), (qc, aI G 54 (encC z)), (h1, .inr (1, [.ref qd])), (qd, aI G 54 (encC w))]) 0 0 := by
  refine mc_of (cc := cX1_sameAs) (maxL := 3) (ret := (some .boolean)) (by decide) rfl (Nat.le_of_ble_eq_true rfl) (fun X h hR hL hRT => ?_)
  refine u_eql (lv' := [(0, .ref h0), (1, .ref h1)]) rfl ?_
  refine u_iconst (v := 0) h dX1_sameAs_0 (by decide) rfl ?_
  refine u_istore_n (lv' := [(2, .int 0), (0, .ref h0), (1, .ref h1)]) h dX1_sameAs_1 rfl (by rw [hL]; decide) rfl rfl ?_
  have LL : ∀ (k9 : Nat) (i : Nat), 54 - i = k9 → (i ≤ 54) → (∀ j : Nat, j < i → encC z j = encC w j) → U G X 0 0 [(h0, .inr (1, [.ref qc])), (qc, aI G 54 (encC z)), (h1, .inr (1, [.ref qd])), (qd, aI G 54 (encC w))] 2 [(2, .int (nI i)), (0, .ref h0), (1, .ref h1)] [] := by
    intro k9
    induction k9 using Nat.strongRecOn with
    | _ k9 ihL =>
      intro i hk9 hi hs
      subst hk9
      refine u_iload_n h dX1_sameAs_2 rfl 0 rfl rfl ?_
      refine u_bipush (v := 54) h dX1_sameAs_3 (by decide) rfl ?_
      refine u_icmp_ge_N (a := i) (b := 54) (tgt := 31) h dX1_sameAs_5 (by decide) (by omega) (by omega) rfl (fun c1 => ?_) (fun c1 => ?_)
      · refine u_iconst (v := 1) h dX1_sameAs_31 (by decide) rfl ?_
        exact u_zret h hRT dX1_sameAs_32 rfl (by omega) (by omega) (by exact ⟨by rw [show sameE z w = true from sameE_t (same_enc.mp (fun j hj => hs j (by omega)))]; rfl, rfl⟩)
      · refine u_aload_n h dX1_sameAs_8 rfl 1 rfl rfl ?_
        refine u_get h flX1_sameAs_11 0 (v := .ref qc) rfl rfl dX1_sameAs_9 rfl ?_
        refine u_iload_n h dX1_sameAs_12 rfl 0 rfl rfl ?_
        refine u_iald h (n := i) 1 rfl (by omega) (by omega) dX1_sameAs_13 rfl ?_
        refine u_aload_n h dX1_sameAs_14 rfl 2 rfl rfl ?_
        refine u_get h flX1_sameAs_11 2 (v := .ref qd) rfl rfl dX1_sameAs_15 rfl ?_
        refine u_iload_n h dX1_sameAs_18 rfl 0 rfl rfl ?_
        refine u_iald h (n := i) 3 rfl (by omega) (by omega) dX1_sameAs_19 rfl ?_
        refine u_icmp_eq (tgt := 25) h dX1_sameAs_20 (by decide) rfl (fun c2 => ?_) (fun c2 => ?_)
        · refine u_iinc (k := 0) (v := (nI (i + 1))) (lv' := [(2, .int (nI (i + 1))), (0, .ref h0), (1, .ref h1)]) h dX1_sameAs_25 rfl (nI_add i 1) (by rw [hL]; decide) rfl rfl ?_
          refine u_goto (tgt := 2) h dX1_sameAs_28 (by decide) ?_
          exact ihL _ (by omega) (i + 1) rfl (by omega) (fun j hj => by rcases Nat.lt_or_ge j i with q9 | q9; exact hs j q9; rw [show j = i by omega]; exact c2)
        · refine u_iconst (v := 0) h dX1_sameAs_23 (by decide) rfl ?_
          exact u_zret h hRT dX1_sameAs_24 rfl (by omega) (by omega) (by exact ⟨by rw [show sameE z w = false from sameE_f (fun q9 => c2 (congrFun q9 i))]; rfl, rfl⟩)
  exact LL _ 0 rfl (Nat.zero_le _) (fun j hj => absurd hj (Nat.not_lt_zero j))

theorem flX3_copyFrom_14 : FL wsX3_copyFrom RX3 14 3 0 := ⟨RX3, TX3, 5, rfl, by decide, by decide +kernel, by decide +kernel⟩
theorem flX3_copyFrom_18 : FL wsX3_copyFrom RX3 18 3 1 := ⟨RX3, TX3, 5, rfl, by decide, by decide +kernel, by decide +kernel⟩
theorem flX3_copyFrom_22 : FL wsX3_copyFrom RX3 22 3 2 := ⟨RX3, TX3, 5, rfl, by decide, by decide +kernel, by decide +kernel⟩
theorem flX3_copyFrom_25 : FL wsX3_copyFrom RX3 25 3 3 := ⟨RX3, TX3, 5, rfl, by decide, by decide +kernel, by decide +kernel⟩
theorem fwX3_copyFrom_25 : FW wsX3_copyFrom RX3 25 3 3 false .int := ⟨RX3, TX3, 5, tyX3, rfl, by decide, by decide +kernel, by decide +kernel, tyX3_ok, nmX3, rfl, by decide +kernel, rfl⟩
theorem flX3_copyFrom_29 : FL wsX3_copyFrom RX3 29 3 4 := ⟨RX3, TX3, 5, rfl, by decide, by decide +kernel, by decide +kernel⟩
theorem fwX3_copyFrom_29 : FW wsX3_copyFrom RX3 29 3 4 false .int := ⟨RX3, TX3, 5, tyX3, rfl, by decide, by decide +kernel, by decide +kernel, tyX3_ok, nmX3, rfl, by decide +kernel, rfl⟩
set_option maxRecDepth 20000 in
theorem cwX3_copyFrom_X1_copyFrom : CWd wsX3_copyFrom (wsV RX3 32 RX1 yX1_copyFrom wsX1_copyFrom) yX1_copyFrom wsX1_copyFrom cX1_copyFrom 2 none 1 := ⟨gX3_copyFrom_X1_copyFrom, ⟨_, rfl⟩, by decide +kernel, by decide, by decide⟩
set_option maxHeartbeats 8000000 in
set_option maxRecDepth 100000 in
theorem kX3_copyFrom (G : Gx) (hs ql qc qn qe hs2 ql2 qc2 qn2 qe2 : Nat) (z w : Zf) : MC G yX3_copyFrom wsX3_copyFrom ({ frames := 2, cells := 0, slots := 0, locals := 51 } : Room) [.ref hs, .ref hs2] [(hs, .inr (3, [.ref ql, .ref qn, .ref qe, .int (z 53), .int (z 61)])), (ql, .inr (1, [.ref qc])), (qc, aI G 54 (encC z)), (qn, aI G 24 (cntC z)), (qe, aI G 6 (linC z)), (hs2, .inr (3, [.ref ql2, .ref qn2, .ref qe2, .int (w 53), .int (w 61)])), (ql2, .inr (1, [.ref qc2])), (qc2, aI G 54 (encC w)), (qn2, aI G 24 (cntC w)), (qe2, aI G 6 (linC w))] (fun v' u' => v' = none ∧ u' = [(hs, .inr (3, [.ref ql, .ref qn, .ref qe, .int (w 53), .int (w 61)])), (ql, .inr (1, [.ref qc])), (qc, aI G 54 (encC w)), (qn, aI G 24 (cntC w)), (qe, aI G 6 (linC w)), (hs2, .inr (3, [.ref ql2, .ref qn2, .ref qe2, .int (w 53), .int (w 61)])), (ql2, .inr (1, [.ref qc2])), (qc2, aI G 54 (encC w)), (qn2, aI G 24 (cntC w)), (qe2, aI G 6 (linC w))]) 0 0 := by
  refine mc_of (cc := cX3_copyFrom) (maxL := 2) (ret := none) (by decide) rfl (Nat.le_of_ble_eq_true rfl) (fun X h hR hL hRT => ?_)
  refine u_eql (lv' := [(0, .ref hs), (1, .ref hs2)]) rfl ?_
  refine u_aload_n h dX3_copyFrom_0 rfl 0 rfl rfl ?_
  refine u_get h flX3_copyFrom_14 0 (v := .ref ql) rfl rfl dX3_copyFrom_1 rfl ?_
  refine u_aload_n h dX3_copyFrom_4 rfl 1 rfl rfl ?_
  refine u_get h flX3_copyFrom_14 5 (v := .ref ql2) rfl rfl dX3_copyFrom_5 rfl ?_
  refine u_callV h (As := [.ref ql2]) (wc := [(ql, .inr (1, [.ref qc])), (qc, aI G 54 (encC z)), (ql2, .inr (1, [.ref qc2])), (qc2, aI G 54 (encC w))]) (wr := [(hs, .inr (3, [.ref ql, .ref qn, .ref qe, .int (z 53), .int (z 61)])), (qn, aI G 24 (cntC z)), (qe, aI G 6 (linC z)), (hs2, .inr (3, [.ref ql2, .ref qn2, .ref qe2, .int (w 53), .int (w 61)])), (qn2, aI G 24 (cntC w)), (qe2, aI G 6 (linC w))]) (kX1_copyFrom G ql qc ql2 qc2 z w) cwX3_copyFrom_X1_copyFrom rfl rfl hR ⟨⟨rfl, rfl⟩, by decide, by decide⟩ ⟨Nat.le_of_ble_eq_true rfl, Nat.le_of_ble_eq_true rfl⟩ (ci := 1) (qr := 1) rfl rfl [1, 2, 6, 7] [0, 3, 4, 5, 8, 9] rfl rfl rfl rfl (by decide) (Nat.le_of_ble_eq_true rfl) rfl dX3_copyFrom_8 rfl (fun v9 u9 hp9 => ?_)
  obtain ⟨rfl, rfl⟩ := hp9
  refine u_wp (ws' := [(hs, .inr (3, [.ref ql, .ref qn, .ref qe, .int (z 53), .int (z 61)])), (ql, .inr (1, [.ref qc])), (qc, aI G 54 (encC w)), (qn, aI G 24 (cntC z)), (qe, aI G 6 (linC z)), (hs2, .inr (3, [.ref ql2, .ref qn2, .ref qe2, .int (w 53), .int (w 61)])), (ql2, .inr (1, [.ref qc2])), (qc2, aI G 54 (encC w)), (qn2, aI G 24 (cntC w)), (qe2, aI G 6 (linC w))]) [0, 6, 7, 1, 2, 3, 8, 9, 4, 5] rfl rfl ?_
  refine u_eqs (st' := []) rfl ?_
  refine u_aload_n h dX3_copyFrom_11 rfl 1 rfl rfl ?_
  refine u_get h flX3_copyFrom_18 5 (v := .ref qn2) rfl rfl dX3_copyFrom_12 rfl ?_
  refine u_iconst (v := 0) h dX3_copyFrom_15 (by decide) rfl ?_
  refine u_aload_n h dX3_copyFrom_16 rfl 0 rfl rfl ?_
  refine u_get h flX3_copyFrom_18 0 (v := .ref qn) rfl rfl dX3_copyFrom_17 rfl ?_
  refine u_iconst (v := 0) h dX3_copyFrom_20 (by decide) rfl ?_
  refine u_bipush (v := 24) h dX3_copyFrom_21 (by decide) rfl ?_
  refine u_cpyI h (sp := 0) (dp := 0) (n := 24) (ws' := [(hs, .inr (3, [.ref ql, .ref qn, .ref qe, .int (z 53), .int (z 61)])), (ql, .inr (1, [.ref qc])), (qc, aI G 54 (encC w)), (qn, aI G 24 (va_cpy (cntC w) (cntC z) 0 0 24)), (qe, aI G 6 (linC z)), (hs2, .inr (3, [.ref ql2, .ref qn2, .ref qe2, .int (w 53), .int (w 61)])), (ql2, .inr (1, [.ref qc2])), (qc2, aI G 54 (encC w)), (qn2, aI G 24 (cntC w)), (qe2, aI G 6 (linC w))]) 8 3 (by decide +kernel) (by decide +kernel) (by decide +kernel) (by decide +kernel) rfl rfl (by omega) (by omega) (by omega) (by omega) (by rw [hR]; decide) (by rw [hR]; exact Nat.le_of_ble_eq_true rfl) rfl dX3_copyFrom_23 rfl ?_
  refine u_aload_n h dX3_copyFrom_26 rfl 1 rfl rfl ?_
  refine u_get h flX3_copyFrom_22 5 (v := .ref qe2) rfl rfl dX3_copyFrom_27 rfl ?_
  refine u_iconst (v := 0) h dX3_copyFrom_30 (by decide) rfl ?_
  refine u_aload_n h dX3_copyFrom_31 rfl 0 rfl rfl ?_
  refine u_get h flX3_copyFrom_22 0 (v := .ref qe) rfl rfl dX3_copyFrom_32 rfl ?_
  refine u_iconst (v := 0) h dX3_copyFrom_35 (by decide) rfl ?_
  refine u_bipush (v := 6) h dX3_copyFrom_36 (by decide) rfl ?_
  refine u_cpyI h (sp := 0) (dp := 0) (n := 6) (ws' := [(hs, .inr (3, [.ref ql, .ref qn, .ref qe, .int (z 53), .int (z 61)])), (ql, .inr (1, [.ref qc])), (qc, aI G 54 (encC w)), (qn, aI G 24 (va_cpy (cntC w) (cntC z) 0 0 24)), (qe, aI G 6 (va_cpy (linC w) (linC z) 0 0 6)), (hs2, .inr (3, [.ref ql2, .ref qn2, .ref qe2, .int (w 53), .int (w 61)])), (ql2, .inr (1, [.ref qc2])), (qc2, aI G 54 (encC w)), (qn2, aI G 24 (cntC w)), (qe2, aI G 6 (linC w))]) 9 4 (by decide +kernel) (by decide +kernel) (by decide +kernel) (by decide +kernel) rfl rfl (by omega) (by omega) (by omega) (by omega) (by rw [hR]; decide) (by rw [hR]; exact Nat.le_of_ble_eq_true rfl) rfl dX3_copyFrom_38 rfl ?_
  refine u_aload_n h dX3_copyFrom_41 rfl 0 rfl rfl ?_
  refine u_aload_n h dX3_copyFrom_42 rfl 1 rfl rfl ?_
  refine u_get h flX3_copyFrom_25 5 (v := .int (w 53)) rfl rfl dX3_copyFrom_43 rfl ?_
  refine u_put h fwX3_copyFrom_25 (ws' := [(hs, .inr (3, [.ref ql, .ref qn, .ref qe, .int (w 53), .int (z 61)])), (ql, .inr (1, [.ref qc])), (qc, aI G 54 (encC w)), (qn, aI G 24 (va_cpy (cntC w) (cntC z) 0 0 24)), (qe, aI G 6 (va_cpy (linC w) (linC z) 0 0 6)), (hs2, .inr (3, [.ref ql2, .ref qn2, .ref qe2, .int (w 53), .int (w 61)])), (ql2, .inr (1, [.ref qc2])), (qc2, aI G 54 (encC w)), (qn2, aI G 24 (cntC w)), (qe2, aI G 6 (linC w))]) 0 rfl (Nat.le_of_ble_eq_true rfl) rfl rfl rfl dX3_copyFrom_46 rfl ?_
  refine u_aload_n h dX3_copyFrom_49 rfl 0 rfl rfl ?_
  refine u_aload_n h dX3_copyFrom_50 rfl 1 rfl rfl ?_
  refine u_get h flX3_copyFrom_29 5 (v := .int (w 61)) rfl rfl dX3_copyFrom_51 rfl ?_
  refine u_put h fwX3_copyFrom_29 (ws' := [(hs, .inr (3, [.ref ql, .ref qn, .ref qe, .int (w 53), .int (w 61)])), (ql, .inr (1, [.ref qc])), (qc, aI G 54 (encC w)), (qn, aI G 24 (va_cpy (cntC w) (cntC z) 0 0 24)), (qe, aI G 6 (va_cpy (linC w) (linC z) 0 0 6)), (hs2, .inr (3, [.ref ql2, .ref qn2, .ref qe2, .int (w 53), .int (w 61)])), (ql2, .inr (1, [.ref qc2])), (qc2, aI G 54 (encC w)), (qn2, aI G 24 (cntC w)), (qe2, aI G 6 (linC w))]) 0 rfl (Nat.le_of_ble_eq_true rfl) rfl rfl rfl dX3_copyFrom_54 rfl ?_
  exact u_vret h hRT dX3_copyFrom_57 (by omega) (by omega) (by exact ⟨rfl, by rw [cnt_cpy, lin_cpy]⟩)

theorem flX3_count_18 : FL wsX3_count RX3 18 3 1 := ⟨RX3, TX3, 5, rfl, by decide, by decide +kernel, by decide +kernel⟩
set_option maxHeartbeats 8000000 in
set_option maxRecDepth 100000 in
theorem kX3_count (G : Gx) (hs ql qc qn qe : Nat) (z : Zf) (c v : Nat) (hc : c + v < 24) : MC G yX3_count wsX3_count ({ frames := 0, cells := 0, slots := 0, locals := 0 } : Room) [.ref hs, .int (nI c), .int (nI v)] [(hs, .inr (3, [.ref ql, .ref qn, .ref qe, .int (z 53), .int (z 61)])), (ql, .inr (1, [.ref qc])), (qc, aI G 54 (encC z)), (qn, aI G 24 (cntC z)), (qe, aI G 6 (linC z))] (fun v' u' => v' = some (.int (z (62 + (c + v)))) ∧ u' = [(hs, .inr (3, [.ref ql, .ref qn, .ref qe, .int (z 53), .int (z 61)])), (ql, .inr (1, [.ref qc])), (qc, aI G 54 (encC z)), (qn, aI G 24 (cntC z)), (qe, aI G 6 (linC z))]) 0 0 := by
  refine mc_of (cc := cX3_count) (maxL := 3) (ret := (some .int)) (by decide) rfl (Nat.le_of_ble_eq_true rfl) (fun X h hR hL hRT => ?_)
  refine u_eql (lv' := [(0, .ref hs), (1, .int (nI c)), (2, .int (nI v))]) rfl ?_
  refine u_aload_n h dX3_count_0 rfl 0 rfl rfl ?_
  refine u_get h flX3_count_18 0 (v := .ref qn) rfl rfl dX3_count_1 rfl ?_
  refine u_iload_n h dX3_count_4 rfl 1 rfl rfl ?_
  refine u_iload_n h dX3_count_5 rfl 2 rfl rfl ?_
  refine u_iadd (v := (nI (c + v))) h dX3_count_6 (nI_add c v) rfl ?_
  refine u_iald h (n := (c + v)) 3 rfl (by omega) (by omega) dX3_count_7 rfl ?_
  refine u_top (y := (z (62 + (c + v)))) (cnt_at (by omega)) ?_
  exact u_iret h hRT dX3_count_8 (by omega) (by omega) (by exact ⟨rfl, rfl⟩)

theorem flX3_sum_18 : FL wsX3_sum RX3 18 3 1 := ⟨RX3, TX3, 5, rfl, by decide, by decide +kernel, by decide +kernel⟩
set_option maxHeartbeats 8000000 in
set_option maxRecDepth 100000 in
theorem kX3_sum (G : Gx) (hs ql qc qn qe : Nat) (z : Zf) (c : Nat) (hc : c ≤ 18) : MC G yX3_sum wsX3_sum ({ frames := 0, cells := 0, slots := 0, locals := 0 } : Room) [.ref hs, .int (nI c)] [(hs, .inr (3, [.ref ql, .ref qn, .ref qe, .int (z 53), .int (z 61)])), (ql, .inr (1, [.ref qc])), (qc, aI G 54 (encC z)), (qn, aI G 24 (cntC z)), (qe, aI G 6 (linC z))] (fun v' u' => v' = some (.int (sumZ z (62 + c) 6)) ∧ u' = [(hs, .inr (3, [.ref ql, .ref qn, .ref qe, .int (z 53), .int (z 61)])), (ql, .inr (1, [.ref qc])), (qc, aI G 54 (encC z)), (qn, aI G 24 (cntC z)), (qe, aI G 6 (linC z))]) 0 0 := by
  refine mc_of (cc := cX3_sum) (maxL := 4) (ret := (some .int)) (by decide) rfl (Nat.le_of_ble_eq_true rfl) (fun X h hR hL hRT => ?_)
  refine u_eql (lv' := [(0, .ref hs), (1, .int (nI c))]) rfl ?_
  refine u_iconst (v := 0) h dX3_sum_0 (by decide) rfl ?_
  refine u_istore_n (lv' := [(2, .int 0), (0, .ref hs), (1, .int (nI c))]) h dX3_sum_1 rfl (by rw [hL]; decide) rfl rfl ?_
  refine u_iconst (v := 0) h dX3_sum_2 (by decide) rfl ?_
  refine u_istore_n (lv' := [(3, .int 0), (2, .int 0), (0, .ref hs), (1, .int (nI c))]) h dX3_sum_3 rfl (by rw [hL]; decide) rfl rfl ?_
  have LL : ∀ (k9 : Nat) (v : Nat) (n : Int32), 6 - v = k9 → (v ≤ 6) → (n = sumZ z (62 + c) v) → U G X 0 0 [(hs, .inr (3, [.ref ql, .ref qn, .ref qe, .int (z 53), .int (z 61)])), (ql, .inr (1, [.ref qc])), (qc, aI G 54 (encC z)), (qn, aI G 24 (cntC z)), (qe, aI G 6 (linC z))] 4 [(3, .int (nI v)), (2, .int n), (0, .ref hs), (1, .int (nI c))] [] := by
    intro k9
    induction k9 using Nat.strongRecOn with
    | _ k9 ihL =>
      intro v n hk9 hv hn
      subst hk9
      refine u_iload_n h dX3_sum_4 rfl 0 rfl rfl ?_
      refine u_bipush (v := 6) h dX3_sum_5 (by decide) rfl ?_
      refine u_icmp_ge_N (a := v) (b := 6) (tgt := 27) h dX3_sum_7 (by decide) (by omega) (by omega) rfl (fun c1 => ?_) (fun c1 => ?_)
      · refine u_iload_n h dX3_sum_27 rfl 1 rfl rfl ?_
        exact u_iret h hRT dX3_sum_28 (by omega) (by omega) (by exact ⟨by rw [hn, show v = 6 by omega], rfl⟩)
      · refine u_iload_n h dX3_sum_10 rfl 1 rfl rfl ?_
        refine u_aload_n h dX3_sum_11 rfl 2 rfl rfl ?_
        refine u_get h flX3_sum_18 0 (v := .ref qn) rfl rfl dX3_sum_12 rfl ?_
        refine u_iload_n h dX3_sum_15 rfl 3 rfl rfl ?_
        refine u_iload_n h dX3_sum_16 rfl 0 rfl rfl ?_
        refine u_iadd (v := (nI (c + v))) h dX3_sum_17 (nI_add c v) rfl ?_
        refine u_iald h (n := (c + v)) 3 rfl (by omega) (by omega) dX3_sum_18 rfl ?_
        refine u_top (y := (z (62 + (c + v)))) (cnt_at (by omega)) ?_
        refine u_iadd (v := (n + (z (62 + (c + v))))) h dX3_sum_19 rfl rfl ?_
        refine u_istore_n (lv' := [(2, .int (n + (z (62 + (c + v))))), (3, .int (nI v)), (0, .ref hs), (1, .int (nI c))]) h dX3_sum_20 rfl (by rw [hL]; decide) rfl rfl ?_
        refine u_iinc (k := 1) (v := (nI (v + 1))) (lv' := [(3, .int (nI (v + 1))), (2, .int (n + (z (62 + (c + v))))), (0, .ref hs), (1, .int (nI c))]) h dX3_sum_21 rfl (nI_add v 1) (by rw [hL]; decide) rfl rfl ?_
        refine u_goto (tgt := 4) h dX3_sum_24 (by decide) ?_
        exact ihL _ (by omega) (v + 1) (n + (z (62 + (c + v)))) rfl (by omega) (by rw [hn]; simp only [sumZ]; rw [Nat.add_assoc])
  exact LL _ 0 0 rfl (Nat.zero_le _) rfl

theorem flX3_present_14 : FL wsX3_present RX3 14 3 0 := ⟨RX3, TX3, 5, rfl, by decide, by decide +kernel, by decide +kernel⟩
set_option maxRecDepth 20000 in
theorem cwX3_present_X1_countAt : CWd wsX3_present (wsV RX3 42 RX1 yX1_countAt wsX1_countAt) yX1_countAt wsX1_countAt cX1_countAt 4 (some .int) 1 := ⟨gX3_present_X1_countAt, ⟨_, rfl⟩, by decide +kernel, by decide, by decide⟩
set_option maxHeartbeats 8000000 in
set_option maxRecDepth 100000 in
theorem kX3_present (G : Gx) (hs ql qc qn qe : Nat) (z : Zf)  : MC G yX3_present wsX3_present ({ frames := 2, cells := 0, slots := 0, locals := 44 } : Room) [.ref hs] [(hs, .inr (3, [.ref ql, .ref qn, .ref qe, .int (z 53), .int (z 61)])), (ql, .inr (1, [.ref qc])), (qc, aI G 54 (encC z)), (qn, aI G 24 (cntC z)), (qe, aI G 6 (linC z))] (fun v' u' => v' = some (.int (cntZ z 6)) ∧ u' = [(hs, .inr (3, [.ref ql, .ref qn, .ref qe, .int (z 53), .int (z 61)])), (ql, .inr (1, [.ref qc])), (qc, aI G 54 (encC z)), (qn, aI G 24 (cntC z)), (qe, aI G 6 (linC z))]) 0 0 := by
  refine mc_of (cc := cX3_present) (maxL := 1) (ret := (some .int)) (by decide) rfl (Nat.le_of_ble_eq_true rfl) (fun X h hR hL hRT => ?_)
  refine u_eql (lv' := [(0, .ref hs)]) rfl ?_
  refine u_bipush (v := 6) h dX3_present_0 (by decide) rfl ?_
  refine u_aload_n h dX3_present_2 rfl 0 rfl rfl ?_
  refine u_get h flX3_present_14 0 (v := .ref ql) rfl rfl dX3_present_3 rfl ?_
  refine u_iconst (v := 0) h dX3_present_6 (by decide) rfl ?_
  refine u_callV h (As := [.int 0]) (wc := [(ql, .inr (1, [.ref qc])), (qc, aI G 54 (encC z))]) (wr := [(hs, .inr (3, [.ref ql, .ref qn, .ref qe, .int (z 53), .int (z 61)])), (qn, aI G 24 (cntC z)), (qe, aI G 6 (linC z))]) (kX1_countAt G ql qc z 0) cwX3_present_X1_countAt rfl rfl hR ⟨⟨rfl, rfl⟩, by decide, by decide⟩ ⟨Nat.le_of_ble_eq_true rfl, Nat.le_of_ble_eq_true rfl⟩ (ci := 1) (qr := 1) rfl rfl [1, 2] [0, 3, 4] rfl rfl rfl rfl (by decide) (Nat.le_of_ble_eq_true rfl) rfl dX3_present_7 rfl (fun v9 u9 hp9 => ?_)
  obtain ⟨rfl, rfl⟩ := hp9
  refine u_wp (ws' := [(hs, .inr (3, [.ref ql, .ref qn, .ref qe, .int (z 53), .int (z 61)])), (ql, .inr (1, [.ref qc])), (qc, aI G 54 (encC z)), (qn, aI G 24 (cntC z)), (qe, aI G 6 (linC z))]) [0, 3, 4, 1, 2] rfl rfl ?_
  refine u_eqs (st' := [.int (atM z 0 6), .int 6]) rfl ?_
  refine u_isub (v := (6 - (atM z 0 6))) h dX3_present_10 rfl rfl ?_
  exact u_iret h hRT dX3_present_11 (by omega) (by omega) (by exact ⟨by rw [← pres_eq], rfl⟩)

theorem flX3_visitorAt_25 : FL wsX3_visitorAt RX3 25 3 3 := ⟨RX3, TX3, 5, rfl, by decide, by decide +kernel, by decide +kernel⟩
theorem flX3_visitorAt_22 : FL wsX3_visitorAt RX3 22 3 2 := ⟨RX3, TX3, 5, rfl, by decide, by decide +kernel, by decide +kernel⟩
set_option maxHeartbeats 8000000 in
set_option maxRecDepth 100000 in
theorem kX3_visitorAt (G : Gx) (hs ql qc qn qe : Nat) (z : Zf) (j m : Nat) (hj : j < 2 ^ 31) (hm : m ≤ 6) (h53 : z 53 = nI m) : MC G yX3_visitorAt wsX3_visitorAt ({ frames := 0, cells := 0, slots := 0, locals := 0 } : Room) [.ref hs, .int (nI j)] [(hs, .inr (3, [.ref ql, .ref qn, .ref qe, .int (z 53), .int (z 61)])), (ql, .inr (1, [.ref qc])), (qc, aI G 54 (encC z)), (qn, aI G 24 (cntC z)), (qe, aI G 6 (linC z))] (fun v' u' => v' = some (.int (if nI j < z 53 then z (54 + j) else -5)) ∧ u' = [(hs, .inr (3, [.ref ql, .ref qn, .ref qe, .int (z 53), .int (z 61)])), (ql, .inr (1, [.ref qc])), (qc, aI G 54 (encC z)), (qn, aI G 24 (cntC z)), (qe, aI G 6 (linC z))]) 0 0 := by
  refine mc_of (cc := cX3_visitorAt) (maxL := 2) (ret := (some .int)) (by decide) rfl (Nat.le_of_ble_eq_true rfl) (fun X h hR hL hRT => ?_)
  refine u_eql (lv' := [(0, .ref hs), (1, .int (nI j))]) rfl ?_
  refine u_iload_n h dX3_visitorAt_0 rfl 1 rfl rfl ?_
  refine u_if_lt_N (a := j) (tgt := 21) h dX3_visitorAt_1 (by decide) (by omega) rfl (fun c1 => ?_) (fun c1 => ?_)
  · omega
  · refine u_iload_n h dX3_visitorAt_4 rfl 1 rfl rfl ?_
    refine u_aload_n h dX3_visitorAt_5 rfl 0 rfl rfl ?_
    refine u_get h flX3_visitorAt_25 0 (v := .int (z 53)) rfl rfl dX3_visitorAt_6 rfl ?_
    refine u_top (y := nI m) h53 ?_
    refine u_icmp_ge_N (a := j) (b := m) (tgt := 21) h dX3_visitorAt_9 (by decide) (by omega) (by omega) rfl (fun c2 => ?_) (fun c2 => ?_)
    · refine u_bipush (v := (-5)) h dX3_visitorAt_21 (by decide) rfl ?_
      exact u_iret h hRT dX3_visitorAt_23 (by omega) (by omega) (by exact ⟨by rw [h53, if_neg (fun q9 => absurd ((nI_ltI (by omega) (by omega)).mp q9) (by omega))], rfl⟩)
    · refine u_aload_n h dX3_visitorAt_12 rfl 0 rfl rfl ?_
      refine u_get h flX3_visitorAt_22 0 (v := .ref qe) rfl rfl dX3_visitorAt_13 rfl ?_
      refine u_iload_n h dX3_visitorAt_16 rfl 1 rfl rfl ?_
      refine u_iald h (n := j) 4 rfl (by omega) (by omega) dX3_visitorAt_17 rfl ?_
      refine u_top (y := (z (54 + j))) (lin_at (by omega)) ?_
      refine u_goto (tgt := 23) h dX3_visitorAt_18 (by decide) ?_
      exact u_iret h hRT dX3_visitorAt_23 (by omega) (by omega) (by exact ⟨by rw [h53, if_pos ((nI_ltI (by omega) (by omega)).mpr (by omega))], rfl⟩)

theorem flX3_placeOf_25 : FL wsX3_placeOf RX3 25 3 3 := ⟨RX3, TX3, 5, rfl, by decide, by decide +kernel, by decide +kernel⟩
theorem flX3_placeOf_22 : FL wsX3_placeOf RX3 22 3 2 := ⟨RX3, TX3, 5, rfl, by decide, by decide +kernel, by decide +kernel⟩
set_option maxHeartbeats 8000000 in
set_option maxRecDepth 100000 in
theorem kX3_placeOf (G : Gx) (hs ql qc qn qe : Nat) (z : Zf) (v m : Nat) (hv : v < 6) (hm : m ≤ 6) (h53 : z 53 = nI m) (hu : ∀ i j : Nat, i < m → j < m → z (54 + i) = z (54 + j) → i = j) : MC G yX3_placeOf wsX3_placeOf ({ frames := 0, cells := 0, slots := 0, locals := 0 } : Room) [.ref hs, .int (nI v)] [(hs, .inr (3, [.ref ql, .ref qn, .ref qe, .int (z 53), .int (z 61)])), (ql, .inr (1, [.ref qc])), (qc, aI G 54 (encC z)), (qn, aI G 24 (cntC z)), (qe, aI G 6 (linC z))] (fun v' u' => v' = some (.int (plc z v m)) ∧ u' = [(hs, .inr (3, [.ref ql, .ref qn, .ref qe, .int (z 53), .int (z 61)])), (ql, .inr (1, [.ref qc])), (qc, aI G 54 (encC z)), (qn, aI G 24 (cntC z)), (qe, aI G 6 (linC z))]) 0 0 := by
  refine mc_of (cc := cX3_placeOf) (maxL := 3) (ret := (some .int)) (by decide) rfl (Nat.le_of_ble_eq_true rfl) (fun X h hR hL hRT => ?_)
  refine u_eql (lv' := [(0, .ref hs), (1, .int (nI v))]) rfl ?_
  refine u_iconst (v := 0) h dX3_placeOf_0 (by decide) rfl ?_
  refine u_istore_n (lv' := [(2, .int 0), (0, .ref hs), (1, .int (nI v))]) h dX3_placeOf_1 rfl (by rw [hL]; decide) rfl rfl ?_
  have LL : ∀ (k9 : Nat) (k : Nat), m - k = k9 → (k ≤ m) → (∀ j : Nat, j < k → ¬ z (54 + j) = nI v) → U G X 0 0 [(hs, .inr (3, [.ref ql, .ref qn, .ref qe, .int (z 53), .int (z 61)])), (ql, .inr (1, [.ref qc])), (qc, aI G 54 (encC z)), (qn, aI G 24 (cntC z)), (qe, aI G 6 (linC z))] 2 [(2, .int (nI k)), (0, .ref hs), (1, .int (nI v))] [] := by
    intro k9
    induction k9 using Nat.strongRecOn with
    | _ k9 ihL =>
      intro k hk9 hk hn
      subst hk9
      refine u_iload_n h dX3_placeOf_2 rfl 0 rfl rfl ?_
      refine u_aload_n h dX3_placeOf_3 rfl 1 rfl rfl ?_
      refine u_get h flX3_placeOf_25 0 (v := .int (z 53)) rfl rfl dX3_placeOf_4 rfl ?_
      refine u_top (y := nI m) h53 ?_
      refine u_icmp_ge_N (a := k) (b := m) (tgt := 28) h dX3_placeOf_7 (by decide) (by omega) (by omega) rfl (fun c1 => ?_) (fun c1 => ?_)
      · refine u_bipush (v := (-5)) h dX3_placeOf_28 (by decide) rfl ?_
        exact u_iret h hRT dX3_placeOf_30 (by omega) (by omega) (by exact ⟨by rw [plc_none (fun j hj => hn j (by omega))], rfl⟩)
      · refine u_aload_n h dX3_placeOf_10 rfl 1 rfl rfl ?_
        refine u_get h flX3_placeOf_22 0 (v := .ref qe) rfl rfl dX3_placeOf_11 rfl ?_
        refine u_iload_n h dX3_placeOf_14 rfl 0 rfl rfl ?_
        refine u_iald h (n := k) 4 rfl (by omega) (by omega) dX3_placeOf_15 rfl ?_
        refine u_top (y := (z (54 + k))) (lin_at (by omega)) ?_
        refine u_iload_n h dX3_placeOf_16 rfl 2 rfl rfl ?_
        refine u_icmp_ne (tgt := 22) h dX3_placeOf_17 (by decide) rfl (fun c2 => ?_) (fun c2 => ?_)
        · refine u_iinc (k := 0) (v := (nI (k + 1))) (lv' := [(2, .int (nI (k + 1))), (0, .ref hs), (1, .int (nI v))]) h dX3_placeOf_22 rfl (nI_add k 1) (by rw [hL]; decide) rfl rfl ?_
          refine u_goto (tgt := 2) h dX3_placeOf_25 (by decide) ?_
          exact ihL _ (by omega) (k + 1) rfl (by omega) (fun j hj => by rcases Nat.lt_or_ge j k with q9 | q9; exact hn j q9; rw [show j = k by omega]; exact c2)
        · refine u_iload_n h dX3_placeOf_20 rfl 0 rfl rfl ?_
          exact u_iret h hRT dX3_placeOf_21 (by omega) (by omega) (by exact ⟨by rw [plc_of (i := k) (by omega) c2 (fun j hj e9 => hu j k hj (by omega) (by rw [e9, c2]))], rfl⟩)
  exact LL _ 0 rfl (Nat.zero_le _) (fun j hj => absurd hj (Nat.not_lt_zero j))

theorem flX3_joinLine_25 : FL wsX3_joinLine RX3 25 3 3 := ⟨RX3, TX3, 5, rfl, by decide, by decide +kernel, by decide +kernel⟩
theorem flX3_joinLine_22 : FL wsX3_joinLine RX3 22 3 2 := ⟨RX3, TX3, 5, rfl, by decide, by decide +kernel, by decide +kernel⟩
theorem fwX3_joinLine_25 : FW wsX3_joinLine RX3 25 3 3 false .int := ⟨RX3, TX3, 5, tyX3, rfl, by decide, by decide +kernel, by decide +kernel, tyX3_ok, nmX3, rfl, by decide +kernel, rfl⟩
set_option maxHeartbeats 8000000 in
set_option maxRecDepth 100000 in
theorem kX3_joinLine (G : Gx) (hs ql qn qe m : Nat) (x : Int32) (f : Zf) (v : Nat) (hm : m < 6) : MC G yX3_joinLine wsX3_joinLine ({ frames := 0, cells := 0, slots := 0, locals := 0 } : Room) [.ref hs, .int (nI v)] [(hs, .inr (3, [.ref ql, .ref qn, .ref qe, .int (nI m), .int x])), (qe, aI G 6 f)] (fun v' u' => v' = none ∧ u' = [(hs, .inr (3, [.ref ql, .ref qn, .ref qe, .int (nI (m + 1)), .int x])), (qe, aI G 6 (upd f m (nI v)))]) 0 0 := by
  refine mc_of (cc := cX3_joinLine) (maxL := 2) (ret := none) (by decide) rfl (Nat.le_of_ble_eq_true rfl) (fun X h hR hL hRT => ?_)
  refine u_eql (lv' := [(0, .ref hs), (1, .int (nI v))]) rfl ?_
  refine u_aload_n h dX3_joinLine_0 rfl 0 rfl rfl ?_
  refine u_get h flX3_joinLine_25 0 (v := .int (nI m)) rfl rfl dX3_joinLine_1 rfl ?_
  refine u_bipush (v := 6) h dX3_joinLine_4 (by decide) rfl ?_
  refine u_icmp_ge_N (a := m) (b := 6) (tgt := 29) h dX3_joinLine_6 (by decide) (by omega) (by omega) rfl (fun c1 => ?_) (fun c1 => ?_)
  · omega
  · refine u_aload_n h dX3_joinLine_9 rfl 0 rfl rfl ?_
    refine u_get h flX3_joinLine_22 0 (v := .ref qe) rfl rfl dX3_joinLine_10 rfl ?_
    refine u_aload_n h dX3_joinLine_13 rfl 0 rfl rfl ?_
    refine u_get h flX3_joinLine_25 0 (v := .int (nI m)) rfl rfl dX3_joinLine_14 rfl ?_
    refine u_iload_n h dX3_joinLine_17 rfl 1 rfl rfl ?_
    refine u_iast h (n := m) (v := (nI v)) 1 rfl (by omega) (by omega) rfl (ws' := [(hs, .inr (3, [.ref ql, .ref qn, .ref qe, .int (nI m), .int x])), (qe, aI G 6 (upd f m (nI v)))]) rfl dX3_joinLine_18 rfl ?_
    refine u_aload_n h dX3_joinLine_19 rfl 0 rfl rfl ?_
    refine u_dup h dX3_joinLine_20 rfl rfl ?_
    refine u_get h flX3_joinLine_25 0 (v := .int (nI m)) rfl rfl dX3_joinLine_21 rfl ?_
    refine u_iconst (v := 1) h dX3_joinLine_24 (by decide) rfl ?_
    refine u_iadd (v := (nI (m + 1))) h dX3_joinLine_25 (nI_add m 1) rfl ?_
    refine u_put h fwX3_joinLine_25 (ws' := [(hs, .inr (3, [.ref ql, .ref qn, .ref qe, .int (nI (m + 1)), .int x])), (qe, aI G 6 (upd f m (nI v)))]) 0 rfl (Nat.le_of_ble_eq_true rfl) rfl rfl rfl dX3_joinLine_26 rfl ?_
    exact u_vret h hRT dX3_joinLine_29 (by omega) (by omega) (by exact ⟨rfl, rfl⟩)

theorem flX3_leaveLine_25 : FL wsX3_leaveLine RX3 25 3 3 := ⟨RX3, TX3, 5, rfl, by decide, by decide +kernel, by decide +kernel⟩
theorem fwX3_leaveLine_25 : FW wsX3_leaveLine RX3 25 3 3 false .int := ⟨RX3, TX3, 5, tyX3, rfl, by decide, by decide +kernel, by decide +kernel, tyX3_ok, nmX3, rfl, by decide +kernel, rfl⟩
theorem flX3_leaveLine_22 : FL wsX3_leaveLine RX3 22 3 2 := ⟨RX3, TX3, 5, rfl, by decide, by decide +kernel, by decide +kernel⟩
set_option maxHeartbeats 8000000 in
set_option maxRecDepth 100000 in
theorem kX3_leaveLine (G : Gx) (hs ql qn qe m : Nat) (x : Int32) (f : Zf) (v : Nat) (hm : m ≤ 6) : MC G yX3_leaveLine wsX3_leaveLine ({ frames := 0, cells := 0, slots := 0, locals := 0 } : Room) [.ref hs, .int (nI v)] [(hs, .inr (3, [.ref ql, .ref qn, .ref qe, .int (nI m), .int x])), (qe, aI G 6 f)] (fun v' u' => v' = none ∧ u' = [(hs, .inr (3, [.ref ql, .ref qn, .ref qe, .int (nI ((lvR f (nI v) m).2)), .int x])), (qe, aI G 6 ((lvR f (nI v) m).1))]) 0 0 := by
  refine mc_of (cc := cX3_leaveLine) (maxL := 4) (ret := none) (by decide) rfl (Nat.le_of_ble_eq_true rfl) (fun X h hR hL hRT => ?_)
  refine u_eql (lv' := [(0, .ref hs), (1, .int (nI v))]) rfl ?_
  refine u_iconst (v := 0) h dX3_leaveLine_0 (by decide) rfl ?_
  refine u_istore_n (lv' := [(2, .int 0), (0, .ref hs), (1, .int (nI v))]) h dX3_leaveLine_1 rfl (by rw [hL]; decide) rfl rfl ?_
  refine u_iconst (v := 0) h dX3_leaveLine_2 (by decide) rfl ?_
  refine u_istore_n (lv' := [(3, .int 0), (2, .int 0), (0, .ref hs), (1, .int (nI v))]) h dX3_leaveLine_3 rfl (by rw [hL]; decide) rfl rfl ?_
  have LL : ∀ (k9 : Nat) (k : Nat) (l9 : Nat) (e : Zf), m - k = k9 → (k ≤ m) → (e = (lvR f (nI v) k).1) → (l9 = (lvR f (nI v) k).2) → U G X 0 0 [(hs, .inr (3, [.ref ql, .ref qn, .ref qe, .int (nI m), .int x])), (qe, aI G 6 e)] 4 [(3, .int (nI k)), (2, .int (nI l9)), (0, .ref hs), (1, .int (nI v))] [] := by
    intro k9
    induction k9 using Nat.strongRecOn with
    | _ k9 ihL =>
      intro k l9 e hk9 hk he hl
      subst hk9
      have hl2 : l9 ≤ k := by rw [hl]; exact lvR_le _ _ _
      refine u_iload_n h dX3_leaveLine_4 rfl 0 rfl rfl ?_
      refine u_aload_n h dX3_leaveLine_5 rfl 2 rfl rfl ?_
      refine u_get h flX3_leaveLine_25 0 (v := .int (nI m)) rfl rfl dX3_leaveLine_6 rfl ?_
      refine u_icmp_ge_N (a := k) (b := m) (tgt := 43) h dX3_leaveLine_9 (by decide) (by omega) (by omega) rfl (fun c1 => ?_) (fun c1 => ?_)
      · refine u_aload_n h dX3_leaveLine_43 rfl 2 rfl rfl ?_
        refine u_iload_n h dX3_leaveLine_44 rfl 1 rfl rfl ?_
        refine u_put h fwX3_leaveLine_25 (ws' := [(hs, .inr (3, [.ref ql, .ref qn, .ref qe, .int (nI l9), .int x])), (qe, aI G 6 e)]) 0 rfl (Nat.le_of_ble_eq_true rfl) rfl rfl rfl dX3_leaveLine_45 rfl ?_
        exact u_vret h hRT dX3_leaveLine_48 (by omega) (by omega) (by exact ⟨rfl, by rw [he, hl, show k = m by omega]⟩)
      · refine u_aload_n h dX3_leaveLine_12 rfl 2 rfl rfl ?_
        refine u_get h flX3_leaveLine_22 0 (v := .ref qe) rfl rfl dX3_leaveLine_13 rfl ?_
        refine u_iload_n h dX3_leaveLine_16 rfl 0 rfl rfl ?_
        refine u_iald h (n := k) 1 rfl (by omega) (by omega) dX3_leaveLine_17 rfl ?_
        refine u_iload_n h dX3_leaveLine_18 rfl 3 rfl rfl ?_
        refine u_icmp_eq (tgt := 37) h dX3_leaveLine_19 (by decide) rfl (fun c2 => ?_) (fun c2 => ?_)
        · refine u_iinc (k := 0) (v := (nI (k + 1))) (lv' := [(3, .int (nI (k + 1))), (2, .int (nI l9)), (0, .ref hs), (1, .int (nI v))]) h dX3_leaveLine_37 rfl (nI_add k 1) (by rw [hL]; decide) rfl rfl ?_
          refine u_goto (tgt := 4) h dX3_leaveLine_40 (by decide) ?_
          exact ihL _ (by omega) (k + 1) l9 e rfl (by omega) (by simp only [lvR]; rw [← he, if_pos c2]; exact he) (by simp only [lvR]; rw [← he, if_pos c2]; exact hl)
        · refine u_aload_n h dX3_leaveLine_22 rfl 2 rfl rfl ?_
          refine u_get h flX3_leaveLine_22 0 (v := .ref qe) rfl rfl dX3_leaveLine_23 rfl ?_
          refine u_iload_n h dX3_leaveLine_26 rfl 1 rfl rfl ?_
          refine u_aload_n h dX3_leaveLine_27 rfl 2 rfl rfl ?_
          refine u_get h flX3_leaveLine_22 0 (v := .ref qe) rfl rfl dX3_leaveLine_28 rfl ?_
          refine u_iload_n h dX3_leaveLine_31 rfl 0 rfl rfl ?_
          refine u_iald h (n := k) 1 rfl (by omega) (by omega) dX3_leaveLine_32 rfl ?_
          refine u_iast h (n := l9) (v := (e k)) 1 rfl (by omega) (by omega) rfl (ws' := [(hs, .inr (3, [.ref ql, .ref qn, .ref qe, .int (nI m), .int x])), (qe, aI G 6 (upd e l9 (e k)))]) rfl dX3_leaveLine_33 rfl ?_
          refine u_iinc (k := 1) (v := (nI (l9 + 1))) (lv' := [(2, .int (nI (l9 + 1))), (3, .int (nI k)), (0, .ref hs), (1, .int (nI v))]) h dX3_leaveLine_34 rfl (nI_add l9 1) (by rw [hL]; decide) rfl rfl ?_
          refine u_iinc (k := 1) (v := (nI (k + 1))) (lv' := [(3, .int (nI (k + 1))), (2, .int (nI (l9 + 1))), (0, .ref hs), (1, .int (nI v))]) h dX3_leaveLine_37 rfl (nI_add k 1) (by rw [hL]; decide) rfl rfl ?_
          refine u_goto (tgt := 4) h dX3_leaveLine_40 (by decide) ?_
          exact ihL _ (by omega) (k + 1) (l9 + 1) (upd e l9 (e k)) rfl (by omega) (by simp only [lvR]; rw [← he, if_neg c2, ← hl]) (by simp only [lvR]; rw [← he, if_neg c2, ← hl])
  exact LL _ 0 0 f rfl (Nat.zero_le _) rfl rfl

theorem flX3_advance_14 : FL wsX3_advance RX3 14 3 0 := ⟨RX3, TX3, 5, rfl, by decide, by decide +kernel, by decide +kernel⟩
theorem flX3_advance_18 : FL wsX3_advance RX3 18 3 1 := ⟨RX3, TX3, 5, rfl, by decide, by decide +kernel, by decide +kernel⟩
set_option maxRecDepth 20000 in
theorem cwX3_advance_X1_queues : CWd wsX3_advance (wsV RX3 46 RX1 yX1_queues wsX1_queues) yX1_queues wsX1_queues cX1_queues 2 (some .boolean) 1 := ⟨gX3_advance_X1_queues, ⟨_, rfl⟩, by decide +kernel, by decide, by decide⟩
set_option maxRecDepth 20000 in
theorem cwX3_advance_X1_touches : CWd wsX3_advance (wsV RX3 50 RX1 yX1_touches wsX1_touches) yX1_touches wsX1_touches cX1_touches 3 (some .int) 1 := ⟨gX3_advance_X1_touches, ⟨_, rfl⟩, by decide +kernel, by decide, by decide⟩
set_option maxRecDepth 20000 in
theorem cwX3_advance_X1_waits : CWd wsX3_advance (wsV RX3 53 RX1 yX1_waits wsX1_waits) yX1_waits wsX1_waits cX1_waits 3 (some .boolean) 1 := ⟨gX3_advance_X1_waits, ⟨_, rfl⟩, by decide +kernel, by decide, by decide⟩
set_option maxRecDepth 20000 in
theorem cwX3_advance_X1_advance : CWd wsX3_advance (wsV RX3 56 RX1 yX1_advance wsX1_advance) yX1_advance wsX1_advance cX1_advance 2 none 1 := ⟨gX3_advance_X1_advance, ⟨_, rfl⟩, by decide +kernel, by decide, by decide⟩
set_option maxRecDepth 20000 in
theorem cwX3_advance_X1_stage : CWd wsX3_advance (wsV RX3 60 RX1 yX1_stage wsX1_stage) yX1_stage wsX1_stage cX1_stage 2 (some .int) 1 := ⟨gX3_advance_X1_stage, ⟨_, rfl⟩, by decide +kernel, by decide, by decide⟩
set_option maxRecDepth 20000 in
theorem cwX3_advance_X3_leaveLine : CWd wsX3_advance (wsV RX3 66 RX3 yX3_leaveLine wsX3_leaveLine) yX3_leaveLine wsX3_leaveLine cX3_leaveLine 4 none 1 := ⟨gX3_advance_X3_leaveLine, ⟨_, rfl⟩, by decide +kernel, by decide, by decide⟩
set_option maxRecDepth 20000 in
theorem cwX3_advance_X3_joinLine : CWd wsX3_advance (wsV RX3 63 RX3 yX3_joinLine wsX3_joinLine) yX3_joinLine wsX3_joinLine cX3_joinLine 2 none 1 := ⟨gX3_advance_X3_joinLine, ⟨_, rfl⟩, by decide +kernel, by decide, by decide⟩
set_option maxHeartbeats 8000000 in
set_option maxRecDepth 100000 in
theorem kX3_advance (G : Gx) (hs ql qc qn qe : Nat) (z : Zf) (v : Nat) (hv : v < 6) (hW : Wc z) (hLi : Li z) : MC G yX3_advance wsX3_advance ({ frames := 5, cells := 0, slots := 0, locals := 105 } : Room) [.ref hs, .int (nI v)] [(hs, .inr (3, [.ref ql, .ref qn, .ref qe, .int (z 53), .int (z 61)])), (ql, .inr (1, [.ref qc])), (qc, aI G 54 (encC z)), (qn, aI G 24 (cntC z)), (qe, aI G 6 (linC z))] (fun v' u' => v' = none ∧ u' = [(hs, .inr (3, [.ref ql, .ref qn, .ref qe, .int ((stM z v) 53), .int ((stM z v) 61)])), (ql, .inr (1, [.ref qc])), (qc, aI G 54 (encC (stM z v))), (qn, aI G 24 (cntC (stM z v))), (qe, aI G 6 (linC (stM z v)))]) 0 0 := by
  refine mc_of (cc := cX3_advance) (maxL := 3) (ret := none) (by decide) rfl (Nat.le_of_ble_eq_true rfl) (fun X h hR hL hRT => ?_)
  refine u_eql (lv' := [(0, .ref hs), (1, .int (nI v))]) rfl ?_
  obtain ⟨m, hm, h53⟩ := hW.1.m
  refine u_eqw (ws' := [(hs, .inr (3, [.ref ql, .ref qn, .ref qe, .int (nI m), .int (z 61)])), (ql, .inr (1, [.ref qc])), (qc, aI G 54 (encC z)), (qn, aI G 24 (cntC z)), (qe, aI G 6 (linC z))]) (by rw [h53]) ?_
  refine u_aload_n h dX3_advance_0 rfl 0 rfl rfl ?_
  refine u_get h flX3_advance_14 0 (v := .ref ql) rfl rfl dX3_advance_1 rfl ?_
  refine u_iload_n h dX3_advance_4 rfl 1 rfl rfl ?_
  refine u_callV h (As := [.int (nI v)]) (wc := [(ql, .inr (1, [.ref qc])), (qc, aI G 54 (encC z))]) (wr := [(hs, .inr (3, [.ref ql, .ref qn, .ref qe, .int (nI m), .int (z 61)])), (qn, aI G 24 (cntC z)), (qe, aI G 6 (linC z))]) (kX1_queues G ql qc z v hv) cwX3_advance_X1_queues rfl rfl hR ⟨⟨rfl, rfl⟩, by decide, by decide⟩ ⟨Nat.le_of_ble_eq_true rfl, Nat.le_of_ble_eq_true rfl⟩ (ci := 1) (qr := 1) rfl rfl [1, 2] [0, 3, 4] rfl rfl rfl rfl (by decide) (Nat.le_of_ble_eq_true rfl) rfl dX3_advance_5 rfl (fun v9 u9 hp9 => ?_)
  obtain ⟨rfl, rfl⟩ := hp9
  refine u_wp (ws' := [(hs, .inr (3, [.ref ql, .ref qn, .ref qe, .int (nI m), .int (z 61)])), (ql, .inr (1, [.ref qc])), (qc, aI G 54 (encC z)), (qn, aI G 24 (cntC z)), (qe, aI G 6 (linC z))]) [0, 3, 4, 1, 2] rfl rfl ?_
  refine u_eqs (st' := [.int (bI (quB z v))]) rfl ?_
  refine u_istore_n (lv' := [(2, .int (bI (quB z v))), (0, .ref hs), (1, .int (nI v))]) h dX3_advance_8 rfl (by rw [hL]; decide) rfl rfl ?_
  refine u_aload_n h dX3_advance_9 rfl 1 rfl rfl ?_
  refine u_get h flX3_advance_18 0 (v := .ref qn) rfl rfl dX3_advance_10 rfl ?_
  refine u_iconst (v := 0) h dX3_advance_13 (by decide) rfl ?_
  refine u_iload_n h dX3_advance_14 rfl 2 rfl rfl ?_
  refine u_iadd (v := (nI v)) h dX3_advance_15 (by have h9 := nI_add 0 v; rw [Nat.zero_add] at h9; exact h9) rfl ?_
  refine u_dup2 h dX3_advance_16 rfl rfl rfl ?_
  refine u_iald h (n := v) 3 rfl (by omega) (by omega) dX3_advance_17 rfl ?_
  refine u_top (y := (z (62 + v))) (cnt_at (by omega)) ?_
  refine u_iconst (v := 1) h dX3_advance_18 (by decide) rfl ?_
  refine u_iadd (v := ((z (62 + v)) + 1)) h dX3_advance_19 rfl rfl ?_
  refine u_iast h (n := v) (v := ((z (62 + v)) + 1)) 3 rfl (by omega) (by omega) rfl (ws' := [(hs, .inr (3, [.ref ql, .ref qn, .ref qe, .int (nI m), .int (z 61)])), (ql, .inr (1, [.ref qc])), (qc, aI G 54 (encC z)), (qn, aI G 24 (upd (cntC z) v ((z (62 + v)) + 1))), (qe, aI G 6 (linC z))]) rfl dX3_advance_20 rfl ?_
  refine u_aload_n h dX3_advance_21 rfl 1 rfl rfl ?_
  refine u_get h flX3_advance_18 0 (v := .ref qn) rfl rfl dX3_advance_22 rfl ?_
  refine u_bipush (v := 18) h dX3_advance_25 (by decide) rfl ?_
  refine u_iload_n h dX3_advance_27 rfl 2 rfl rfl ?_
  refine u_iadd (v := (nI (18 + v))) h dX3_advance_28 (nI_add 18 v) rfl ?_
  refine u_dup2 h dX3_advance_29 rfl rfl rfl ?_
  refine u_iald h (n := (18 + v)) 3 rfl (by omega) (by omega) dX3_advance_30 rfl ?_
  refine u_top (y := ((cntC z) (18 + v))) (by rw [pk_un (by omega)]) ?_
  refine u_top (y := (z (62 + (18 + v)))) (cnt_at (by omega)) ?_
  refine u_aload_n h dX3_advance_31 rfl 1 rfl rfl ?_
  refine u_get h flX3_advance_14 0 (v := .ref ql) rfl rfl dX3_advance_32 rfl ?_
  refine u_iload_n h dX3_advance_35 rfl 2 rfl rfl ?_
  refine u_callV h (As := [.int (nI v)]) (wc := [(ql, .inr (1, [.ref qc])), (qc, aI G 54 (encC z))]) (wr := [(hs, .inr (3, [.ref ql, .ref qn, .ref qe, .int (nI m), .int (z 61)])), (qn, aI G 24 (upd (cntC z) v ((z (62 + v)) + 1))), (qe, aI G 6 (linC z))]) (kX1_touches G ql qc z v hv hW) cwX3_advance_X1_touches rfl rfl hR ⟨⟨rfl, rfl⟩, by decide, by decide⟩ ⟨Nat.le_of_ble_eq_true rfl, Nat.le_of_ble_eq_true rfl⟩ (ci := 1) (qr := 1) rfl rfl [1, 2] [0, 3, 4] rfl rfl rfl rfl (by decide) (Nat.le_of_ble_eq_true rfl) rfl dX3_advance_36 rfl (fun v9 u9 hp9 => ?_)
  obtain ⟨rfl, rfl⟩ := hp9
  refine u_wp (ws' := [(hs, .inr (3, [.ref ql, .ref qn, .ref qe, .int (nI m), .int (z 61)])), (ql, .inr (1, [.ref qc])), (qc, aI G 54 (encC z)), (qn, aI G 24 (upd (cntC z) v ((z (62 + v)) + 1))), (qe, aI G 6 (linC z))]) [0, 3, 4, 1, 2] rfl rfl ?_
  refine u_eqs (st' := [.int (costM (z 60) (z v)), .int (z (62 + (18 + v))), .int (nI (18 + v)), .ref qn]) rfl ?_
  refine u_iadd (v := ((z (62 + (18 + v))) + (costM (z 60) (z v)))) h dX3_advance_39 rfl rfl ?_
  refine u_iast h (n := (18 + v)) (v := ((z (62 + (18 + v))) + (costM (z 60) (z v)))) 3 rfl (by omega) (by omega) rfl (ws' := [(hs, .inr (3, [.ref ql, .ref qn, .ref qe, .int (nI m), .int (z 61)])), (ql, .inr (1, [.ref qc])), (qc, aI G 54 (encC z)), (qn, aI G 24 (upd (upd (cntC z) v ((z (62 + v)) + 1)) (18 + v) ((z (62 + (18 + v))) + (costM (z 60) (z v))))), (qe, aI G 6 (linC z))]) rfl dX3_advance_40 rfl ?_
  refine u_aload_n h dX3_advance_41 rfl 1 rfl rfl ?_
  refine u_get h flX3_advance_14 0 (v := .ref ql) rfl rfl dX3_advance_42 rfl ?_
  refine u_iload_n h dX3_advance_45 rfl 2 rfl rfl ?_
  refine u_callV h (As := [.int (nI v)]) (wc := [(ql, .inr (1, [.ref qc])), (qc, aI G 54 (encC z))]) (wr := [(hs, .inr (3, [.ref ql, .ref qn, .ref qe, .int (nI m), .int (z 61)])), (qn, aI G 24 (upd (upd (cntC z) v ((z (62 + v)) + 1)) (18 + v) ((z (62 + (18 + v))) + (costM (z 60) (z v))))), (qe, aI G 6 (linC z))]) (kX1_waits G ql qc z v hv hW) cwX3_advance_X1_waits rfl rfl hR ⟨⟨rfl, rfl⟩, by decide, by decide⟩ ⟨Nat.le_of_ble_eq_true rfl, Nat.le_of_ble_eq_true rfl⟩ (ci := 1) (qr := 1) rfl rfl [1, 2] [0, 3, 4] rfl rfl rfl rfl (by decide) (Nat.le_of_ble_eq_true rfl) rfl dX3_advance_46 rfl (fun v9 u9 hp9 => ?_)
  obtain ⟨rfl, rfl⟩ := hp9
  refine u_wp (ws' := [(hs, .inr (3, [.ref ql, .ref qn, .ref qe, .int (nI m), .int (z 61)])), (ql, .inr (1, [.ref qc])), (qc, aI G 54 (encC z)), (qn, aI G 24 (upd (upd (cntC z) v ((z (62 + v)) + 1)) (18 + v) ((z (62 + (18 + v))) + (costM (z 60) (z v))))), (qe, aI G 6 (linC z))]) [0, 3, 4, 1, 2] rfl rfl ?_
  refine u_eqs (st' := [.int (bI (isLook z v))]) rfl ?_
  refine u_if_eq_B (tgt := 65) h dX3_advance_49 (by decide) rfl (fun c1 => ?_) (fun c1 => ?_)
  · refine u_aload_n h dX3_advance_65 rfl 1 rfl rfl ?_
    refine u_get h flX3_advance_14 0 (v := .ref ql) rfl rfl dX3_advance_66 rfl ?_
    refine u_iload_n h dX3_advance_69 rfl 2 rfl rfl ?_
    refine u_callV h (As := [.int (nI v)]) (wc := [(ql, .inr (1, [.ref qc])), (qc, aI G 54 (encC z))]) (wr := [(hs, .inr (3, [.ref ql, .ref qn, .ref qe, .int (nI m), .int (z 61)])), (qn, aI G 24 (upd (upd (cntC z) v ((z (62 + v)) + 1)) (18 + v) ((z (62 + (18 + v))) + (costM (z 60) (z v))))), (qe, aI G 6 (linC z))]) (kX1_advance G ql qc z v hv hW) cwX3_advance_X1_advance rfl rfl hR ⟨⟨rfl, rfl⟩, by decide, by decide⟩ ⟨Nat.le_of_ble_eq_true rfl, Nat.le_of_ble_eq_true rfl⟩ (ci := 1) (qr := 1) rfl rfl [1, 2] [0, 3, 4] rfl rfl rfl rfl (by decide) (Nat.le_of_ble_eq_true rfl) rfl dX3_advance_70 rfl (fun v9 u9 hp9 => ?_)
    obtain ⟨rfl, rfl⟩ := hp9
    refine u_wp (ws' := [(hs, .inr (3, [.ref ql, .ref qn, .ref qe, .int (nI m), .int (z 61)])), (ql, .inr (1, [.ref qc])), (qc, aI G 54 (encC (zlC z v))), (qn, aI G 24 (upd (upd (cntC z) v ((z (62 + v)) + 1)) (18 + v) ((z (62 + (18 + v))) + (costM (z 60) (z v))))), (qe, aI G 6 (linC z))]) [0, 3, 4, 1, 2] rfl rfl ?_
    refine u_eqs (st' := []) rfl ?_
    refine u_aload_n h dX3_advance_73 rfl 1 rfl rfl ?_
    refine u_get h flX3_advance_14 0 (v := .ref ql) rfl rfl dX3_advance_74 rfl ?_
    refine u_iload_n h dX3_advance_77 rfl 2 rfl rfl ?_
    refine u_callV h (As := [.int (nI v)]) (wc := [(ql, .inr (1, [.ref qc])), (qc, aI G 54 (encC (zlC z v)))]) (wr := [(hs, .inr (3, [.ref ql, .ref qn, .ref qe, .int (nI m), .int (z 61)])), (qn, aI G 24 (upd (upd (cntC z) v ((z (62 + v)) + 1)) (18 + v) ((z (62 + (18 + v))) + (costM (z 60) (z v))))), (qe, aI G 6 (linC z))]) (kX1_stage G ql qc (encC (zlC z v)) v hv) cwX3_advance_X1_stage rfl rfl hR ⟨⟨rfl, rfl⟩, by decide, by decide⟩ ⟨Nat.le_of_ble_eq_true rfl, Nat.le_of_ble_eq_true rfl⟩ (ci := 1) (qr := 1) rfl rfl [1, 2] [0, 3, 4] rfl rfl rfl rfl (by decide) (Nat.le_of_ble_eq_true rfl) rfl dX3_advance_78 rfl (fun v9 u9 hp9 => ?_)
    obtain ⟨rfl, rfl⟩ := hp9
    refine u_wp (ws' := [(hs, .inr (3, [.ref ql, .ref qn, .ref qe, .int (nI m), .int (z 61)])), (ql, .inr (1, [.ref qc])), (qc, aI G 54 (encC (zlC z v))), (qn, aI G 24 (upd (upd (cntC z) v ((z (62 + v)) + 1)) (18 + v) ((z (62 + (18 + v))) + (costM (z 60) (z v))))), (qe, aI G 6 (linC z))]) [0, 3, 4, 1, 2] rfl rfl ?_
    refine u_eqs (st' := [.int ((encC (zlC z v)) v)]) rfl ?_
    refine u_top (y := ((zlC z v) v)) (e_st hv) ?_
    refine u_if_ne (tgt := 97) h dX3_advance_81 (by decide) rfl (fun c2 => ?_) (fun c2 => ?_)
    · refine u_iload_n h dX3_advance_97 rfl 0 rfl rfl ?_
      refine u_if_ne_B (tgt := 120) h dX3_advance_98 (by decide) rfl (fun c3 => ?_) (fun c3 => ?_)
      · refine u_iload_n h dX3_advance_120 rfl 0 rfl rfl ?_
        refine u_if_eq_B (tgt := 140) h dX3_advance_121 (by decide) rfl (fun c4 => ?_) (fun c4 => ?_)
        · exact absurd c3 (by rw [c4]; decide)
        · refine u_aload_n h dX3_advance_124 rfl 1 rfl rfl ?_
          refine u_get h flX3_advance_14 0 (v := .ref ql) rfl rfl dX3_advance_125 rfl ?_
          refine u_iload_n h dX3_advance_128 rfl 2 rfl rfl ?_
          refine u_callV h (As := [.int (nI v)]) (wc := [(ql, .inr (1, [.ref qc])), (qc, aI G 54 (encC (zlC z v)))]) (wr := [(hs, .inr (3, [.ref ql, .ref qn, .ref qe, .int (nI m), .int (z 61)])), (qn, aI G 24 (upd (upd (cntC z) v ((z (62 + v)) + 1)) (18 + v) ((z (62 + (18 + v))) + (costM (z 60) (z v))))), (qe, aI G 6 (linC z))]) (kX1_queues G ql qc (zlC z v) v hv) cwX3_advance_X1_queues rfl rfl hR ⟨⟨rfl, rfl⟩, by decide, by decide⟩ ⟨Nat.le_of_ble_eq_true rfl, Nat.le_of_ble_eq_true rfl⟩ (ci := 1) (qr := 1) rfl rfl [1, 2] [0, 3, 4] rfl rfl rfl rfl (by decide) (Nat.le_of_ble_eq_true rfl) rfl dX3_advance_129 rfl (fun v9 u9 hp9 => ?_)
          obtain ⟨rfl, rfl⟩ := hp9
          refine u_wp (ws' := [(hs, .inr (3, [.ref ql, .ref qn, .ref qe, .int (nI m), .int (z 61)])), (ql, .inr (1, [.ref qc])), (qc, aI G 54 (encC (zlC z v))), (qn, aI G 24 (upd (upd (cntC z) v ((z (62 + v)) + 1)) (18 + v) ((z (62 + (18 + v))) + (costM (z 60) (z v))))), (qe, aI G 6 (linC z))]) [0, 3, 4, 1, 2] rfl rfl ?_
          refine u_eqs (st' := [.int (bI (quB (zlC z v) v))]) rfl ?_
          refine u_if_ne_B (tgt := 140) h dX3_advance_132 (by decide) rfl (fun c5 => ?_) (fun c5 => ?_)
          · exact u_vret h hRT dX3_advance_140 (by omega) (by omega) (by refine ⟨rfl, ?_⟩; obtain ⟨a1, a2, a3, a4, a5⟩ := adv_eq hv hW hLi; rw [a1, a2, a3, a4, a5]; simp [cnA, cn2, cn1, liA, lnA, joA, leA, c1, c2, c3, c4, c5, h53, nI_succ, ix_nI (show m < 2 ^ 31 by omega)]; done)
          · refine u_aload_n h dX3_advance_135 rfl 1 rfl rfl ?_
            refine u_iload_n h dX3_advance_136 rfl 2 rfl rfl ?_
            refine u_callV h (As := [.int (nI v)]) (wc := [(hs, .inr (3, [.ref ql, .ref qn, .ref qe, .int (nI m), .int (z 61)])), (qe, aI G 6 (linC z))]) (wr := [(ql, .inr (1, [.ref qc])), (qc, aI G 54 (encC (zlC z v))), (qn, aI G 24 (upd (upd (cntC z) v ((z (62 + v)) + 1)) (18 + v) ((z (62 + (18 + v))) + (costM (z 60) (z v)))))]) (kX3_leaveLine G hs ql qn qe m (z 61) (linC z) v (by omega)) cwX3_advance_X3_leaveLine rfl rfl hR ⟨⟨rfl, rfl⟩, by decide, by decide⟩ ⟨Nat.le_of_ble_eq_true rfl, Nat.le_of_ble_eq_true rfl⟩ (ci := 3) (qr := 0) rfl rfl [0, 4] [1, 2, 3] rfl rfl rfl rfl (by decide) (Nat.le_of_ble_eq_true rfl) rfl dX3_advance_137 rfl (fun v9 u9 hp9 => ?_)
            obtain ⟨rfl, rfl⟩ := hp9
            refine u_wp (ws' := [(hs, .inr (3, [.ref ql, .ref qn, .ref qe, .int (nI ((lvR (linC z) (nI v) m).2)), .int (z 61)])), (ql, .inr (1, [.ref qc])), (qc, aI G 54 (encC (zlC z v))), (qn, aI G 24 (upd (upd (cntC z) v ((z (62 + v)) + 1)) (18 + v) ((z (62 + (18 + v))) + (costM (z 60) (z v))))), (qe, aI G 6 ((lvR (linC z) (nI v) m).1))]) [3, 0, 1, 2, 4] rfl rfl ?_
            refine u_eqs (st' := []) rfl ?_
            exact u_vret h hRT dX3_advance_140 (by omega) (by omega) (by refine ⟨rfl, ?_⟩; obtain ⟨a1, a2, a3, a4, a5⟩ := adv_eq hv hW hLi; rw [a1, a2, a3, a4, a5]; simp [cnA, cn2, cn1, liA, lnA, joA, leA, c1, c2, c3, c4, c5, h53, nI_succ, ix_nI (show m < 2 ^ 31 by omega)]; done)
      · refine u_aload_n h dX3_advance_101 rfl 1 rfl rfl ?_
        refine u_get h flX3_advance_14 0 (v := .ref ql) rfl rfl dX3_advance_102 rfl ?_
        refine u_iload_n h dX3_advance_105 rfl 2 rfl rfl ?_
        refine u_callV h (As := [.int (nI v)]) (wc := [(ql, .inr (1, [.ref qc])), (qc, aI G 54 (encC (zlC z v)))]) (wr := [(hs, .inr (3, [.ref ql, .ref qn, .ref qe, .int (nI m), .int (z 61)])), (qn, aI G 24 (upd (upd (cntC z) v ((z (62 + v)) + 1)) (18 + v) ((z (62 + (18 + v))) + (costM (z 60) (z v))))), (qe, aI G 6 (linC z))]) (kX1_queues G ql qc (zlC z v) v hv) cwX3_advance_X1_queues rfl rfl hR ⟨⟨rfl, rfl⟩, by decide, by decide⟩ ⟨Nat.le_of_ble_eq_true rfl, Nat.le_of_ble_eq_true rfl⟩ (ci := 1) (qr := 1) rfl rfl [1, 2] [0, 3, 4] rfl rfl rfl rfl (by decide) (Nat.le_of_ble_eq_true rfl) rfl dX3_advance_106 rfl (fun v9 u9 hp9 => ?_)
        obtain ⟨rfl, rfl⟩ := hp9
        refine u_wp (ws' := [(hs, .inr (3, [.ref ql, .ref qn, .ref qe, .int (nI m), .int (z 61)])), (ql, .inr (1, [.ref qc])), (qc, aI G 54 (encC (zlC z v))), (qn, aI G 24 (upd (upd (cntC z) v ((z (62 + v)) + 1)) (18 + v) ((z (62 + (18 + v))) + (costM (z 60) (z v))))), (qe, aI G 6 (linC z))]) [0, 3, 4, 1, 2] rfl rfl ?_
        refine u_eqs (st' := [.int (bI (quB (zlC z v) v))]) rfl ?_
        refine u_if_eq_B (tgt := 120) h dX3_advance_109 (by decide) rfl (fun c6 => ?_) (fun c6 => ?_)
        · refine u_iload_n h dX3_advance_120 rfl 0 rfl rfl ?_
          refine u_if_eq_B (tgt := 140) h dX3_advance_121 (by decide) rfl (fun c7 => ?_) (fun c7 => ?_)
          · exact u_vret h hRT dX3_advance_140 (by omega) (by omega) (by refine ⟨rfl, ?_⟩; obtain ⟨a1, a2, a3, a4, a5⟩ := adv_eq hv hW hLi; rw [a1, a2, a3, a4, a5]; simp [cnA, cn2, cn1, liA, lnA, joA, leA, c1, c2, c3, c6, c7, h53, nI_succ, ix_nI (show m < 2 ^ 31 by omega)]; done)
          · exact absurd c3 (by rw [c7]; decide)
        · refine u_aload_n h dX3_advance_112 rfl 1 rfl rfl ?_
          refine u_iload_n h dX3_advance_113 rfl 2 rfl rfl ?_
          have hm6 : m < 6 := join_room hv hLi h53 hm c3
          refine u_callV h (As := [.int (nI v)]) (wc := [(hs, .inr (3, [.ref ql, .ref qn, .ref qe, .int (nI m), .int (z 61)])), (qe, aI G 6 (linC z))]) (wr := [(ql, .inr (1, [.ref qc])), (qc, aI G 54 (encC (zlC z v))), (qn, aI G 24 (upd (upd (cntC z) v ((z (62 + v)) + 1)) (18 + v) ((z (62 + (18 + v))) + (costM (z 60) (z v)))))]) (kX3_joinLine G hs ql qn qe m (z 61) (linC z) v hm6) cwX3_advance_X3_joinLine rfl rfl hR ⟨⟨rfl, rfl⟩, by decide, by decide⟩ ⟨Nat.le_of_ble_eq_true rfl, Nat.le_of_ble_eq_true rfl⟩ (ci := 3) (qr := 0) rfl rfl [0, 4] [1, 2, 3] rfl rfl rfl rfl (by decide) (Nat.le_of_ble_eq_true rfl) rfl dX3_advance_114 rfl (fun v9 u9 hp9 => ?_)
          obtain ⟨rfl, rfl⟩ := hp9
          refine u_wp (ws' := [(hs, .inr (3, [.ref ql, .ref qn, .ref qe, .int (nI (m + 1)), .int (z 61)])), (ql, .inr (1, [.ref qc])), (qc, aI G 54 (encC (zlC z v))), (qn, aI G 24 (upd (upd (cntC z) v ((z (62 + v)) + 1)) (18 + v) ((z (62 + (18 + v))) + (costM (z 60) (z v))))), (qe, aI G 6 (upd (linC z) m (nI v)))]) [3, 0, 1, 2, 4] rfl rfl ?_
          refine u_eqs (st' := []) rfl ?_
          refine u_goto (tgt := 140) h dX3_advance_117 (by decide) ?_
          exact u_vret h hRT dX3_advance_140 (by omega) (by omega) (by refine ⟨rfl, ?_⟩; obtain ⟨a1, a2, a3, a4, a5⟩ := adv_eq hv hW hLi; rw [a1, a2, a3, a4, a5]; simp [cnA, cn2, cn1, liA, lnA, joA, leA, c1, c2, c3, c6, h53, nI_succ, ix_nI (show m < 2 ^ 31 by omega)]; done)
    · refine u_aload_n h dX3_advance_84 rfl 1 rfl rfl ?_
      refine u_get h flX3_advance_18 0 (v := .ref qn) rfl rfl dX3_advance_85 rfl ?_
      refine u_bipush (v := 12) h dX3_advance_88 (by decide) rfl ?_
      refine u_iload_n h dX3_advance_90 rfl 2 rfl rfl ?_
      refine u_iadd (v := (nI (12 + v))) h dX3_advance_91 (nI_add 12 v) rfl ?_
      refine u_dup2 h dX3_advance_92 rfl rfl rfl ?_
      refine u_iald h (n := (12 + v)) 3 rfl (by omega) (by omega) dX3_advance_93 rfl ?_
      refine u_top (y := ((cntC z) (12 + v))) (by rw [pk_un (by omega), pk_un (by omega)]) ?_
      refine u_top (y := (z (62 + (12 + v)))) (cnt_at (by omega)) ?_
      refine u_iconst (v := 1) h dX3_advance_94 (by decide) rfl ?_
      refine u_iadd (v := ((z (62 + (12 + v))) + 1)) h dX3_advance_95 rfl rfl ?_
      refine u_iast h (n := (12 + v)) (v := ((z (62 + (12 + v))) + 1)) 3 rfl (by omega) (by omega) rfl (ws' := [(hs, .inr (3, [.ref ql, .ref qn, .ref qe, .int (nI m), .int (z 61)])), (ql, .inr (1, [.ref qc])), (qc, aI G 54 (encC (zlC z v))), (qn, aI G 24 (upd (upd (upd (cntC z) v ((z (62 + v)) + 1)) (18 + v) ((z (62 + (18 + v))) + (costM (z 60) (z v)))) (12 + v) ((z (62 + (12 + v))) + 1))), (qe, aI G 6 (linC z))]) rfl dX3_advance_96 rfl ?_
      refine u_iload_n h dX3_advance_97 rfl 0 rfl rfl ?_
      refine u_if_ne_B (tgt := 120) h dX3_advance_98 (by decide) rfl (fun c8 => ?_) (fun c8 => ?_)
      · refine u_iload_n h dX3_advance_120 rfl 0 rfl rfl ?_
        refine u_if_eq_B (tgt := 140) h dX3_advance_121 (by decide) rfl (fun c9 => ?_) (fun c9 => ?_)
        · exact absurd c8 (by rw [c9]; decide)
        · refine u_aload_n h dX3_advance_124 rfl 1 rfl rfl ?_
          refine u_get h flX3_advance_14 0 (v := .ref ql) rfl rfl dX3_advance_125 rfl ?_
          refine u_iload_n h dX3_advance_128 rfl 2 rfl rfl ?_
          refine u_callV h (As := [.int (nI v)]) (wc := [(ql, .inr (1, [.ref qc])), (qc, aI G 54 (encC (zlC z v)))]) (wr := [(hs, .inr (3, [.ref ql, .ref qn, .ref qe, .int (nI m), .int (z 61)])), (qn, aI G 24 (upd (upd (upd (cntC z) v ((z (62 + v)) + 1)) (18 + v) ((z (62 + (18 + v))) + (costM (z 60) (z v)))) (12 + v) ((z (62 + (12 + v))) + 1))), (qe, aI G 6 (linC z))]) (kX1_queues G ql qc (zlC z v) v hv) cwX3_advance_X1_queues rfl rfl hR ⟨⟨rfl, rfl⟩, by decide, by decide⟩ ⟨Nat.le_of_ble_eq_true rfl, Nat.le_of_ble_eq_true rfl⟩ (ci := 1) (qr := 1) rfl rfl [1, 2] [0, 3, 4] rfl rfl rfl rfl (by decide) (Nat.le_of_ble_eq_true rfl) rfl dX3_advance_129 rfl (fun v9 u9 hp9 => ?_)
          obtain ⟨rfl, rfl⟩ := hp9
          refine u_wp (ws' := [(hs, .inr (3, [.ref ql, .ref qn, .ref qe, .int (nI m), .int (z 61)])), (ql, .inr (1, [.ref qc])), (qc, aI G 54 (encC (zlC z v))), (qn, aI G 24 (upd (upd (upd (cntC z) v ((z (62 + v)) + 1)) (18 + v) ((z (62 + (18 + v))) + (costM (z 60) (z v)))) (12 + v) ((z (62 + (12 + v))) + 1))), (qe, aI G 6 (linC z))]) [0, 3, 4, 1, 2] rfl rfl ?_
          refine u_eqs (st' := [.int (bI (quB (zlC z v) v))]) rfl ?_
          refine u_if_ne_B (tgt := 140) h dX3_advance_132 (by decide) rfl (fun c10 => ?_) (fun c10 => ?_)
          · exact u_vret h hRT dX3_advance_140 (by omega) (by omega) (by refine ⟨rfl, ?_⟩; obtain ⟨a1, a2, a3, a4, a5⟩ := adv_eq hv hW hLi; rw [a1, a2, a3, a4, a5]; simp [cnA, cn2, cn1, liA, lnA, joA, leA, c1, c2, c8, c9, c10, h53, nI_succ, ix_nI (show m < 2 ^ 31 by omega)]; done)
          · refine u_aload_n h dX3_advance_135 rfl 1 rfl rfl ?_
            refine u_iload_n h dX3_advance_136 rfl 2 rfl rfl ?_
            refine u_callV h (As := [.int (nI v)]) (wc := [(hs, .inr (3, [.ref ql, .ref qn, .ref qe, .int (nI m), .int (z 61)])), (qe, aI G 6 (linC z))]) (wr := [(ql, .inr (1, [.ref qc])), (qc, aI G 54 (encC (zlC z v))), (qn, aI G 24 (upd (upd (upd (cntC z) v ((z (62 + v)) + 1)) (18 + v) ((z (62 + (18 + v))) + (costM (z 60) (z v)))) (12 + v) ((z (62 + (12 + v))) + 1)))]) (kX3_leaveLine G hs ql qn qe m (z 61) (linC z) v (by omega)) cwX3_advance_X3_leaveLine rfl rfl hR ⟨⟨rfl, rfl⟩, by decide, by decide⟩ ⟨Nat.le_of_ble_eq_true rfl, Nat.le_of_ble_eq_true rfl⟩ (ci := 3) (qr := 0) rfl rfl [0, 4] [1, 2, 3] rfl rfl rfl rfl (by decide) (Nat.le_of_ble_eq_true rfl) rfl dX3_advance_137 rfl (fun v9 u9 hp9 => ?_)
            obtain ⟨rfl, rfl⟩ := hp9
            refine u_wp (ws' := [(hs, .inr (3, [.ref ql, .ref qn, .ref qe, .int (nI ((lvR (linC z) (nI v) m).2)), .int (z 61)])), (ql, .inr (1, [.ref qc])), (qc, aI G 54 (encC (zlC z v))), (qn, aI G 24 (upd (upd (upd (cntC z) v ((z (62 + v)) + 1)) (18 + v) ((z (62 + (18 + v))) + (costM (z 60) (z v)))) (12 + v) ((z (62 + (12 + v))) + 1))), (qe, aI G 6 ((lvR (linC z) (nI v) m).1))]) [3, 0, 1, 2, 4] rfl rfl ?_
            refine u_eqs (st' := []) rfl ?_
            exact u_vret h hRT dX3_advance_140 (by omega) (by omega) (by refine ⟨rfl, ?_⟩; obtain ⟨a1, a2, a3, a4, a5⟩ := adv_eq hv hW hLi; rw [a1, a2, a3, a4, a5]; simp [cnA, cn2, cn1, liA, lnA, joA, leA, c1, c2, c8, c9, c10, h53, nI_succ, ix_nI (show m < 2 ^ 31 by omega)]; done)
      · refine u_aload_n h dX3_advance_101 rfl 1 rfl rfl ?_
        refine u_get h flX3_advance_14 0 (v := .ref ql) rfl rfl dX3_advance_102 rfl ?_
        refine u_iload_n h dX3_advance_105 rfl 2 rfl rfl ?_
        refine u_callV h (As := [.int (nI v)]) (wc := [(ql, .inr (1, [.ref qc])), (qc, aI G 54 (encC (zlC z v)))]) (wr := [(hs, .inr (3, [.ref ql, .ref qn, .ref qe, .int (nI m), .int (z 61)])), (qn, aI G 24 (upd (upd (upd (cntC z) v ((z (62 + v)) + 1)) (18 + v) ((z (62 + (18 + v))) + (costM (z 60) (z v)))) (12 + v) ((z (62 + (12 + v))) + 1))), (qe, aI G 6 (linC z))]) (kX1_queues G ql qc (zlC z v) v hv) cwX3_advance_X1_queues rfl rfl hR ⟨⟨rfl, rfl⟩, by decide, by decide⟩ ⟨Nat.le_of_ble_eq_true rfl, Nat.le_of_ble_eq_true rfl⟩ (ci := 1) (qr := 1) rfl rfl [1, 2] [0, 3, 4] rfl rfl rfl rfl (by decide) (Nat.le_of_ble_eq_true rfl) rfl dX3_advance_106 rfl (fun v9 u9 hp9 => ?_)
        obtain ⟨rfl, rfl⟩ := hp9
        refine u_wp (ws' := [(hs, .inr (3, [.ref ql, .ref qn, .ref qe, .int (nI m), .int (z 61)])), (ql, .inr (1, [.ref qc])), (qc, aI G 54 (encC (zlC z v))), (qn, aI G 24 (upd (upd (upd (cntC z) v ((z (62 + v)) + 1)) (18 + v) ((z (62 + (18 + v))) + (costM (z 60) (z v)))) (12 + v) ((z (62 + (12 + v))) + 1))), (qe, aI G 6 (linC z))]) [0, 3, 4, 1, 2] rfl rfl ?_
        refine u_eqs (st' := [.int (bI (quB (zlC z v) v))]) rfl ?_
        refine u_if_eq_B (tgt := 120) h dX3_advance_109 (by decide) rfl (fun c11 => ?_) (fun c11 => ?_)
        · refine u_iload_n h dX3_advance_120 rfl 0 rfl rfl ?_
          refine u_if_eq_B (tgt := 140) h dX3_advance_121 (by decide) rfl (fun c12 => ?_) (fun c12 => ?_)
          · exact u_vret h hRT dX3_advance_140 (by omega) (by omega) (by refine ⟨rfl, ?_⟩; obtain ⟨a1, a2, a3, a4, a5⟩ := adv_eq hv hW hLi; rw [a1, a2, a3, a4, a5]; simp [cnA, cn2, cn1, liA, lnA, joA, leA, c1, c2, c8, c11, c12, h53, nI_succ, ix_nI (show m < 2 ^ 31 by omega)]; done)
          · exact absurd c8 (by rw [c12]; decide)
        · refine u_aload_n h dX3_advance_112 rfl 1 rfl rfl ?_
          refine u_iload_n h dX3_advance_113 rfl 2 rfl rfl ?_
          have hm6 : m < 6 := join_room hv hLi h53 hm c8
          refine u_callV h (As := [.int (nI v)]) (wc := [(hs, .inr (3, [.ref ql, .ref qn, .ref qe, .int (nI m), .int (z 61)])), (qe, aI G 6 (linC z))]) (wr := [(ql, .inr (1, [.ref qc])), (qc, aI G 54 (encC (zlC z v))), (qn, aI G 24 (upd (upd (upd (cntC z) v ((z (62 + v)) + 1)) (18 + v) ((z (62 + (18 + v))) + (costM (z 60) (z v)))) (12 + v) ((z (62 + (12 + v))) + 1)))]) (kX3_joinLine G hs ql qn qe m (z 61) (linC z) v hm6) cwX3_advance_X3_joinLine rfl rfl hR ⟨⟨rfl, rfl⟩, by decide, by decide⟩ ⟨Nat.le_of_ble_eq_true rfl, Nat.le_of_ble_eq_true rfl⟩ (ci := 3) (qr := 0) rfl rfl [0, 4] [1, 2, 3] rfl rfl rfl rfl (by decide) (Nat.le_of_ble_eq_true rfl) rfl dX3_advance_114 rfl (fun v9 u9 hp9 => ?_)
          obtain ⟨rfl, rfl⟩ := hp9
          refine u_wp (ws' := [(hs, .inr (3, [.ref ql, .ref qn, .ref qe, .int (nI (m + 1)), .int (z 61)])), (ql, .inr (1, [.ref qc])), (qc, aI G 54 (encC (zlC z v))), (qn, aI G 24 (upd (upd (upd (cntC z) v ((z (62 + v)) + 1)) (18 + v) ((z (62 + (18 + v))) + (costM (z 60) (z v)))) (12 + v) ((z (62 + (12 + v))) + 1))), (qe, aI G 6 (upd (linC z) m (nI v)))]) [3, 0, 1, 2, 4] rfl rfl ?_
          refine u_eqs (st' := []) rfl ?_
          refine u_goto (tgt := 140) h dX3_advance_117 (by decide) ?_
          exact u_vret h hRT dX3_advance_140 (by omega) (by omega) (by refine ⟨rfl, ?_⟩; obtain ⟨a1, a2, a3, a4, a5⟩ := adv_eq hv hW hLi; rw [a1, a2, a3, a4, a5]; simp [cnA, cn2, cn1, liA, lnA, joA, leA, c1, c2, c8, c11, h53, nI_succ, ix_nI (show m < 2 ^ 31 by omega)]; done)
  · refine u_aload_n h dX3_advance_52 rfl 1 rfl rfl ?_
    refine u_get h flX3_advance_18 0 (v := .ref qn) rfl rfl dX3_advance_53 rfl ?_
    refine u_bipush (v := 6) h dX3_advance_56 (by decide) rfl ?_
    refine u_iload_n h dX3_advance_58 rfl 2 rfl rfl ?_
    refine u_iadd (v := (nI (6 + v))) h dX3_advance_59 (nI_add 6 v) rfl ?_
    refine u_dup2 h dX3_advance_60 rfl rfl rfl ?_
    refine u_iald h (n := (6 + v)) 3 rfl (by omega) (by omega) dX3_advance_61 rfl ?_
    refine u_top (y := ((cntC z) (6 + v))) (by rw [pk_un (by omega), pk_un (by omega)]) ?_
    refine u_top (y := (z (62 + (6 + v)))) (cnt_at (by omega)) ?_
    refine u_iconst (v := 1) h dX3_advance_62 (by decide) rfl ?_
    refine u_iadd (v := ((z (62 + (6 + v))) + 1)) h dX3_advance_63 rfl rfl ?_
    refine u_iast h (n := (6 + v)) (v := ((z (62 + (6 + v))) + 1)) 3 rfl (by omega) (by omega) rfl (ws' := [(hs, .inr (3, [.ref ql, .ref qn, .ref qe, .int (nI m), .int (z 61)])), (ql, .inr (1, [.ref qc])), (qc, aI G 54 (encC z)), (qn, aI G 24 (upd (upd (upd (cntC z) v ((z (62 + v)) + 1)) (18 + v) ((z (62 + (18 + v))) + (costM (z 60) (z v)))) (6 + v) ((z (62 + (6 + v))) + 1))), (qe, aI G 6 (linC z))]) rfl dX3_advance_64 rfl ?_
    refine u_aload_n h dX3_advance_65 rfl 1 rfl rfl ?_
    refine u_get h flX3_advance_14 0 (v := .ref ql) rfl rfl dX3_advance_66 rfl ?_
    refine u_iload_n h dX3_advance_69 rfl 2 rfl rfl ?_
    refine u_callV h (As := [.int (nI v)]) (wc := [(ql, .inr (1, [.ref qc])), (qc, aI G 54 (encC z))]) (wr := [(hs, .inr (3, [.ref ql, .ref qn, .ref qe, .int (nI m), .int (z 61)])), (qn, aI G 24 (upd (upd (upd (cntC z) v ((z (62 + v)) + 1)) (18 + v) ((z (62 + (18 + v))) + (costM (z 60) (z v)))) (6 + v) ((z (62 + (6 + v))) + 1))), (qe, aI G 6 (linC z))]) (kX1_advance G ql qc z v hv hW) cwX3_advance_X1_advance rfl rfl hR ⟨⟨rfl, rfl⟩, by decide, by decide⟩ ⟨Nat.le_of_ble_eq_true rfl, Nat.le_of_ble_eq_true rfl⟩ (ci := 1) (qr := 1) rfl rfl [1, 2] [0, 3, 4] rfl rfl rfl rfl (by decide) (Nat.le_of_ble_eq_true rfl) rfl dX3_advance_70 rfl (fun v9 u9 hp9 => ?_)
    obtain ⟨rfl, rfl⟩ := hp9
    refine u_wp (ws' := [(hs, .inr (3, [.ref ql, .ref qn, .ref qe, .int (nI m), .int (z 61)])), (ql, .inr (1, [.ref qc])), (qc, aI G 54 (encC (zlC z v))), (qn, aI G 24 (upd (upd (upd (cntC z) v ((z (62 + v)) + 1)) (18 + v) ((z (62 + (18 + v))) + (costM (z 60) (z v)))) (6 + v) ((z (62 + (6 + v))) + 1))), (qe, aI G 6 (linC z))]) [0, 3, 4, 1, 2] rfl rfl ?_
    refine u_eqs (st' := []) rfl ?_
    refine u_aload_n h dX3_advance_73 rfl 1 rfl rfl ?_
    refine u_get h flX3_advance_14 0 (v := .ref ql) rfl rfl dX3_advance_74 rfl ?_
    refine u_iload_n h dX3_advance_77 rfl 2 rfl rfl ?_
    refine u_callV h (As := [.int (nI v)]) (wc := [(ql, .inr (1, [.ref qc])), (qc, aI G 54 (encC (zlC z v)))]) (wr := [(hs, .inr (3, [.ref ql, .ref qn, .ref qe, .int (nI m), .int (z 61)])), (qn, aI G 24 (upd (upd (upd (cntC z) v ((z (62 + v)) + 1)) (18 + v) ((z (62 + (18 + v))) + (costM (z 60) (z v)))) (6 + v) ((z (62 + (6 + v))) + 1))), (qe, aI G 6 (linC z))]) (kX1_stage G ql qc (encC (zlC z v)) v hv) cwX3_advance_X1_stage rfl rfl hR ⟨⟨rfl, rfl⟩, by decide, by decide⟩ ⟨Nat.le_of_ble_eq_true rfl, Nat.le_of_ble_eq_true rfl⟩ (ci := 1) (qr := 1) rfl rfl [1, 2] [0, 3, 4] rfl rfl rfl rfl (by decide) (Nat.le_of_ble_eq_true rfl) rfl dX3_advance_78 rfl (fun v9 u9 hp9 => ?_)
    obtain ⟨rfl, rfl⟩ := hp9
    refine u_wp (ws' := [(hs, .inr (3, [.ref ql, .ref qn, .ref qe, .int (nI m), .int (z 61)])), (ql, .inr (1, [.ref qc])), (qc, aI G 54 (encC (zlC z v))), (qn, aI G 24 (upd (upd (upd (cntC z) v ((z (62 + v)) + 1)) (18 + v) ((z (62 + (18 + v))) + (costM (z 60) (z v)))) (6 + v) ((z (62 + (6 + v))) + 1))), (qe, aI G 6 (linC z))]) [0, 3, 4, 1, 2] rfl rfl ?_
    refine u_eqs (st' := [.int ((encC (zlC z v)) v)]) rfl ?_
    refine u_top (y := ((zlC z v) v)) (e_st hv) ?_
    refine u_if_ne (tgt := 97) h dX3_advance_81 (by decide) rfl (fun c13 => ?_) (fun c13 => ?_)
    · refine u_iload_n h dX3_advance_97 rfl 0 rfl rfl ?_
      refine u_if_ne_B (tgt := 120) h dX3_advance_98 (by decide) rfl (fun c14 => ?_) (fun c14 => ?_)
      · refine u_iload_n h dX3_advance_120 rfl 0 rfl rfl ?_
        refine u_if_eq_B (tgt := 140) h dX3_advance_121 (by decide) rfl (fun c15 => ?_) (fun c15 => ?_)
        · exact absurd c14 (by rw [c15]; decide)
        · refine u_aload_n h dX3_advance_124 rfl 1 rfl rfl ?_
          refine u_get h flX3_advance_14 0 (v := .ref ql) rfl rfl dX3_advance_125 rfl ?_
          refine u_iload_n h dX3_advance_128 rfl 2 rfl rfl ?_
          refine u_callV h (As := [.int (nI v)]) (wc := [(ql, .inr (1, [.ref qc])), (qc, aI G 54 (encC (zlC z v)))]) (wr := [(hs, .inr (3, [.ref ql, .ref qn, .ref qe, .int (nI m), .int (z 61)])), (qn, aI G 24 (upd (upd (upd (cntC z) v ((z (62 + v)) + 1)) (18 + v) ((z (62 + (18 + v))) + (costM (z 60) (z v)))) (6 + v) ((z (62 + (6 + v))) + 1))), (qe, aI G 6 (linC z))]) (kX1_queues G ql qc (zlC z v) v hv) cwX3_advance_X1_queues rfl rfl hR ⟨⟨rfl, rfl⟩, by decide, by decide⟩ ⟨Nat.le_of_ble_eq_true rfl, Nat.le_of_ble_eq_true rfl⟩ (ci := 1) (qr := 1) rfl rfl [1, 2] [0, 3, 4] rfl rfl rfl rfl (by decide) (Nat.le_of_ble_eq_true rfl) rfl dX3_advance_129 rfl (fun v9 u9 hp9 => ?_)
          obtain ⟨rfl, rfl⟩ := hp9
          refine u_wp (ws' := [(hs, .inr (3, [.ref ql, .ref qn, .ref qe, .int (nI m), .int (z 61)])), (ql, .inr (1, [.ref qc])), (qc, aI G 54 (encC (zlC z v))), (qn, aI G 24 (upd (upd (upd (cntC z) v ((z (62 + v)) + 1)) (18 + v) ((z (62 + (18 + v))) + (costM (z 60) (z v)))) (6 + v) ((z (62 + (6 + v))) + 1))), (qe, aI G 6 (linC z))]) [0, 3, 4, 1, 2] rfl rfl ?_
          refine u_eqs (st' := [.int (bI (quB (zlC z v) v))]) rfl ?_
          refine u_if_ne_B (tgt := 140) h dX3_advance_132 (by decide) rfl (fun c16 => ?_) (fun c16 => ?_)
          · exact u_vret h hRT dX3_advance_140 (by omega) (by omega) (by refine ⟨rfl, ?_⟩; obtain ⟨a1, a2, a3, a4, a5⟩ := adv_eq hv hW hLi; rw [a1, a2, a3, a4, a5]; simp [cnA, cn2, cn1, liA, lnA, joA, leA, c1, c13, c14, c15, c16, h53, nI_succ, ix_nI (show m < 2 ^ 31 by omega)]; done)
          · refine u_aload_n h dX3_advance_135 rfl 1 rfl rfl ?_
            refine u_iload_n h dX3_advance_136 rfl 2 rfl rfl ?_
            refine u_callV h (As := [.int (nI v)]) (wc := [(hs, .inr (3, [.ref ql, .ref qn, .ref qe, .int (nI m), .int (z 61)])), (qe, aI G 6 (linC z))]) (wr := [(ql, .inr (1, [.ref qc])), (qc, aI G 54 (encC (zlC z v))), (qn, aI G 24 (upd (upd (upd (cntC z) v ((z (62 + v)) + 1)) (18 + v) ((z (62 + (18 + v))) + (costM (z 60) (z v)))) (6 + v) ((z (62 + (6 + v))) + 1)))]) (kX3_leaveLine G hs ql qn qe m (z 61) (linC z) v (by omega)) cwX3_advance_X3_leaveLine rfl rfl hR ⟨⟨rfl, rfl⟩, by decide, by decide⟩ ⟨Nat.le_of_ble_eq_true rfl, Nat.le_of_ble_eq_true rfl⟩ (ci := 3) (qr := 0) rfl rfl [0, 4] [1, 2, 3] rfl rfl rfl rfl (by decide) (Nat.le_of_ble_eq_true rfl) rfl dX3_advance_137 rfl (fun v9 u9 hp9 => ?_)
            obtain ⟨rfl, rfl⟩ := hp9
            refine u_wp (ws' := [(hs, .inr (3, [.ref ql, .ref qn, .ref qe, .int (nI ((lvR (linC z) (nI v) m).2)), .int (z 61)])), (ql, .inr (1, [.ref qc])), (qc, aI G 54 (encC (zlC z v))), (qn, aI G 24 (upd (upd (upd (cntC z) v ((z (62 + v)) + 1)) (18 + v) ((z (62 + (18 + v))) + (costM (z 60) (z v)))) (6 + v) ((z (62 + (6 + v))) + 1))), (qe, aI G 6 ((lvR (linC z) (nI v) m).1))]) [3, 0, 1, 2, 4] rfl rfl ?_
            refine u_eqs (st' := []) rfl ?_
            exact u_vret h hRT dX3_advance_140 (by omega) (by omega) (by refine ⟨rfl, ?_⟩; obtain ⟨a1, a2, a3, a4, a5⟩ := adv_eq hv hW hLi; rw [a1, a2, a3, a4, a5]; simp [cnA, cn2, cn1, liA, lnA, joA, leA, c1, c13, c14, c15, c16, h53, nI_succ, ix_nI (show m < 2 ^ 31 by omega)]; done)
      · refine u_aload_n h dX3_advance_101 rfl 1 rfl rfl ?_
        refine u_get h flX3_advance_14 0 (v := .ref ql) rfl rfl dX3_advance_102 rfl ?_
        refine u_iload_n h dX3_advance_105 rfl 2 rfl rfl ?_
        refine u_callV h (As := [.int (nI v)]) (wc := [(ql, .inr (1, [.ref qc])), (qc, aI G 54 (encC (zlC z v)))]) (wr := [(hs, .inr (3, [.ref ql, .ref qn, .ref qe, .int (nI m), .int (z 61)])), (qn, aI G 24 (upd (upd (upd (cntC z) v ((z (62 + v)) + 1)) (18 + v) ((z (62 + (18 + v))) + (costM (z 60) (z v)))) (6 + v) ((z (62 + (6 + v))) + 1))), (qe, aI G 6 (linC z))]) (kX1_queues G ql qc (zlC z v) v hv) cwX3_advance_X1_queues rfl rfl hR ⟨⟨rfl, rfl⟩, by decide, by decide⟩ ⟨Nat.le_of_ble_eq_true rfl, Nat.le_of_ble_eq_true rfl⟩ (ci := 1) (qr := 1) rfl rfl [1, 2] [0, 3, 4] rfl rfl rfl rfl (by decide) (Nat.le_of_ble_eq_true rfl) rfl dX3_advance_106 rfl (fun v9 u9 hp9 => ?_)
        obtain ⟨rfl, rfl⟩ := hp9
        refine u_wp (ws' := [(hs, .inr (3, [.ref ql, .ref qn, .ref qe, .int (nI m), .int (z 61)])), (ql, .inr (1, [.ref qc])), (qc, aI G 54 (encC (zlC z v))), (qn, aI G 24 (upd (upd (upd (cntC z) v ((z (62 + v)) + 1)) (18 + v) ((z (62 + (18 + v))) + (costM (z 60) (z v)))) (6 + v) ((z (62 + (6 + v))) + 1))), (qe, aI G 6 (linC z))]) [0, 3, 4, 1, 2] rfl rfl ?_
        refine u_eqs (st' := [.int (bI (quB (zlC z v) v))]) rfl ?_
        refine u_if_eq_B (tgt := 120) h dX3_advance_109 (by decide) rfl (fun c17 => ?_) (fun c17 => ?_)
        · refine u_iload_n h dX3_advance_120 rfl 0 rfl rfl ?_
          refine u_if_eq_B (tgt := 140) h dX3_advance_121 (by decide) rfl (fun c18 => ?_) (fun c18 => ?_)
          · exact u_vret h hRT dX3_advance_140 (by omega) (by omega) (by refine ⟨rfl, ?_⟩; obtain ⟨a1, a2, a3, a4, a5⟩ := adv_eq hv hW hLi; rw [a1, a2, a3, a4, a5]; simp [cnA, cn2, cn1, liA, lnA, joA, leA, c1, c13, c14, c17, c18, h53, nI_succ, ix_nI (show m < 2 ^ 31 by omega)]; done)
          · exact absurd c14 (by rw [c18]; decide)
        · refine u_aload_n h dX3_advance_112 rfl 1 rfl rfl ?_
          refine u_iload_n h dX3_advance_113 rfl 2 rfl rfl ?_
          have hm6 : m < 6 := join_room hv hLi h53 hm c14
          refine u_callV h (As := [.int (nI v)]) (wc := [(hs, .inr (3, [.ref ql, .ref qn, .ref qe, .int (nI m), .int (z 61)])), (qe, aI G 6 (linC z))]) (wr := [(ql, .inr (1, [.ref qc])), (qc, aI G 54 (encC (zlC z v))), (qn, aI G 24 (upd (upd (upd (cntC z) v ((z (62 + v)) + 1)) (18 + v) ((z (62 + (18 + v))) + (costM (z 60) (z v)))) (6 + v) ((z (62 + (6 + v))) + 1)))]) (kX3_joinLine G hs ql qn qe m (z 61) (linC z) v hm6) cwX3_advance_X3_joinLine rfl rfl hR ⟨⟨rfl, rfl⟩, by decide, by decide⟩ ⟨Nat.le_of_ble_eq_true rfl, Nat.le_of_ble_eq_true rfl⟩ (ci := 3) (qr := 0) rfl rfl [0, 4] [1, 2, 3] rfl rfl rfl rfl (by decide) (Nat.le_of_ble_eq_true rfl) rfl dX3_advance_114 rfl (fun v9 u9 hp9 => ?_)
          obtain ⟨rfl, rfl⟩ := hp9
          refine u_wp (ws' := [(hs, .inr (3, [.ref ql, .ref qn, .ref qe, .int (nI (m + 1)), .int (z 61)])), (ql, .inr (1, [.ref qc])), (qc, aI G 54 (encC (zlC z v))), (qn, aI G 24 (upd (upd (upd (cntC z) v ((z (62 + v)) + 1)) (18 + v) ((z (62 + (18 + v))) + (costM (z 60) (z v)))) (6 + v) ((z (62 + (6 + v))) + 1))), (qe, aI G 6 (upd (linC z) m (nI v)))]) [3, 0, 1, 2, 4] rfl rfl ?_
          refine u_eqs (st' := []) rfl ?_
          refine u_goto (tgt := 140) h dX3_advance_117 (by decide) ?_
          exact u_vret h hRT dX3_advance_140 (by omega) (by omega) (by refine ⟨rfl, ?_⟩; obtain ⟨a1, a2, a3, a4, a5⟩ := adv_eq hv hW hLi; rw [a1, a2, a3, a4, a5]; simp [cnA, cn2, cn1, liA, lnA, joA, leA, c1, c13, c14, c17, h53, nI_succ, ix_nI (show m < 2 ^ 31 by omega)]; done)
    · refine u_aload_n h dX3_advance_84 rfl 1 rfl rfl ?_
      refine u_get h flX3_advance_18 0 (v := .ref qn) rfl rfl dX3_advance_85 rfl ?_
      refine u_bipush (v := 12) h dX3_advance_88 (by decide) rfl ?_
      refine u_iload_n h dX3_advance_90 rfl 2 rfl rfl ?_
      refine u_iadd (v := (nI (12 + v))) h dX3_advance_91 (nI_add 12 v) rfl ?_
      refine u_dup2 h dX3_advance_92 rfl rfl rfl ?_
      refine u_iald h (n := (12 + v)) 3 rfl (by omega) (by omega) dX3_advance_93 rfl ?_
      refine u_top (y := ((cntC z) (12 + v))) (by rw [pk_un (by omega), pk_un (by omega), pk_un (by omega)]) ?_
      refine u_top (y := (z (62 + (12 + v)))) (cnt_at (by omega)) ?_
      refine u_iconst (v := 1) h dX3_advance_94 (by decide) rfl ?_
      refine u_iadd (v := ((z (62 + (12 + v))) + 1)) h dX3_advance_95 rfl rfl ?_
      refine u_iast h (n := (12 + v)) (v := ((z (62 + (12 + v))) + 1)) 3 rfl (by omega) (by omega) rfl (ws' := [(hs, .inr (3, [.ref ql, .ref qn, .ref qe, .int (nI m), .int (z 61)])), (ql, .inr (1, [.ref qc])), (qc, aI G 54 (encC (zlC z v))), (qn, aI G 24 (upd (upd (upd (upd (cntC z) v ((z (62 + v)) + 1)) (18 + v) ((z (62 + (18 + v))) + (costM (z 60) (z v)))) (6 + v) ((z (62 + (6 + v))) + 1)) (12 + v) ((z (62 + (12 + v))) + 1))), (qe, aI G 6 (linC z))]) rfl dX3_advance_96 rfl ?_
      refine u_iload_n h dX3_advance_97 rfl 0 rfl rfl ?_
      refine u_if_ne_B (tgt := 120) h dX3_advance_98 (by decide) rfl (fun c19 => ?_) (fun c19 => ?_)
      · refine u_iload_n h dX3_advance_120 rfl 0 rfl rfl ?_
        refine u_if_eq_B (tgt := 140) h dX3_advance_121 (by decide) rfl (fun c20 => ?_) (fun c20 => ?_)
        · exact absurd c19 (by rw [c20]; decide)
        · refine u_aload_n h dX3_advance_124 rfl 1 rfl rfl ?_
          refine u_get h flX3_advance_14 0 (v := .ref ql) rfl rfl dX3_advance_125 rfl ?_
          refine u_iload_n h dX3_advance_128 rfl 2 rfl rfl ?_
          refine u_callV h (As := [.int (nI v)]) (wc := [(ql, .inr (1, [.ref qc])), (qc, aI G 54 (encC (zlC z v)))]) (wr := [(hs, .inr (3, [.ref ql, .ref qn, .ref qe, .int (nI m), .int (z 61)])), (qn, aI G 24 (upd (upd (upd (upd (cntC z) v ((z (62 + v)) + 1)) (18 + v) ((z (62 + (18 + v))) + (costM (z 60) (z v)))) (6 + v) ((z (62 + (6 + v))) + 1)) (12 + v) ((z (62 + (12 + v))) + 1))), (qe, aI G 6 (linC z))]) (kX1_queues G ql qc (zlC z v) v hv) cwX3_advance_X1_queues rfl rfl hR ⟨⟨rfl, rfl⟩, by decide, by decide⟩ ⟨Nat.le_of_ble_eq_true rfl, Nat.le_of_ble_eq_true rfl⟩ (ci := 1) (qr := 1) rfl rfl [1, 2] [0, 3, 4] rfl rfl rfl rfl (by decide) (Nat.le_of_ble_eq_true rfl) rfl dX3_advance_129 rfl (fun v9 u9 hp9 => ?_)
          obtain ⟨rfl, rfl⟩ := hp9
          refine u_wp (ws' := [(hs, .inr (3, [.ref ql, .ref qn, .ref qe, .int (nI m), .int (z 61)])), (ql, .inr (1, [.ref qc])), (qc, aI G 54 (encC (zlC z v))), (qn, aI G 24 (upd (upd (upd (upd (cntC z) v ((z (62 + v)) + 1)) (18 + v) ((z (62 + (18 + v))) + (costM (z 60) (z v)))) (6 + v) ((z (62 + (6 + v))) + 1)) (12 + v) ((z (62 + (12 + v))) + 1))), (qe, aI G 6 (linC z))]) [0, 3, 4, 1, 2] rfl rfl ?_
          refine u_eqs (st' := [.int (bI (quB (zlC z v) v))]) rfl ?_
          refine u_if_ne_B (tgt := 140) h dX3_advance_132 (by decide) rfl (fun c21 => ?_) (fun c21 => ?_)
          · exact u_vret h hRT dX3_advance_140 (by omega) (by omega) (by refine ⟨rfl, ?_⟩; obtain ⟨a1, a2, a3, a4, a5⟩ := adv_eq hv hW hLi; rw [a1, a2, a3, a4, a5]; simp [cnA, cn2, cn1, liA, lnA, joA, leA, c1, c13, c19, c20, c21, h53, nI_succ, ix_nI (show m < 2 ^ 31 by omega)]; done)
          · refine u_aload_n h dX3_advance_135 rfl 1 rfl rfl ?_
            refine u_iload_n h dX3_advance_136 rfl 2 rfl rfl ?_
            refine u_callV h (As := [.int (nI v)]) (wc := [(hs, .inr (3, [.ref ql, .ref qn, .ref qe, .int (nI m), .int (z 61)])), (qe, aI G 6 (linC z))]) (wr := [(ql, .inr (1, [.ref qc])), (qc, aI G 54 (encC (zlC z v))), (qn, aI G 24 (upd (upd (upd (upd (cntC z) v ((z (62 + v)) + 1)) (18 + v) ((z (62 + (18 + v))) + (costM (z 60) (z v)))) (6 + v) ((z (62 + (6 + v))) + 1)) (12 + v) ((z (62 + (12 + v))) + 1)))]) (kX3_leaveLine G hs ql qn qe m (z 61) (linC z) v (by omega)) cwX3_advance_X3_leaveLine rfl rfl hR ⟨⟨rfl, rfl⟩, by decide, by decide⟩ ⟨Nat.le_of_ble_eq_true rfl, Nat.le_of_ble_eq_true rfl⟩ (ci := 3) (qr := 0) rfl rfl [0, 4] [1, 2, 3] rfl rfl rfl rfl (by decide) (Nat.le_of_ble_eq_true rfl) rfl dX3_advance_137 rfl (fun v9 u9 hp9 => ?_)
            obtain ⟨rfl, rfl⟩ := hp9
            refine u_wp (ws' := [(hs, .inr (3, [.ref ql, .ref qn, .ref qe, .int (nI ((lvR (linC z) (nI v) m).2)), .int (z 61)])), (ql, .inr (1, [.ref qc])), (qc, aI G 54 (encC (zlC z v))), (qn, aI G 24 (upd (upd (upd (upd (cntC z) v ((z (62 + v)) + 1)) (18 + v) ((z (62 + (18 + v))) + (costM (z 60) (z v)))) (6 + v) ((z (62 + (6 + v))) + 1)) (12 + v) ((z (62 + (12 + v))) + 1))), (qe, aI G 6 ((lvR (linC z) (nI v) m).1))]) [3, 0, 1, 2, 4] rfl rfl ?_
            refine u_eqs (st' := []) rfl ?_
            exact u_vret h hRT dX3_advance_140 (by omega) (by omega) (by refine ⟨rfl, ?_⟩; obtain ⟨a1, a2, a3, a4, a5⟩ := adv_eq hv hW hLi; rw [a1, a2, a3, a4, a5]; simp [cnA, cn2, cn1, liA, lnA, joA, leA, c1, c13, c19, c20, c21, h53, nI_succ, ix_nI (show m < 2 ^ 31 by omega)]; done)
      · refine u_aload_n h dX3_advance_101 rfl 1 rfl rfl ?_
        refine u_get h flX3_advance_14 0 (v := .ref ql) rfl rfl dX3_advance_102 rfl ?_
        refine u_iload_n h dX3_advance_105 rfl 2 rfl rfl ?_
        refine u_callV h (As := [.int (nI v)]) (wc := [(ql, .inr (1, [.ref qc])), (qc, aI G 54 (encC (zlC z v)))]) (wr := [(hs, .inr (3, [.ref ql, .ref qn, .ref qe, .int (nI m), .int (z 61)])), (qn, aI G 24 (upd (upd (upd (upd (cntC z) v ((z (62 + v)) + 1)) (18 + v) ((z (62 + (18 + v))) + (costM (z 60) (z v)))) (6 + v) ((z (62 + (6 + v))) + 1)) (12 + v) ((z (62 + (12 + v))) + 1))), (qe, aI G 6 (linC z))]) (kX1_queues G ql qc (zlC z v) v hv) cwX3_advance_X1_queues rfl rfl hR ⟨⟨rfl, rfl⟩, by decide, by decide⟩ ⟨Nat.le_of_ble_eq_true rfl, Nat.le_of_ble_eq_true rfl⟩ (ci := 1) (qr := 1) rfl rfl [1, 2] [0, 3, 4] rfl rfl rfl rfl (by decide) (Nat.le_of_ble_eq_true rfl) rfl dX3_advance_106 rfl (fun v9 u9 hp9 => ?_)
        obtain ⟨rfl, rfl⟩ := hp9
        refine u_wp (ws' := [(hs, .inr (3, [.ref ql, .ref qn, .ref qe, .int (nI m), .int (z 61)])), (ql, .inr (1, [.ref qc])), (qc, aI G 54 (encC (zlC z v))), (qn, aI G 24 (upd (upd (upd (upd (cntC z) v ((z (62 + v)) + 1)) (18 + v) ((z (62 + (18 + v))) + (costM (z 60) (z v)))) (6 + v) ((z (62 + (6 + v))) + 1)) (12 + v) ((z (62 + (12 + v))) + 1))), (qe, aI G 6 (linC z))]) [0, 3, 4, 1, 2] rfl rfl ?_
        refine u_eqs (st' := [.int (bI (quB (zlC z v) v))]) rfl ?_
        refine u_if_eq_B (tgt := 120) h dX3_advance_109 (by decide) rfl (fun c22 => ?_) (fun c22 => ?_)
        · refine u_iload_n h dX3_advance_120 rfl 0 rfl rfl ?_
          refine u_if_eq_B (tgt := 140) h dX3_advance_121 (by decide) rfl (fun c23 => ?_) (fun c23 => ?_)
          · exact u_vret h hRT dX3_advance_140 (by omega) (by omega) (by refine ⟨rfl, ?_⟩; obtain ⟨a1, a2, a3, a4, a5⟩ := adv_eq hv hW hLi; rw [a1, a2, a3, a4, a5]; simp [cnA, cn2, cn1, liA, lnA, joA, leA, c1, c13, c19, c22, c23, h53, nI_succ, ix_nI (show m < 2 ^ 31 by omega)]; done)
          · exact absurd c19 (by rw [c23]; decide)
        · refine u_aload_n h dX3_advance_112 rfl 1 rfl rfl ?_
          refine u_iload_n h dX3_advance_113 rfl 2 rfl rfl ?_
          have hm6 : m < 6 := join_room hv hLi h53 hm c19
          refine u_callV h (As := [.int (nI v)]) (wc := [(hs, .inr (3, [.ref ql, .ref qn, .ref qe, .int (nI m), .int (z 61)])), (qe, aI G 6 (linC z))]) (wr := [(ql, .inr (1, [.ref qc])), (qc, aI G 54 (encC (zlC z v))), (qn, aI G 24 (upd (upd (upd (upd (cntC z) v ((z (62 + v)) + 1)) (18 + v) ((z (62 + (18 + v))) + (costM (z 60) (z v)))) (6 + v) ((z (62 + (6 + v))) + 1)) (12 + v) ((z (62 + (12 + v))) + 1)))]) (kX3_joinLine G hs ql qn qe m (z 61) (linC z) v hm6) cwX3_advance_X3_joinLine rfl rfl hR ⟨⟨rfl, rfl⟩, by decide, by decide⟩ ⟨Nat.le_of_ble_eq_true rfl, Nat.le_of_ble_eq_true rfl⟩ (ci := 3) (qr := 0) rfl rfl [0, 4] [1, 2, 3] rfl rfl rfl rfl (by decide) (Nat.le_of_ble_eq_true rfl) rfl dX3_advance_114 rfl (fun v9 u9 hp9 => ?_)
          obtain ⟨rfl, rfl⟩ := hp9
          refine u_wp (ws' := [(hs, .inr (3, [.ref ql, .ref qn, .ref qe, .int (nI (m + 1)), .int (z 61)])), (ql, .inr (1, [.ref qc])), (qc, aI G 54 (encC (zlC z v))), (qn, aI G 24 (upd (upd (upd (upd (cntC z) v ((z (62 + v)) + 1)) (18 + v) ((z (62 + (18 + v))) + (costM (z 60) (z v)))) (6 + v) ((z (62 + (6 + v))) + 1)) (12 + v) ((z (62 + (12 + v))) + 1))), (qe, aI G 6 (upd (linC z) m (nI v)))]) [3, 0, 1, 2, 4] rfl rfl ?_
          refine u_eqs (st' := []) rfl ?_
          refine u_goto (tgt := 140) h dX3_advance_117 (by decide) ?_
          exact u_vret h hRT dX3_advance_140 (by omega) (by omega) (by refine ⟨rfl, ?_⟩; obtain ⟨a1, a2, a3, a4, a5⟩ := adv_eq hv hW hLi; rw [a1, a2, a3, a4, a5]; simp [cnA, cn2, cn1, liA, lnA, joA, leA, c1, c13, c19, c22, h53, nI_succ, ix_nI (show m < 2 ^ 31 by omega)]; done)

theorem flX3_pauses_14 : FL wsX3_pauses RX3 14 3 0 := ⟨RX3, TX3, 5, rfl, by decide, by decide +kernel, by decide +kernel⟩
set_option maxRecDepth 20000 in
theorem cwX3_pauses_X1_stage : CWd wsX3_pauses (wsV RX3 60 RX1 yX1_stage wsX1_stage) yX1_stage wsX1_stage cX1_stage 2 (some .int) 1 := ⟨gX3_pauses_X1_stage, ⟨_, rfl⟩, by decide +kernel, by decide, by decide⟩
set_option maxRecDepth 20000 in
theorem cwX3_pauses_X1_waits : CWd wsX3_pauses (wsV RX3 53 RX1 yX1_waits wsX1_waits) yX1_waits wsX1_waits cX1_waits 3 (some .boolean) 1 := ⟨gX3_pauses_X1_waits, ⟨_, rfl⟩, by decide +kernel, by decide, by decide⟩
set_option maxHeartbeats 8000000 in
set_option maxRecDepth 100000 in
theorem kX3_pauses (G : Gx) (hs ql qc qn qe : Nat) (z : Zf) (v : Nat) (hv : v < 6) (hW : Wc z) : MC G yX3_pauses wsX3_pauses ({ frames := 4, cells := 0, slots := 0, locals := 84 } : Room) [.ref hs, .int (nI v)] [(hs, .inr (3, [.ref ql, .ref qn, .ref qe, .int (z 53), .int (z 61)])), (ql, .inr (1, [.ref qc])), (qc, aI G 54 (encC z)), (qn, aI G 24 (cntC z)), (qe, aI G 6 (linC z))] (fun v' u' => v' = some (.int (bI (stp z v))) ∧ u' = [(hs, .inr (3, [.ref ql, .ref qn, .ref qe, .int (z 53), .int (z 61)])), (ql, .inr (1, [.ref qc])), (qc, aI G 54 (encC z)), (qn, aI G 24 (cntC z)), (qe, aI G 6 (linC z))]) 0 0 := by
  refine mc_of (cc := cX3_pauses) (maxL := 3) (ret := (some .boolean)) (by decide) rfl (Nat.le_of_ble_eq_true rfl) (fun X h hR hL hRT => ?_)
  refine u_eql (lv' := [(0, .ref hs), (1, .int (nI v))]) rfl ?_
  refine u_aload_n h dX3_pauses_0 rfl 0 rfl rfl ?_
  refine u_get h flX3_pauses_14 0 (v := .ref ql) rfl rfl dX3_pauses_1 rfl ?_
  refine u_iload_n h dX3_pauses_4 rfl 1 rfl rfl ?_
  refine u_callV h (As := [.int (nI v)]) (wc := [(ql, .inr (1, [.ref qc])), (qc, aI G 54 (encC z))]) (wr := [(hs, .inr (3, [.ref ql, .ref qn, .ref qe, .int (z 53), .int (z 61)])), (qn, aI G 24 (cntC z)), (qe, aI G 6 (linC z))]) (kX1_stage G ql qc (encC z) v hv) cwX3_pauses_X1_stage rfl rfl hR ⟨⟨rfl, rfl⟩, by decide, by decide⟩ ⟨Nat.le_of_ble_eq_true rfl, Nat.le_of_ble_eq_true rfl⟩ (ci := 1) (qr := 1) rfl rfl [1, 2] [0, 3, 4] rfl rfl rfl rfl (by decide) (Nat.le_of_ble_eq_true rfl) rfl dX3_pauses_5 rfl (fun v9 u9 hp9 => ?_)
  obtain ⟨rfl, rfl⟩ := hp9
  refine u_wp (ws' := [(hs, .inr (3, [.ref ql, .ref qn, .ref qe, .int (z 53), .int (z 61)])), (ql, .inr (1, [.ref qc])), (qc, aI G 54 (encC z)), (qn, aI G 24 (cntC z)), (qe, aI G 6 (linC z))]) [0, 3, 4, 1, 2] rfl rfl ?_
  refine u_eqs (st' := [.int ((encC z) v)]) rfl ?_
  refine u_top (y := (z v)) (e_st hv) ?_
  refine u_istore_n (lv' := [(2, .int (z v)), (0, .ref hs), (1, .int (nI v))]) h dX3_pauses_8 rfl (by rw [hL]; decide) rfl rfl ?_
  refine u_iload_n h dX3_pauses_9 rfl 0 rfl rfl ?_
  refine u_iconst (v := 4) h dX3_pauses_10 (by decide) rfl ?_
  refine u_icmp_eq (tgt := 29) h dX3_pauses_11 (by decide) rfl (fun c1 => ?_) (fun c1 => ?_)
  · refine u_iconst (v := 1) h dX3_pauses_29 (by decide) rfl ?_
    refine u_goto (tgt := 34) h dX3_pauses_30 (by decide) ?_
    exact u_zret h hRT dX3_pauses_34 rfl (by omega) (by omega) (by refine ⟨congrArg (fun b => some (Value.int b)) ?_, rfl⟩; first | (simp [stp, bI, c1]; done) | (exfalso; simp_all; done) | (simp_all [stp, bI, c1]; done))
  · refine u_iload_n h dX3_pauses_14 rfl 0 rfl rfl ?_
    refine u_if_eq (tgt := 29) h dX3_pauses_15 (by decide) rfl (fun c2 => ?_) (fun c2 => ?_)
    · refine u_iconst (v := 1) h dX3_pauses_29 (by decide) rfl ?_
      refine u_goto (tgt := 34) h dX3_pauses_30 (by decide) ?_
      exact u_zret h hRT dX3_pauses_34 rfl (by omega) (by omega) (by refine ⟨congrArg (fun b => some (Value.int b)) ?_, rfl⟩; first | (simp [stp, bI, c1, c2]; done) | (exfalso; simp_all; done) | (simp_all [stp, bI, c1, c2]; done))
    · refine u_aload_n h dX3_pauses_18 rfl 1 rfl rfl ?_
      refine u_get h flX3_pauses_14 0 (v := .ref ql) rfl rfl dX3_pauses_19 rfl ?_
      refine u_iload_n h dX3_pauses_22 rfl 2 rfl rfl ?_
      refine u_callV h (As := [.int (nI v)]) (wc := [(ql, .inr (1, [.ref qc])), (qc, aI G 54 (encC z))]) (wr := [(hs, .inr (3, [.ref ql, .ref qn, .ref qe, .int (z 53), .int (z 61)])), (qn, aI G 24 (cntC z)), (qe, aI G 6 (linC z))]) (kX1_waits G ql qc z v hv hW) cwX3_pauses_X1_waits rfl rfl hR ⟨⟨rfl, rfl⟩, by decide, by decide⟩ ⟨Nat.le_of_ble_eq_true rfl, Nat.le_of_ble_eq_true rfl⟩ (ci := 1) (qr := 1) rfl rfl [1, 2] [0, 3, 4] rfl rfl rfl rfl (by decide) (Nat.le_of_ble_eq_true rfl) rfl dX3_pauses_23 rfl (fun v9 u9 hp9 => ?_)
      obtain ⟨rfl, rfl⟩ := hp9
      refine u_wp (ws' := [(hs, .inr (3, [.ref ql, .ref qn, .ref qe, .int (z 53), .int (z 61)])), (ql, .inr (1, [.ref qc])), (qc, aI G 54 (encC z)), (qn, aI G 24 (cntC z)), (qe, aI G 6 (linC z))]) [0, 3, 4, 1, 2] rfl rfl ?_
      refine u_eqs (st' := [.int (bI (isLook z v))]) rfl ?_
      refine u_if_eq_B (tgt := 33) h dX3_pauses_26 (by decide) rfl (fun c3 => ?_) (fun c3 => ?_)
      · refine u_iconst (v := 0) h dX3_pauses_33 (by decide) rfl ?_
        exact u_zret h hRT dX3_pauses_34 rfl (by omega) (by omega) (by refine ⟨congrArg (fun b => some (Value.int b)) ?_, rfl⟩; first | (simp [stp, bI, c1, c2, c3]; done) | (exfalso; simp_all; done) | (simp_all [stp, bI, c1, c2, c3]; done))
      · refine u_iconst (v := 1) h dX3_pauses_29 (by decide) rfl ?_
        refine u_goto (tgt := 34) h dX3_pauses_30 (by decide) ?_
        exact u_zret h hRT dX3_pauses_34 rfl (by omega) (by omega) (by refine ⟨congrArg (fun b => some (Value.int b)) ?_, rfl⟩; first | (simp [stp, bI, c1, c2, c3]; done) | (exfalso; simp_all; done) | (simp_all [stp, bI, c1, c2, c3]; done))

set_option maxRecDepth 20000 in
theorem cwX3_advanceFreely_X3_advance : CWd wsX3_advanceFreely (wsV RX3 69 RX3 yX3_advance wsX3_advance) yX3_advance wsX3_advance cX3_advance 3 none 1 := ⟨gX3_advanceFreely_X3_advance, ⟨_, rfl⟩, by decide +kernel, by decide, by decide⟩
set_option maxRecDepth 20000 in
theorem cwX3_advanceFreely_X3_pauses : CWd wsX3_advanceFreely (wsV RX3 70 RX3 yX3_pauses wsX3_pauses) yX3_pauses wsX3_pauses cX3_pauses 3 (some .boolean) 1 := ⟨gX3_advanceFreely_X3_pauses, ⟨_, rfl⟩, by decide +kernel, by decide, by decide⟩
set_option maxHeartbeats 8000000 in
set_option maxRecDepth 100000 in
theorem kX3_advanceFreely (G : Gx) (hs ql qc qn qe : Nat) (z : Zf) (v N : Nat) (hv : v < 6) (hG : GoC z v N) : MC G yX3_advanceFreely wsX3_advanceFreely ({ frames := 6, cells := 0, slots := 0, locals := 127 } : Room) [.ref hs, .int (nI v)] [(hs, .inr (3, [.ref ql, .ref qn, .ref qe, .int (z 53), .int (z 61)])), (ql, .inr (1, [.ref qc])), (qc, aI G 54 (encC z)), (qn, aI G 24 (cntC z)), (qe, aI G 6 (linC z))] (fun v' u' => v' = some (.int (nI N)) ∧ u' = [(hs, .inr (3, [.ref ql, .ref qn, .ref qe, .int ((itS z v N) 53), .int ((itS z v N) 61)])), (ql, .inr (1, [.ref qc])), (qc, aI G 54 (encC (itS z v N))), (qn, aI G 24 (cntC (itS z v N))), (qe, aI G 6 (linC (itS z v N)))]) 0 0 := by
  refine mc_of (cc := cX3_advanceFreely) (maxL := 3) (ret := (some .int)) (by decide) rfl (Nat.le_of_ble_eq_true rfl) (fun X h hR hL hRT => ?_)
  refine u_eql (lv' := [(0, .ref hs), (1, .int (nI v))]) rfl ?_
  refine u_iconst (v := 0) h dX3_advanceFreely_0 (by decide) rfl ?_
  refine u_istore_n (lv' := [(2, .int 0), (0, .ref hs), (1, .int (nI v))]) h dX3_advanceFreely_1 rfl (by rw [hL]; decide) rfl rfl ?_
  have LL : ∀ (k9 : Nat) (n : Nat) (y : Zf), N - n = k9 → (n < N) → (y = itS z v n) → U G X 0 0 [(hs, .inr (3, [.ref ql, .ref qn, .ref qe, .int (y 53), .int (y 61)])), (ql, .inr (1, [.ref qc])), (qc, aI G 54 (encC y)), (qn, aI G 24 (cntC y)), (qe, aI G 6 (linC y))] 2 [(2, .int (nI n)), (0, .ref hs), (1, .int (nI v))] [] := by
    intro k9
    induction k9 using Nat.strongRecOn with
    | _ k9 ihL =>
      intro n y hk9 hn hy
      subst hk9
      have hWy : Wc y := by rw [hy]; exact (hG.2 n (by omega)).1
      have hLy : Li y := by rw [hy]; exact (hG.2 n (by omega)).2
      have hN3 := hG.1.2.1
      refine u_aload_n h dX3_advanceFreely_2 rfl 1 rfl rfl ?_
      refine u_iload_n h dX3_advanceFreely_3 rfl 2 rfl rfl ?_
      refine u_callV h (As := [.int (nI v)]) (wc := [(hs, .inr (3, [.ref ql, .ref qn, .ref qe, .int (y 53), .int (y 61)])), (ql, .inr (1, [.ref qc])), (qc, aI G 54 (encC y)), (qn, aI G 24 (cntC y)), (qe, aI G 6 (linC y))]) (wr := []) (kX3_advance G hs ql qc qn qe y v hv hWy hLy) cwX3_advanceFreely_X3_advance rfl rfl hR ⟨⟨rfl, rfl⟩, by decide, by decide⟩ ⟨Nat.le_of_ble_eq_true rfl, Nat.le_of_ble_eq_true rfl⟩ (ci := 3) (qr := 0) rfl rfl [0, 1, 2, 3, 4] [] rfl rfl rfl rfl (by decide) (Nat.le_of_ble_eq_true rfl) rfl dX3_advanceFreely_4 rfl (fun v9 u9 hp9 => ?_)
      obtain ⟨rfl, rfl⟩ := hp9
      refine u_wp (ws' := [(hs, .inr (3, [.ref ql, .ref qn, .ref qe, .int ((stM y v) 53), .int ((stM y v) 61)])), (ql, .inr (1, [.ref qc])), (qc, aI G 54 (encC (stM y v))), (qn, aI G 24 (cntC (stM y v))), (qe, aI G 6 (linC (stM y v)))]) [0, 1, 2, 3, 4] rfl rfl ?_
      refine u_eqs (st' := []) rfl ?_
      refine u_iinc (k := 0) (v := (nI (n + 1))) (lv' := [(2, .int (nI (n + 1))), (0, .ref hs), (1, .int (nI v))]) h dX3_advanceFreely_7 rfl (nI_add n 1) (by rw [hL]; decide) rfl rfl ?_
      refine u_iload_n h dX3_advanceFreely_10 rfl 0 rfl rfl ?_
      refine u_sipush (v := 1000) h dX3_advanceFreely_11 (by decide) rfl ?_
      refine u_icmp_ge_N (a := (n + 1)) (b := 1000) (tgt := 25) h dX3_advanceFreely_14 (by decide) (by omega) (by omega) rfl (fun c1 => ?_) (fun c1 => ?_)
      · (have h9 := hG.1.2.1; omega)
      · have hWy2 : Wc (stM y v) := by rw [hy]; exact (hG.2 (n + 1) (by omega)).1
        have hst := hG.1.2.2.2 (n + 1) (by omega) (by omega)
        rw [show itS z v (n + 1) = stM y v by rw [hy]; rfl] at hst
        refine u_aload_n h dX3_advanceFreely_17 rfl 1 rfl rfl ?_
        refine u_iload_n h dX3_advanceFreely_18 rfl 2 rfl rfl ?_
        refine u_callV h (As := [.int (nI v)]) (wc := [(hs, .inr (3, [.ref ql, .ref qn, .ref qe, .int ((stM y v) 53), .int ((stM y v) 61)])), (ql, .inr (1, [.ref qc])), (qc, aI G 54 (encC (stM y v))), (qn, aI G 24 (cntC (stM y v))), (qe, aI G 6 (linC (stM y v)))]) (wr := []) (kX3_pauses G hs ql qc qn qe (stM y v) v hv hWy2) cwX3_advanceFreely_X3_pauses rfl rfl hR ⟨⟨rfl, rfl⟩, by decide, by decide⟩ ⟨Nat.le_of_ble_eq_true rfl, Nat.le_of_ble_eq_true rfl⟩ (ci := 3) (qr := 0) rfl rfl [0, 1, 2, 3, 4] [] rfl rfl rfl rfl (by decide) (Nat.le_of_ble_eq_true rfl) rfl dX3_advanceFreely_19 rfl (fun v9 u9 hp9 => ?_)
        obtain ⟨rfl, rfl⟩ := hp9
        refine u_wp (ws' := [(hs, .inr (3, [.ref ql, .ref qn, .ref qe, .int ((stM y v) 53), .int ((stM y v) 61)])), (ql, .inr (1, [.ref qc])), (qc, aI G 54 (encC (stM y v))), (qn, aI G 24 (cntC (stM y v))), (qe, aI G 6 (linC (stM y v)))]) [0, 1, 2, 3, 4] rfl rfl ?_
        refine u_eqs (st' := [.int (bI (stp (stM y v) v))]) rfl ?_
        refine u_if_eq_B (tgt := 2) h dX3_advanceFreely_22 (by decide) rfl (fun c2 => ?_) (fun c2 => ?_)
        · exact ihL _ (by omega) (n + 1) (stM y v) rfl (by rw [c2] at hst; have h9 := of_decide_eq_false hst.symm; omega) (by rw [hy]; rfl)
        · refine u_iload_n h dX3_advanceFreely_25 rfl 0 rfl rfl ?_
          exact u_iret h hRT dX3_advanceFreely_26 (by omega) (by omega) (by (have e9 : n + 1 = N := by rw [c2] at hst; exact of_decide_eq_true hst.symm); subst e9; exact ⟨rfl, by rw [hy]; rfl⟩)
  exact LL _ 0 z rfl hG.1.1 rfl

theorem flX3_advanceAll_14 : FL wsX3_advanceAll RX3 14 3 0 := ⟨RX3, TX3, 5, rfl, by decide, by decide +kernel, by decide +kernel⟩
set_option maxRecDepth 20000 in
theorem cwX3_advanceAll_X3_present : CWd wsX3_advanceAll (wsV RX3 74 RX3 yX3_present wsX3_present) yX3_present wsX3_present cX3_present 1 (some .int) 0 := ⟨gX3_advanceAll_X3_present, ⟨_, rfl⟩, by decide +kernel, by decide, by decide⟩
set_option maxRecDepth 20000 in
theorem cwX3_advanceAll_X1_stage : CWd wsX3_advanceAll (wsV RX3 60 RX1 yX1_stage wsX1_stage) yX1_stage wsX1_stage cX1_stage 2 (some .int) 1 := ⟨gX3_advanceAll_X1_stage, ⟨_, rfl⟩, by decide +kernel, by decide, by decide⟩
set_option maxRecDepth 20000 in
theorem cwX3_advanceAll_X3_advance : CWd wsX3_advanceAll (wsV RX3 69 RX3 yX3_advance wsX3_advance) yX3_advance wsX3_advance cX3_advance 3 none 1 := ⟨gX3_advanceAll_X3_advance, ⟨_, rfl⟩, by decide +kernel, by decide, by decide⟩
set_option maxHeartbeats 8000000 in
set_option maxRecDepth 100000 in
theorem kX3_advanceAll (G : Gx) (hs ql qc qn qe : Nat) (z : Zf) (N : Nat) (hF : FiC z N) : MC G yX3_advanceAll wsX3_advanceAll ({ frames := 6, cells := 0, slots := 0, locals := 127 } : Room) [.ref hs] [(hs, .inr (3, [.ref ql, .ref qn, .ref qe, .int (z 53), .int (z 61)])), (ql, .inr (1, [.ref qc])), (qc, aI G 54 (encC z)), (qn, aI G 24 (cntC z)), (qe, aI G 6 (linC z))] (fun v' u' => v' = some (.int (finA z N)) ∧ u' = [(hs, .inr (3, [.ref ql, .ref qn, .ref qe, .int ((frZ z N) 53), .int ((frZ z N) 61)])), (ql, .inr (1, [.ref qc])), (qc, aI G 54 (encC (frZ z N))), (qn, aI G 24 (cntC (frZ z N))), (qe, aI G 6 (linC (frZ z N)))]) 0 0 := by
  refine mc_of (cc := cX3_advanceAll) (maxL := 4) (ret := (some .int)) (by decide) rfl (Nat.le_of_ble_eq_true rfl) (fun X h hR hL hRT => ?_)
  refine u_eql (lv' := [(0, .ref hs)]) rfl ?_
  refine u_iconst (v := 0) h dX3_advanceAll_0 (by decide) rfl ?_
  refine u_istore_n (lv' := [(1, .int 0), (0, .ref hs)]) h dX3_advanceAll_1 rfl (by rw [hL]; decide) rfl rfl ?_
  refine u_iconst (v := 0) h dX3_advanceAll_2 (by decide) rfl ?_
  refine u_istore_n (lv' := [(2, .int 0), (1, .int 0), (0, .ref hs)]) h dX3_advanceAll_3 rfl (by rw [hL]; decide) rfl rfl ?_
  have LA : ∀ (k9 : Nat) (n : Nat) (m : Int32) (y : Zf), N - n = k9 → (n ≤ N) → (y = frZ z n) → (m = sumZ y 62 6 - sumZ z 62 6) → U G X 0 0 [(hs, .inr (3, [.ref ql, .ref qn, .ref qe, .int (y 53), .int (y 61)])), (ql, .inr (1, [.ref qc])), (qc, aI G 54 (encC y)), (qn, aI G 24 (cntC y)), (qe, aI G 6 (linC y))] 4 [(2, .int (nI n)), (1, .int m), (0, .ref hs)] [] := by
    intro k9
    induction k9 using Nat.strongRecOn with
    | _ k9 ihA =>
      intro n m y hk9 hn hy hm1
      subst hk9
      have hN9 := hF.1.1
      refine u_iload_n h dX3_advanceAll_4 rfl 0 rfl rfl ?_
      refine u_ldc (v := 100000) h dX3_advanceAll_5 (by decide +kernel) rfl ?_
      refine u_icmp_ge_N (a := n) (b := 100000) (tgt := 56) h dX3_advanceAll_7 (by decide) (by omega) (by omega) rfl (fun c1 => ?_) (fun c1 => ?_)
      · omega
      · refine u_aload_n h dX3_advanceAll_10 rfl 2 rfl rfl ?_
        refine u_callV h (As := []) (wc := [(hs, .inr (3, [.ref ql, .ref qn, .ref qe, .int (y 53), .int (y 61)])), (ql, .inr (1, [.ref qc])), (qc, aI G 54 (encC y)), (qn, aI G 24 (cntC y)), (qe, aI G 6 (linC y))]) (wr := []) (kX3_present G hs ql qc qn qe y) cwX3_advanceAll_X3_present rfl rfl hR ⟨⟨rfl, rfl⟩, by decide, by decide⟩ ⟨Nat.le_of_ble_eq_true rfl, Nat.le_of_ble_eq_true rfl⟩ (ci := 3) (qr := 0) rfl rfl [0, 1, 2, 3, 4] [] rfl rfl rfl rfl (by decide) (Nat.le_of_ble_eq_true rfl) rfl dX3_advanceAll_11 rfl (fun v9 u9 hp9 => ?_)
        obtain ⟨rfl, rfl⟩ := hp9
        refine u_wp (ws' := [(hs, .inr (3, [.ref ql, .ref qn, .ref qe, .int (y 53), .int (y 61)])), (ql, .inr (1, [.ref qc])), (qc, aI G 54 (encC y)), (qn, aI G 24 (cntC y)), (qe, aI G 6 (linC y))]) [0, 1, 2, 3, 4] rfl rfl ?_
        refine u_eqs (st' := [.int (cntZ y 6)]) rfl ?_
        refine u_if_le (tgt := 56) h dX3_advanceAll_14 (by decide) rfl (fun c2 => ?_) (fun c2 => ?_)
        · refine u_iload_n h dX3_advanceAll_56 rfl 1 rfl rfl ?_
          exact u_iret h hRT dX3_advanceAll_57 (by omega) (by omega) (by (have h8 : n = N := by rcases Nat.lt_or_ge n N with q | q; exact absurd (show 0 < cntZ y 6 by rw [hy]; exact hF.1.2.2.1 n q) (Int32.not_lt.mpr c2); omega); subst h8; exact ⟨by rw [hm1, hy]; rfl, by rw [hy]⟩)
        · have hn2 : n < N := by rcases Nat.lt_or_ge n N with q | q; exact q; exact absurd (show 0 < cntZ (frZ z N) 6 by rw [← Nat.le_antisymm hn q, ← hy]; exact Int32.not_le.mp c2) hF.1.2.2.2
          refine u_iconst (v := 0) h dX3_advanceAll_17 (by decide) rfl ?_
          refine u_istore_n (lv' := [(3, .int 0), (2, .int (nI n)), (1, .int m), (0, .ref hs)]) h dX3_advanceAll_18 rfl (by rw [hL]; decide) rfl rfl ?_
          have LB : ∀ (k9 : Nat) (i : Nat) (m2 : Int32) (y2 : Zf), 6 - i = k9 → (i ≤ 6) → (y2 = rdZ y i) → (m2 = sumZ y2 62 6 - sumZ z 62 6) → U G X 0 0 [(hs, .inr (3, [.ref ql, .ref qn, .ref qe, .int (y2 53), .int (y2 61)])), (ql, .inr (1, [.ref qc])), (qc, aI G 54 (encC y2)), (qn, aI G 24 (cntC y2)), (qe, aI G 6 (linC y2))] 19 [(3, .int (nI i)), (2, .int (nI n)), (1, .int m2), (0, .ref hs)] [] := by
            intro k9
            induction k9 using Nat.strongRecOn with
            | _ k9 ihB =>
              intro i m2 y2 hk9 hi hy2 hs2
              subst hk9
              refine u_iload_n h dX3_advanceAll_19 rfl 0 rfl rfl ?_
              refine u_bipush (v := 6) h dX3_advanceAll_20 (by decide) rfl ?_
              refine u_icmp_ge_N (a := i) (b := 6) (tgt := 50) h dX3_advanceAll_22 (by decide) (by omega) (by omega) rfl (fun c3 => ?_) (fun c3 => ?_)
              · refine u_iinc (k := 1) (v := (nI (n + 1))) (lv' := [(2, .int (nI (n + 1))), (3, .int (nI i)), (1, .int m2), (0, .ref hs)]) h dX3_advanceAll_50 rfl (nI_add n 1) (by rw [hL]; decide) rfl rfl ?_
                refine u_goto (tgt := 4) h dX3_advanceAll_53 (by decide) ?_
                refine u_lv (lv' := [(2, .int (nI (n + 1))), (1, .int m2), (0, .ref hs)]) [0, 2, 3] rfl ?_
                exact ihA _ (by omega) (n + 1) m2 y2 rfl (by omega) (by rw [hy2, show i = 6 by omega, hy]; rfl) hs2
              · have hv6 : i < 6 := by omega
                have hWy : Wc y2 := by rw [hy2, hy]; exact (hF.2 n i (by omega) (by omega)).1
                have hLy : Li y2 := by rw [hy2, hy]; exact (hF.2 n i (by omega) (by omega)).2
                refine u_aload_n h dX3_advanceAll_25 rfl 3 rfl rfl ?_
                refine u_get h flX3_advanceAll_14 0 (v := .ref ql) rfl rfl dX3_advanceAll_26 rfl ?_
                refine u_iload_n h dX3_advanceAll_29 rfl 0 rfl rfl ?_
                refine u_callV h (As := [.int (nI i)]) (wc := [(ql, .inr (1, [.ref qc])), (qc, aI G 54 (encC y2))]) (wr := [(hs, .inr (3, [.ref ql, .ref qn, .ref qe, .int (y2 53), .int (y2 61)])), (qn, aI G 24 (cntC y2)), (qe, aI G 6 (linC y2))]) (kX1_stage G ql qc (encC y2) i hv6) cwX3_advanceAll_X1_stage rfl rfl hR ⟨⟨rfl, rfl⟩, by decide, by decide⟩ ⟨Nat.le_of_ble_eq_true rfl, Nat.le_of_ble_eq_true rfl⟩ (ci := 1) (qr := 1) rfl rfl [1, 2] [0, 3, 4] rfl rfl rfl rfl (by decide) (Nat.le_of_ble_eq_true rfl) rfl dX3_advanceAll_30 rfl (fun v9 u9 hp9 => ?_)
                obtain ⟨rfl, rfl⟩ := hp9
                refine u_wp (ws' := [(hs, .inr (3, [.ref ql, .ref qn, .ref qe, .int (y2 53), .int (y2 61)])), (ql, .inr (1, [.ref qc])), (qc, aI G 54 (encC y2)), (qn, aI G 24 (cntC y2)), (qe, aI G 6 (linC y2))]) [0, 3, 4, 1, 2] rfl rfl ?_
                refine u_eqs (st' := [.int ((encC y2) i)]) rfl ?_
                refine u_top (y := (y2 i)) (e_st hv6) ?_
                refine u_if_eq (tgt := 44) h dX3_advanceAll_33 (by decide) rfl (fun c4 => ?_) (fun c4 => ?_)
                · refine u_iinc (k := 0) (v := (nI (i + 1))) (lv' := [(3, .int (nI (i + 1))), (2, .int (nI n)), (1, .int m2), (0, .ref hs)]) h dX3_advanceAll_44 rfl (nI_add i 1) (by rw [hL]; decide) rfl rfl ?_
                  refine u_goto (tgt := 19) h dX3_advanceAll_47 (by decide) ?_
                  exact ihB _ (by omega) (i + 1) m2 y2 rfl (by omega) (by rw [hy2]; simp only [rdZ]; rw [if_pos (by rw [← hy2]; exact c4)]) hs2
                · refine u_aload_n h dX3_advanceAll_36 rfl 3 rfl rfl ?_
                  refine u_iload_n h dX3_advanceAll_37 rfl 0 rfl rfl ?_
                  refine u_callV h (As := [.int (nI i)]) (wc := [(hs, .inr (3, [.ref ql, .ref qn, .ref qe, .int (y2 53), .int (y2 61)])), (ql, .inr (1, [.ref qc])), (qc, aI G 54 (encC y2)), (qn, aI G 24 (cntC y2)), (qe, aI G 6 (linC y2))]) (wr := []) (kX3_advance G hs ql qc qn qe y2 i hv6 hWy hLy) cwX3_advanceAll_X3_advance rfl rfl hR ⟨⟨rfl, rfl⟩, by decide, by decide⟩ ⟨Nat.le_of_ble_eq_true rfl, Nat.le_of_ble_eq_true rfl⟩ (ci := 3) (qr := 0) rfl rfl [0, 1, 2, 3, 4] [] rfl rfl rfl rfl (by decide) (Nat.le_of_ble_eq_true rfl) rfl dX3_advanceAll_38 rfl (fun v9 u9 hp9 => ?_)
                  obtain ⟨rfl, rfl⟩ := hp9
                  refine u_wp (ws' := [(hs, .inr (3, [.ref ql, .ref qn, .ref qe, .int ((stM y2 i) 53), .int ((stM y2 i) 61)])), (ql, .inr (1, [.ref qc])), (qc, aI G 54 (encC (stM y2 i))), (qn, aI G 24 (cntC (stM y2 i))), (qe, aI G 6 (linC (stM y2 i)))]) [0, 1, 2, 3, 4] rfl rfl ?_
                  refine u_eqs (st' := []) rfl ?_
                  refine u_iinc (k := 2) (v := (m2 + 1)) (lv' := [(1, .int (m2 + 1)), (3, .int (nI i)), (2, .int (nI n)), (0, .ref hs)]) h dX3_advanceAll_41 rfl rfl (by rw [hL]; decide) rfl rfl ?_
                  refine u_iinc (k := 1) (v := (nI (i + 1))) (lv' := [(3, .int (nI (i + 1))), (1, .int (m2 + 1)), (2, .int (nI n)), (0, .ref hs)]) h dX3_advanceAll_44 rfl (nI_add i 1) (by rw [hL]; decide) rfl rfl ?_
                  refine u_goto (tgt := 19) h dX3_advanceAll_47 (by decide) ?_
                  refine u_lv (lv' := [(3, .int (nI (i + 1))), (2, .int (nI n)), (1, .int (m2 + 1)), (0, .ref hs)]) [0, 2, 1, 3] rfl ?_
                  exact ihB _ (by omega) (i + 1) (m2 + 1) (stM y2 i) rfl (by omega) (by rw [hy2]; simp only [rdZ]; rw [if_neg (by rw [← hy2]; exact c4)]) (by rw [sum_step hv6 hWy.1, hs2, Int32.sub_eq_add_neg, Int32.sub_eq_add_neg, Int32.add_assoc, Int32.add_assoc, Int32.add_comm 1])
          exact LB _ 0 m y rfl (Nat.zero_le _) rfl hm1
  exact LA _ 0 0 z rfl (Nat.zero_le _) rfl (by rw [show sumZ z 62 6 - sumZ z 62 6 = 0 from Int32.sub_self _])
