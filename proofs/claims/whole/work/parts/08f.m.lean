theorem fin_halt {t : Zf} {n : Nat} {i d m : Nat} {b l y : Zf} {fin : Mq} (hi : n ≤ i) : ∀ K : Nat, mrun t n K (i, d, m, b, l, y) = fin → fin.2.2.2.2.2 = y
  | 0, h => by rw [← h]; rfl
  | K + 1, h => by
    have e : mstep t n (i, d, m, b, l, y) = (i, d, m, b, l, y) := if_pos hi
    simp only [mrun] at h
    rw [e] at h
    exact fin_halt hi K h
theorem flX5_perform_131 : FL wsX5_perform RX5 131 5 13 := ⟨RX5, TX5, 18, rfl, by decide, by decide +kernel, by decide +kernel⟩
theorem flX5_perform_125 : FL wsX5_perform RX5 125 5 7 := ⟨RX5, TX5, 18, rfl, by decide, by decide +kernel, by decide +kernel⟩
theorem flX5_perform_22 : FL wsX5_perform RX5 22 5 6 := ⟨RX5, TX5, 18, rfl, by decide, by decide +kernel, by decide +kernel⟩
theorem flX5_perform_37 : FL wsX5_perform RX5 37 5 12 := ⟨RX5, TX5, 18, rfl, by decide, by decide +kernel, by decide +kernel⟩
theorem flX5_perform_34 : FL wsX5_perform RX5 34 5 11 := ⟨RX5, TX5, 18, rfl, by decide, by decide +kernel, by decide +kernel⟩
set_option maxRecDepth 20000 in
theorem cwX5_perform_X5_read : CWd wsX5_perform (wsV RX5 134 RX5 yX5_read wsX5_read) yX5_read wsX5_read cX5_read 6 (some .int) 0 := ⟨gX5_perform_X5_read, ⟨_, rfl⟩, by decide +kernel, by decide, by decide⟩
set_option maxRecDepth 20000 in
theorem cwX5_perform_X5_record : CWd wsX5_perform (wsV RX5 67 RX5 yX5_record wsX5_record) yX5_record wsX5_record cX5_record 2 none 0 := ⟨gX5_perform_X5_record, ⟨_, rfl⟩, by decide +kernel, by decide, by decide⟩
set_option maxRecDepth 20000 in
theorem cwX5_perform_X5_in : CWd wsX5_perform (wsS RX5 47 yX5_in wsX5_in) yX5_in wsX5_in cX5_in 3 (some .boolean) 3 := ⟨gX5_perform_X5_in, ⟨_, rfl⟩, by decide +kernel, by decide, by decide⟩
set_option maxRecDepth 20000 in
theorem cwX5_perform_X5_makeStep : CWd wsX5_perform (wsV RX5 103 RX5 yX5_makeStep wsX5_makeStep) yX5_makeStep wsX5_makeStep cX5_makeStep 4 none 1 := ⟨gX5_perform_X5_makeStep, ⟨_, rfl⟩, by decide +kernel, by decide, by decide⟩
set_option maxHeartbeats 8000000 in
set_option maxRecDepth 100000 in
theorem kX5_perform (G : Gx) (h0 : Nat) (q : Nat → Nat) (st : Nat) (hst : st ≤ 4) (ik sT fm bo bt : Int32) (n : Nat) (hn : n ≤ 60) (z p t su iT ti bb ll : Zf) (hI : Inv z) : MC G yX5_perform wsX5_perform ({ frames := 3, cells := 0, slots := 0, locals := 69 } : Room) [.ref h0] [(h0, .inr (5, mO q (nI st) ik (nI n) sT fm bo bt)), ((q 0), aI G 86 z), ((q 2), aI G 344 p), ((q 4), aI G 60 t), ((q 5), aI G 62 su), ((q 6), aI G 62 iT), ((q 7), aI G 62 ti), ((q 8), aI G 62 bb), ((q 9), aI G 62 ll)] (fun v' u' => v' = some (.int (perfA t n)) ∧ ∃ (s' i' t' b' l' : Zf) (sT' : Int32), u' = [(h0, .inr (5, mO q (nI (nxN (okP t n) st)) ik (nI n) sT' fm bo bt)), ((q 0), aI G 86 (nxZ (okP t n) z (runZ z (exT t n).1))), ((q 2), aI G 344 (nxP (okP t n) p z st)), ((q 4), aI G 60 t), ((q 5), aI G 62 s'), ((q 6), aI G 62 i'), ((q 7), aI G 62 t'), ((q 8), aI G 62 b'), ((q 9), aI G 62 l')]) 0 0 := by
  refine mc_of (cc := cX5_perform) (maxL := 7) (ret := (some .int)) (by decide) rfl (Nat.le_of_ble_eq_true rfl) (fun X h hR hL hRT => ?_)
  refine u_eql (lv' := [(0, .ref h0)]) rfl ?_
  refine u_aload_n h dX5_perform_0 rfl 0 rfl rfl ?_
  refine u_callV h (As := []) (wc := [(h0, .inr (5, mO q (nI st) ik (nI n) sT fm bo bt)), ((q 4), aI G 60 t), ((q 5), aI G 62 su), ((q 6), aI G 62 iT), ((q 7), aI G 62 ti)]) (wr := [((q 0), aI G 86 z), ((q 2), aI G 344 p), ((q 8), aI G 62 bb), ((q 9), aI G 62 ll)]) (kX5_read G h0 q (nI st) ik sT fm bo bt n hn t su iT ti) cwX5_perform_X5_read rfl rfl hR ⟨⟨rfl, rfl⟩, by decide, by decide⟩ ⟨Nat.le_of_ble_eq_true rfl, Nat.le_of_ble_eq_true rfl⟩ (ci := 5) (qr := 0) rfl rfl [0, 3, 4, 5, 6] [1, 2, 7, 8] rfl rfl rfl rfl (by decide) (Nat.le_of_ble_eq_true rfl) rfl dX5_perform_1 rfl (fun v9 u9 hp9 => ?_)
  obtain ⟨rfl, s8, i8, t8, s9, hs9, rfl⟩ := hp9
  refine u_wp (ws' := [(h0, .inr (5, mO q (nI st) ik (nI n) s9 fm bo bt)), ((q 0), aI G 86 z), ((q 2), aI G 344 p), ((q 4), aI G 60 t), ((q 5), aI G 62 s8), ((q 6), aI G 62 i8), ((q 7), aI G 62 t8), ((q 8), aI G 62 bb), ((q 9), aI G 62 ll)]) [4, 0, 1, 5, 6, 7, 8, 2, 3] rfl rfl ?_
  refine u_eqs (st' := [.int (fauA t n)]) rfl ?_
  refine u_istore_n (lv' := [(1, .int (fauA t n)), (0, .ref h0)]) h dX5_perform_4 rfl (by rw [hL]; decide) rfl rfl ?_
  refine u_iload_n h dX5_perform_5 rfl 0 rfl rfl ?_
  refine u_bipush (v := (-5)) h dX5_perform_6 (by decide) rfl ?_
  refine u_icmp_eq (tgt := 16) h dX5_perform_8 (by decide) rfl (fun c1 => ?_) (fun c1 => ?_)
  · have hfa : fauA t n = -5 := c1
    have hs0 := hs9 hfa
    obtain ⟨hO, hd0, hit⟩ := fau_ok (by omega) hfa
    subst hs0
    refine u_eqw (ws' := [(h0, .inr (5, mO q (nI st) ik (nI n) (nI (min 2001 (exT t n).1.length)) fm bo bt)), ((q 0), aI G 86 z), ((q 2), aI G 344 p), ((q 4), aI G 60 t), ((q 5), aI G 62 s8), ((q 6), aI G 62 i8), ((q 7), aI G 62 t8), ((q 8), aI G 62 bb), ((q 9), aI G 62 ll)]) rfl ?_
    refine u_eql (lv' := [(1, .int (-5)), (0, .ref h0)]) (by rw [hfa]) ?_
    refine u_aload_n h dX5_perform_16 rfl 1 rfl rfl ?_
    refine u_get h flX5_perform_131 0 (v := .int (nI (min 2001 (exT t n).1.length))) rfl rfl dX5_perform_17 rfl ?_
    refine u_sipush (v := 2000) h dX5_perform_20 (by decide) rfl ?_
    refine u_icmp_le_N (a := (min 2001 (exT t n).1.length)) (b := 2000) (tgt := 29) h dX5_perform_23 (by decide) (by omega) (by omega) rfl (fun c2 => ?_) (fun c2 => ?_)
    · refine u_aload_n h dX5_perform_29 rfl 1 rfl rfl ?_
      refine u_callV h (As := []) (wc := [(h0, .inr (5, mO q (nI st) ik (nI n) (nI (min 2001 (exT t n).1.length)) fm bo bt)), ((q 0), aI G 86 z), ((q 2), aI G 344 p)]) (wr := [((q 4), aI G 60 t), ((q 5), aI G 62 s8), ((q 6), aI G 62 i8), ((q 7), aI G 62 t8), ((q 8), aI G 62 bb), ((q 9), aI G 62 ll)]) (kX5_record G h0 q st hst ik (nI n) (nI (min 2001 (exT t n).1.length)) fm bo bt z p) cwX5_perform_X5_record rfl rfl hR ⟨⟨rfl, rfl⟩, by decide, by decide⟩ ⟨Nat.le_of_ble_eq_true rfl, Nat.le_of_ble_eq_true rfl⟩ (ci := 5) (qr := 0) rfl rfl [0, 1, 2] [3, 4, 5, 6, 7, 8] rfl rfl rfl rfl (by decide) (Nat.le_of_ble_eq_true rfl) rfl dX5_perform_30 rfl (fun v9 u9 hp9 => ?_)
      obtain ⟨rfl, rfl⟩ := hp9
      refine u_wp (ws' := [(h0, .inr (5, mO q (nI (recN st)) ik (nI n) (nI (min 2001 (exT t n).1.length)) fm bo bt)), ((q 0), aI G 86 z), ((q 2), aI G 344 (recP p z st)), ((q 4), aI G 60 t), ((q 5), aI G 62 s8), ((q 6), aI G 62 i8), ((q 7), aI G 62 t8), ((q 8), aI G 62 bb), ((q 9), aI G 62 ll)]) [6, 7, 8, 0, 1, 2, 3, 4, 5] rfl rfl ?_
      refine u_eqs (st' := []) rfl ?_
      refine u_iconst (v := 0) h dX5_perform_33 (by decide) rfl ?_
      refine u_istore_n (lv' := [(2, .int 0), (1, .int (-5)), (0, .ref h0)]) h dX5_perform_34 rfl (by rw [hL]; decide) rfl rfl ?_
      obtain ⟨M, fin, hM, hf1, hf2⟩ := walk hO (show n < 2 ^ 20 by omega) bb ll z
      have hG0 : Gd t n (0, 0, 1, bb, ll, z) := ⟨Nat.zero_le _, rfl, rfl, fun k h1 h2 => by have h2 : k ≤ 0 := h2; omega, hI⟩
      refine u_iconst (v := 1) h dX5_perform_35 (by decide) rfl ?_
      refine u_istore_n (lv' := [(3, .int 1), (2, .int 0), (1, .int (-5)), (0, .ref h0)]) h dX5_perform_36 rfl (by rw [hL]; decide) rfl rfl ?_
      refine u_iconst (v := 0) h dX5_perform_37 (by decide) rfl ?_
      refine u_istore (lv' := [(4, .int 0), (3, .int 1), (2, .int 0), (1, .int (-5)), (0, .ref h0)]) h dX5_perform_38 (by rw [hL]; decide) rfl rfl ?_
      have LA : ∀ (k9 : Nat) (K : Nat) (i : Nat) (d : Nat) (m : Nat) (b : Zf) (l : Zf) (y : Zf), K = k9 → (mrun t n K (i, d, m, b, l, y) = fin) → (Gd t n (i, d, m, b, l, y)) → U G X 0 0 [(h0, .inr (5, mO q (nI (recN st)) ik (nI n) (nI (min 2001 (exT t n).1.length)) fm bo bt)), ((q 0), aI G 86 y), ((q 2), aI G 344 (recP p z st)), ((q 4), aI G 60 t), ((q 5), aI G 62 s8), ((q 6), aI G 62 i8), ((q 7), aI G 62 t8), ((q 8), aI G 62 b), ((q 9), aI G 62 l)] 40 [(4, .int (nI i)), (3, .int (nI m)), (2, .int (nI d)), (1, .int (-5)), (0, .ref h0)] [] := by
        intro k9
        induction k9 using Nat.strongRecOn with
        | _ k9 ihA =>
          intro K i d m b l y hk9 hrun hG
          subst hk9
          have gi : i ≤ n := hG.1
          have gd : d = (scT t i).1 := hG.2.1
          have gm : m = mT t i := hG.2.2.1
          have gb : ∀ k : Nat, 1 ≤ k → k ≤ d → b k = nI (bgT t i k) ∧ ∃ e : Nat, e ≤ 9 ∧ l k = nI e := hG.2.2.2.1
          have gI : Inv y := hG.2.2.2.2
          have hOi : OkP t i := hO.le gi
          have hm9 := mT_le hOi
          have hdi : d ≤ i := by rw [gd]; exact hm9.2.2.1
          have hm1 : 1 ≤ m := by rw [gm]; exact hm9.1
          have hmm : m ≤ 9 := by rw [gm]; exact hm9.2.1
          refine u_iload h dX5_perform_40 0 rfl rfl ?_
          refine u_aload_n h dX5_perform_42 rfl 4 rfl rfl ?_
          refine u_get h flX5_perform_125 0 (v := .int (nI n)) rfl rfl dX5_perform_43 rfl ?_
          refine u_icmp_ge_N (a := i) (b := n) (tgt := 202) h dX5_perform_46 (by decide) (by omega) (by omega) rfl (fun c3 => ?_) (fun c3 => ?_)
          · refine u_aload_n h dX5_perform_202 rfl 4 rfl rfl ?_
            refine u_get h flX5_perform_131 0 (v := .int (nI (min 2001 (exT t n).1.length))) rfl rfl dX5_perform_203 rfl ?_
            exact u_iret h hRT dX5_perform_206 (by omega) (by omega) (by have h2 : ¬ 2000 < (exT t n).1.length := (by omega); have ok : okP t n = true := (by simp [okP, hfa, h2]); have ey : y = runZ z (exT t n).1 := (by rw [← hf2, fin_halt (show n ≤ i by omega) K hrun]); refine ⟨by simp only [perfA, if_pos hfa, if_neg h2]; rw [show min 2001 (exT t n).1.length = (exT t n).1.length by omega], s8, i8, t8, b, l, (nI (min 2001 (exT t n).1.length)), ?_⟩; rw [ok, ← ey]; rfl)
          · have hK : 0 < K := by rcases Nat.eq_zero_or_pos K with q9 | q9; exfalso; subst q9; have h8 : i = fin.1 := congrArg Prod.fst hrun; omega; exact q9
            have hrun2 := hrun; rw [mrun_pos hK] at hrun2
            have hG2 := hG.step hO (show n < 2 ^ 20 by omega)
            have hoc := okc_cases (hO i (by omega))
            refine u_aload_n h dX5_perform_49 rfl 4 rfl rfl ?_
            refine u_get h flX5_perform_22 0 (v := .ref (q 4)) rfl rfl dX5_perform_50 rfl ?_
            refine u_iload h dX5_perform_53 0 rfl rfl ?_
            refine u_iald h (n := i) 3 rfl (by omega) (by omega) dX5_perform_55 rfl ?_
            refine u_istore (lv' := [(5, .int (t i)), (4, .int (nI i)), (3, .int (nI m)), (2, .int (nI d)), (1, .int (-5)), (0, .ref h0)]) h dX5_perform_56 (by rw [hL]; decide) rfl rfl ?_
            refine u_iinc (k := 1) (v := (nI (i + 1))) (lv' := [(4, .int (nI (i + 1))), (5, .int (t i)), (3, .int (nI m)), (2, .int (nI d)), (1, .int (-5)), (0, .ref h0)]) h dX5_perform_58 rfl (nI_add i 1) (by rw [hL]; decide) rfl rfl ?_
            refine u_iload h dX5_perform_61 1 rfl rfl ?_
            refine u_bipush (v := 50) h dX5_perform_63 (by decide) rfl ?_
            refine u_bipush (v := 57) h dX5_perform_65 (by decide) rfl ?_
            refine u_callS h (As := [.int (t i), .int 50, .int 57]) (wc := []) (wr := [(h0, .inr (5, mO q (nI (recN st)) ik (nI n) (nI (min 2001 (exT t n).1.length)) fm bo bt)), ((q 0), aI G 86 y), ((q 2), aI G 344 (recP p z st)), ((q 4), aI G 60 t), ((q 5), aI G 62 s8), ((q 6), aI G 62 i8), ((q 7), aI G 62 t8), ((q 8), aI G 62 b), ((q 9), aI G 62 l)]) (kX5_in G (t i) 50 57) cwX5_perform_X5_in rfl rfl hR ⟨⟨rfl, rfl⟩, by decide, by decide⟩ ⟨Nat.le_of_ble_eq_true rfl, Nat.le_of_ble_eq_true rfl⟩ [] [0, 1, 2, 3, 4, 5, 6, 7, 8] rfl rfl rfl rfl (by decide) (Nat.le_of_ble_eq_true rfl) rfl dX5_perform_67 rfl (fun v9 u9 hp9 => ?_)
            obtain ⟨rfl, rfl⟩ := hp9
            refine u_wp (ws' := [(h0, .inr (5, mO q (nI (recN st)) ik (nI n) (nI (min 2001 (exT t n).1.length)) fm bo bt)), ((q 0), aI G 86 y), ((q 2), aI G 344 (recP p z st)), ((q 4), aI G 60 t), ((q 5), aI G 62 s8), ((q 6), aI G 62 i8), ((q 7), aI G 62 t8), ((q 8), aI G 62 b), ((q 9), aI G 62 l)]) [0, 1, 2, 3, 4, 5, 6, 7, 8] rfl rfl ?_
            refine u_eqs (st' := [.int (bI (inB (t i) 50 57))]) rfl ?_
            refine u_if_eq_B (tgt := 82) h dX5_perform_70 (by decide) rfl (fun c4 => ?_) (fun c4 => ?_)
            · refine u_iload h dX5_perform_82 1 rfl rfl ?_
              refine u_bipush (v := 40) h dX5_perform_84 (by decide) rfl ?_
              refine u_icmp_ne (tgt := 114) h dX5_perform_86 (by decide) rfl (fun c5 => ?_) (fun c5 => ?_)
              · refine u_iload h dX5_perform_114 1 rfl rfl ?_
                refine u_bipush (v := 41) h dX5_perform_116 (by decide) rfl ?_
                refine u_icmp_ne (tgt := 173) h dX5_perform_118 (by decide) rfl (fun c6 => ?_) (fun c6 => ?_)
                · have isl : isLt (t i) = true := by rcases hoc with ⟨q9, -⟩ | ⟨-, q9⟩ | ⟨-, -, q9⟩ | ⟨-, -, -, q9, -⟩; exact absurd (q9.symm.trans c4) (by decide); exact q9; exact absurd q9 c5; exact absurd q9 c6
                  obtain ⟨v, hv, -, ev⟩ := lt_nat isl
                  rw [ms_lt (show i < n by omega) isl, ev, ix_nI (show v < 2 ^ 31 by omega)] at hrun2 hG2
                  refine u_iconst (v := 0) h dX5_perform_173 (by decide) rfl ?_
                  refine u_istore (lv' := [(6, .int 0), (4, .int (nI (i + 1))), (5, .int (t i)), (3, .int (nI m)), (2, .int (nI d)), (1, .int (-5)), (0, .ref h0)]) h dX5_perform_174 (by rw [hL]; decide) rfl rfl ?_
                  have LB : ∀ (k9 : Nat) (k : Nat) (w : Zf), m - k = k9 → (k ≤ m) → (w = itS y v k) → U G X 0 0 [(h0, .inr (5, mO q (nI (recN st)) ik (nI n) (nI (min 2001 (exT t n).1.length)) fm bo bt)), ((q 0), aI G 86 w), ((q 2), aI G 344 (recP p z st)), ((q 4), aI G 60 t), ((q 5), aI G 62 s8), ((q 6), aI G 62 i8), ((q 7), aI G 62 t8), ((q 8), aI G 62 b), ((q 9), aI G 62 l)] 176 [(6, .int (nI k)), (4, .int (nI (i + 1))), (5, .int (t i)), (3, .int (nI m)), (2, .int (nI d)), (1, .int (-5)), (0, .ref h0)] [] := by
                    intro k9
                    induction k9 using Nat.strongRecOn with
                    | _ k9 ihB =>
                      intro k w hk9 hk hw
                      subst hk9
                      refine u_iload h dX5_perform_176 0 rfl rfl ?_
                      refine u_iload_n h dX5_perform_178 rfl 3 rfl rfl ?_
                      refine u_icmp_ge_N (a := k) (b := m) (tgt := 197) h dX5_perform_179 (by decide) (by omega) (by omega) rfl (fun c7 => ?_) (fun c7 => ?_)
                      · refine u_iconst (v := 1) h dX5_perform_197 (by decide) rfl ?_
                        refine u_istore_n (lv' := [(3, .int 1), (6, .int (nI k)), (4, .int (nI (i + 1))), (5, .int (t i)), (2, .int (nI d)), (1, .int (-5)), (0, .ref h0)]) h dX5_perform_198 rfl (by rw [hL]; decide) rfl rfl ?_
                        refine u_goto (tgt := 40) h dX5_perform_199 (by decide) ?_
                        refine u_lv (lv' := [(4, .int (nI (i + 1))), (3, .int 1), (2, .int (nI d)), (1, .int (-5)), (0, .ref h0)]) [2, 0, 4, 5, 6] rfl ?_
                        exact ihA _ (by omega) (K - 1) (i + 1) d 1 b l w rfl (by have e9 : k = m := (by omega); subst e9; rw [hw]; exact hrun2) (by have e9 : k = m := (by omega); subst e9; rw [hw]; exact hG2)
                      · refine u_aload_n h dX5_perform_182 rfl 6 rfl rfl ?_
                        refine u_iload h dX5_perform_183 2 rfl rfl ?_
                        refine u_bipush (v := 97) h dX5_perform_185 (by decide) rfl ?_
                        refine u_isub (v := ((t i) - 97)) h dX5_perform_187 rfl rfl ?_
                        refine u_top (y := nI v) ev ?_
                        have hWw : Wf w := by rw [hw]; exact (Inv.it hv gI k).wf
                        refine u_callV h (As := [.int (nI v)]) (wc := [(h0, .inr (5, mO q (nI (recN st)) ik (nI n) (nI (min 2001 (exT t n).1.length)) fm bo bt)), ((q 0), aI G 86 w)]) (wr := [((q 2), aI G 344 (recP p z st)), ((q 4), aI G 60 t), ((q 5), aI G 62 s8), ((q 6), aI G 62 i8), ((q 7), aI G 62 t8), ((q 8), aI G 62 b), ((q 9), aI G 62 l)]) (kX5_makeStep G h0 (q 0) (mO q (nI (recN st)) ik (nI n) (nI (min 2001 (exT t n).1.length)) fm bo bt) rfl w v hv hWw) cwX5_perform_X5_makeStep rfl rfl hR ⟨⟨rfl, rfl⟩, by decide, by decide⟩ ⟨Nat.le_of_ble_eq_true rfl, Nat.le_of_ble_eq_true rfl⟩ (ci := 5) (qr := 0) rfl rfl [0, 1] [2, 3, 4, 5, 6, 7, 8] rfl rfl rfl rfl (by decide) (Nat.le_of_ble_eq_true rfl) rfl dX5_perform_188 rfl (fun v9 u9 hp9 => ?_)
                        obtain ⟨rfl, rfl⟩ := hp9
                        refine u_wp (ws' := [(h0, .inr (5, mO q (nI (recN st)) ik (nI n) (nI (min 2001 (exT t n).1.length)) fm bo bt)), ((q 0), aI G 86 (stM w v)), ((q 2), aI G 344 (recP p z st)), ((q 4), aI G 60 t), ((q 5), aI G 62 s8), ((q 6), aI G 62 i8), ((q 7), aI G 62 t8), ((q 8), aI G 62 b), ((q 9), aI G 62 l)]) [7, 8, 0, 1, 2, 3, 4, 5, 6] rfl rfl ?_
                        refine u_eqs (st' := []) rfl ?_
                        refine u_iinc (k := 0) (v := (nI (k + 1))) (lv' := [(6, .int (nI (k + 1))), (4, .int (nI (i + 1))), (5, .int (t i)), (3, .int (nI m)), (2, .int (nI d)), (1, .int (-5)), (0, .ref h0)]) h dX5_perform_191 rfl (nI_add k 1) (by rw [hL]; decide) rfl rfl ?_
                        refine u_goto (tgt := 176) h dX5_perform_194 (by decide) ?_
                        exact ihB _ (by omega) (k + 1) (stM w v) rfl (by omega) (by rw [hw]; rfl)
                  exact LB _ 0 y rfl (Nat.zero_le _) rfl
                · have c41 : t i = 41 := c6
                  have hd1 : 0 < d := by rcases hoc with ⟨q9, -⟩ | ⟨-, q9⟩ | ⟨-, -, q9⟩ | ⟨-, -, -, -, q9, -⟩; rw [c41] at q9; exact absurd q9 (by decide); rw [c41] at q9; exact absurd q9 (by decide); rw [c41] at q9; exact absurd q9 (by decide); rw [gd]; exact q9
                  obtain ⟨hbB, e0, he0, hle⟩ := gb d hd1 (Nat.le_refl _)
                  have hB := (bg_spec hOi d hd1 (by rw [gd]; exact Nat.le_refl _)).1
                  rw [ms_cl (x := l d) (show ¬ n ≤ i by omega) (by rw [c41]; decide) (by rw [c41]; decide) c41 rfl] at hrun2 hG2
                  generalize hj1 : (if 0 < l d then ix (b d) else i + 1) = j1 at hrun2 hG2
                  generalize hj2 : (if l d - 1 < 0 then 1 else 0) = j2 at hrun2 hG2
                  have hj2d : j2 ≤ d := by rw [← hj2]; split <;> omega
                  have hj1n : j1 ≤ n := hG2.1
                  refine u_aload_n h dX5_perform_121 rfl 5 rfl rfl ?_
                  refine u_get h flX5_perform_37 0 (v := .ref (q 9)) rfl rfl dX5_perform_122 rfl ?_
                  refine u_iload_n h dX5_perform_125 rfl 3 rfl rfl ?_
                  refine u_iald h (n := d) 8 rfl (by omega) (by omega) dX5_perform_126 rfl ?_
                  have J8 : ∀ x9 : Int32, x9 = (nI j1) → U G X 0 0 [(h0, .inr (5, mO q (nI (recN st)) ik (nI n) (nI (min 2001 (exT t n).1.length)) fm bo bt)), ((q 0), aI G 86 y), ((q 2), aI G 344 (recP p z st)), ((q 4), aI G 60 t), ((q 5), aI G 62 s8), ((q 6), aI G 62 i8), ((q 7), aI G 62 t8), ((q 8), aI G 62 b), ((q 9), aI G 62 l)] 141 [(4, .int (nI (i + 1))), (5, .int (t i)), (3, .int (nI m)), (2, .int (nI d)), (1, .int (-5)), (0, .ref h0)] [.int x9] := by
                    intro x9 e9
                    subst e9
                    refine u_istore (lv' := [(4, .int (nI j1)), (5, .int (t i)), (3, .int (nI m)), (2, .int (nI d)), (1, .int (-5)), (0, .ref h0)]) h dX5_perform_141 (by rw [hL]; decide) rfl rfl ?_
                    refine u_aload_n h dX5_perform_143 rfl 5 rfl rfl ?_
                    refine u_get h flX5_perform_37 0 (v := .ref (q 9)) rfl rfl dX5_perform_144 rfl ?_
                    refine u_iload_n h dX5_perform_147 rfl 3 rfl rfl ?_
                    refine u_dup2 h dX5_perform_148 rfl rfl rfl ?_
                    refine u_iald h (n := d) 8 rfl (by omega) (by omega) dX5_perform_149 rfl ?_
                    refine u_iconst (v := 1) h dX5_perform_150 (by decide) rfl ?_
                    refine u_isub (v := ((l d) - 1)) h dX5_perform_151 rfl rfl ?_
                    refine u_iast h (n := d) (v := ((l d) - 1)) 8 rfl (by omega) (by omega) rfl (ws' := [(h0, .inr (5, mO q (nI (recN st)) ik (nI n) (nI (min 2001 (exT t n).1.length)) fm bo bt)), ((q 0), aI G 86 y), ((q 2), aI G 344 (recP p z st)), ((q 4), aI G 60 t), ((q 5), aI G 62 s8), ((q 6), aI G 62 i8), ((q 7), aI G 62 t8), ((q 8), aI G 62 b), ((q 9), aI G 62 (upd l d ((l d) - 1)))]) rfl dX5_perform_152 rfl ?_
                    refine u_iload_n h dX5_perform_153 rfl 3 rfl rfl ?_
                    refine u_aload_n h dX5_perform_154 rfl 5 rfl rfl ?_
                    refine u_get h flX5_perform_37 0 (v := .ref (q 9)) rfl rfl dX5_perform_155 rfl ?_
                    refine u_iload_n h dX5_perform_158 rfl 3 rfl rfl ?_
                    refine u_iald h (n := d) 8 rfl (by omega) (by omega) dX5_perform_159 rfl ?_
                    refine u_top (y := ((l d) - 1)) (by rw [pk_us]) ?_
                    have J10 : ∀ x11 : Int32, x11 = (nI j2) → U G X 0 0 [(h0, .inr (5, mO q (nI (recN st)) ik (nI n) (nI (min 2001 (exT t n).1.length)) fm bo bt)), ((q 0), aI G 86 y), ((q 2), aI G 344 (recP p z st)), ((q 4), aI G 60 t), ((q 5), aI G 62 s8), ((q 6), aI G 62 i8), ((q 7), aI G 62 t8), ((q 8), aI G 62 b), ((q 9), aI G 62 (upd l d ((l d) - 1)))] 168 [(4, .int (nI j1)), (5, .int (t i)), (3, .int (nI m)), (2, .int (nI d)), (1, .int (-5)), (0, .ref h0)] [.int x11, .int (nI d)] := by
                      intro x11 e9
                      subst e9
                      refine u_isub (v := (nI (d - j2))) h dX5_perform_168 (pk_sub (by omega)) rfl ?_
                      refine u_istore_n (lv' := [(2, .int (nI (d - j2))), (4, .int (nI j1)), (5, .int (t i)), (3, .int (nI m)), (1, .int (-5)), (0, .ref h0)]) h dX5_perform_169 rfl (by rw [hL]; decide) rfl rfl ?_
                      refine u_goto (tgt := 199) h dX5_perform_170 (by decide) ?_
                      refine u_goto (tgt := 40) h dX5_perform_199 (by decide) ?_
                      refine u_lv (lv' := [(4, .int (nI j1)), (3, .int (nI m)), (2, .int (nI (d - j2))), (1, .int (-5)), (0, .ref h0)]) [1, 3, 0, 4, 5] rfl ?_
                      exact ihA _ (by omega) (K - 1) j1 (d - j2) m b (upd l d ((l d) - 1)) y rfl hrun2 hG2
                    refine u_if_ge (tgt := 167) h dX5_perform_160 (by decide) rfl (fun c12 => ?_) (fun c12 => ?_)
                    · refine u_iconst (v := 0) h dX5_perform_167 (by decide) rfl ?_
                      exact J10 _ (by first | (first | (rw [← hj2, if_pos (c := l d - 1 < 0) (Int32.not_le.mp (by assumption))]; rfl) | (rw [← hj2, if_neg (c := l d - 1 < 0) (Int32.not_lt.mpr (by assumption))]; rfl); done) | (exfalso; first | exact absurd (c1.symm.trans c2) (by decide) | exact absurd (c1.symm.trans c3) (by decide) | exact absurd (c1.symm.trans c4) (by decide) | exact absurd (c1.symm.trans c5) (by decide) | exact absurd (c1.symm.trans c6) (by decide) | exact absurd (c1.symm.trans c12) (by decide) | exact absurd (c2.symm.trans c1) (by decide) | exact absurd (c2.symm.trans c3) (by decide) | exact absurd (c2.symm.trans c4) (by decide) | exact absurd (c2.symm.trans c5) (by decide) | exact absurd (c2.symm.trans c6) (by decide) | exact absurd (c2.symm.trans c12) (by decide) | exact absurd (c3.symm.trans c1) (by decide) | exact absurd (c3.symm.trans c2) (by decide) | exact absurd (c3.symm.trans c4) (by decide) | exact absurd (c3.symm.trans c5) (by decide) | exact absurd (c3.symm.trans c6) (by decide) | exact absurd (c3.symm.trans c12) (by decide) | exact absurd (c4.symm.trans c1) (by decide) | exact absurd (c4.symm.trans c2) (by decide) | exact absurd (c4.symm.trans c3) (by decide) | exact absurd (c4.symm.trans c5) (by decide) | exact absurd (c4.symm.trans c6) (by decide) | exact absurd (c4.symm.trans c12) (by decide) | exact absurd (c5.symm.trans c1) (by decide) | exact absurd (c5.symm.trans c2) (by decide) | exact absurd (c5.symm.trans c3) (by decide) | exact absurd (c5.symm.trans c4) (by decide) | exact absurd (c5.symm.trans c6) (by decide) | exact absurd (c5.symm.trans c12) (by decide) | exact absurd (c6.symm.trans c1) (by decide) | exact absurd (c6.symm.trans c2) (by decide) | exact absurd (c6.symm.trans c3) (by decide) | exact absurd (c6.symm.trans c4) (by decide) | exact absurd (c6.symm.trans c5) (by decide) | exact absurd (c6.symm.trans c12) (by decide) | exact absurd (c12.symm.trans c1) (by decide) | exact absurd (c12.symm.trans c2) (by decide) | exact absurd (c12.symm.trans c3) (by decide) | exact absurd (c12.symm.trans c4) (by decide) | exact absurd (c12.symm.trans c5) (by decide) | exact absurd (c12.symm.trans c6) (by decide)))
                    · refine u_iconst (v := 1) h dX5_perform_163 (by decide) rfl ?_
                      refine u_goto (tgt := 168) h dX5_perform_164 (by decide) ?_
                      exact J10 _ (by first | (first | (rw [← hj2, if_pos (c := l d - 1 < 0) (Int32.not_le.mp (by assumption))]; rfl) | (rw [← hj2, if_neg (c := l d - 1 < 0) (Int32.not_lt.mpr (by assumption))]; rfl); done) | (exfalso; first | exact absurd (c1.symm.trans c2) (by decide) | exact absurd (c1.symm.trans c3) (by decide) | exact absurd (c1.symm.trans c4) (by decide) | exact absurd (c1.symm.trans c5) (by decide) | exact absurd (c1.symm.trans c6) (by decide) | exact absurd (c1.symm.trans c12) (by decide) | exact absurd (c2.symm.trans c1) (by decide) | exact absurd (c2.symm.trans c3) (by decide) | exact absurd (c2.symm.trans c4) (by decide) | exact absurd (c2.symm.trans c5) (by decide) | exact absurd (c2.symm.trans c6) (by decide) | exact absurd (c2.symm.trans c12) (by decide) | exact absurd (c3.symm.trans c1) (by decide) | exact absurd (c3.symm.trans c2) (by decide) | exact absurd (c3.symm.trans c4) (by decide) | exact absurd (c3.symm.trans c5) (by decide) | exact absurd (c3.symm.trans c6) (by decide) | exact absurd (c3.symm.trans c12) (by decide) | exact absurd (c4.symm.trans c1) (by decide) | exact absurd (c4.symm.trans c2) (by decide) | exact absurd (c4.symm.trans c3) (by decide) | exact absurd (c4.symm.trans c5) (by decide) | exact absurd (c4.symm.trans c6) (by decide) | exact absurd (c4.symm.trans c12) (by decide) | exact absurd (c5.symm.trans c1) (by decide) | exact absurd (c5.symm.trans c2) (by decide) | exact absurd (c5.symm.trans c3) (by decide) | exact absurd (c5.symm.trans c4) (by decide) | exact absurd (c5.symm.trans c6) (by decide) | exact absurd (c5.symm.trans c12) (by decide) | exact absurd (c6.symm.trans c1) (by decide) | exact absurd (c6.symm.trans c2) (by decide) | exact absurd (c6.symm.trans c3) (by decide) | exact absurd (c6.symm.trans c4) (by decide) | exact absurd (c6.symm.trans c5) (by decide) | exact absurd (c6.symm.trans c12) (by decide) | exact absurd (c12.symm.trans c1) (by decide) | exact absurd (c12.symm.trans c2) (by decide) | exact absurd (c12.symm.trans c3) (by decide) | exact absurd (c12.symm.trans c4) (by decide) | exact absurd (c12.symm.trans c5) (by decide) | exact absurd (c12.symm.trans c6) (by decide)))
                  refine u_if_le (tgt := 139) h dX5_perform_127 (by decide) rfl (fun c13 => ?_) (fun c13 => ?_)
                  · refine u_iload h dX5_perform_139 0 rfl rfl ?_
                    exact J8 _ (by first | (first | (rw [← hj1, if_pos (c := 0 < l d) (Int32.not_le.mp (by assumption)), hbB, ix_nI (by omega)]; done) | (rw [← hj1, if_neg (c := 0 < l d) (Int32.not_lt.mpr (by assumption))]; done); done) | (exfalso; first | exact absurd (c1.symm.trans c2) (by decide) | exact absurd (c1.symm.trans c3) (by decide) | exact absurd (c1.symm.trans c4) (by decide) | exact absurd (c1.symm.trans c5) (by decide) | exact absurd (c1.symm.trans c6) (by decide) | exact absurd (c1.symm.trans c13) (by decide) | exact absurd (c2.symm.trans c1) (by decide) | exact absurd (c2.symm.trans c3) (by decide) | exact absurd (c2.symm.trans c4) (by decide) | exact absurd (c2.symm.trans c5) (by decide) | exact absurd (c2.symm.trans c6) (by decide) | exact absurd (c2.symm.trans c13) (by decide) | exact absurd (c3.symm.trans c1) (by decide) | exact absurd (c3.symm.trans c2) (by decide) | exact absurd (c3.symm.trans c4) (by decide) | exact absurd (c3.symm.trans c5) (by decide) | exact absurd (c3.symm.trans c6) (by decide) | exact absurd (c3.symm.trans c13) (by decide) | exact absurd (c4.symm.trans c1) (by decide) | exact absurd (c4.symm.trans c2) (by decide) | exact absurd (c4.symm.trans c3) (by decide) | exact absurd (c4.symm.trans c5) (by decide) | exact absurd (c4.symm.trans c6) (by decide) | exact absurd (c4.symm.trans c13) (by decide) | exact absurd (c5.symm.trans c1) (by decide) | exact absurd (c5.symm.trans c2) (by decide) | exact absurd (c5.symm.trans c3) (by decide) | exact absurd (c5.symm.trans c4) (by decide) | exact absurd (c5.symm.trans c6) (by decide) | exact absurd (c5.symm.trans c13) (by decide) | exact absurd (c6.symm.trans c1) (by decide) | exact absurd (c6.symm.trans c2) (by decide) | exact absurd (c6.symm.trans c3) (by decide) | exact absurd (c6.symm.trans c4) (by decide) | exact absurd (c6.symm.trans c5) (by decide) | exact absurd (c6.symm.trans c13) (by decide) | exact absurd (c13.symm.trans c1) (by decide) | exact absurd (c13.symm.trans c2) (by decide) | exact absurd (c13.symm.trans c3) (by decide) | exact absurd (c13.symm.trans c4) (by decide) | exact absurd (c13.symm.trans c5) (by decide) | exact absurd (c13.symm.trans c6) (by decide)))
                  · refine u_aload_n h dX5_perform_130 rfl 5 rfl rfl ?_
                    refine u_get h flX5_perform_34 0 (v := .ref (q 8)) rfl rfl dX5_perform_131 rfl ?_
                    refine u_iload_n h dX5_perform_134 rfl 3 rfl rfl ?_
                    refine u_iald h (n := d) 7 rfl (by omega) (by omega) dX5_perform_135 rfl ?_
                    refine u_goto (tgt := 141) h dX5_perform_136 (by decide) ?_
                    exact J8 _ (by first | (first | (rw [← hj1, if_pos (c := 0 < l d) (Int32.not_le.mp (by assumption)), hbB, ix_nI (by omega)]; done) | (rw [← hj1, if_neg (c := 0 < l d) (Int32.not_lt.mpr (by assumption))]; done); done) | (exfalso; first | exact absurd (c1.symm.trans c2) (by decide) | exact absurd (c1.symm.trans c3) (by decide) | exact absurd (c1.symm.trans c4) (by decide) | exact absurd (c1.symm.trans c5) (by decide) | exact absurd (c1.symm.trans c6) (by decide) | exact absurd (c1.symm.trans c13) (by decide) | exact absurd (c2.symm.trans c1) (by decide) | exact absurd (c2.symm.trans c3) (by decide) | exact absurd (c2.symm.trans c4) (by decide) | exact absurd (c2.symm.trans c5) (by decide) | exact absurd (c2.symm.trans c6) (by decide) | exact absurd (c2.symm.trans c13) (by decide) | exact absurd (c3.symm.trans c1) (by decide) | exact absurd (c3.symm.trans c2) (by decide) | exact absurd (c3.symm.trans c4) (by decide) | exact absurd (c3.symm.trans c5) (by decide) | exact absurd (c3.symm.trans c6) (by decide) | exact absurd (c3.symm.trans c13) (by decide) | exact absurd (c4.symm.trans c1) (by decide) | exact absurd (c4.symm.trans c2) (by decide) | exact absurd (c4.symm.trans c3) (by decide) | exact absurd (c4.symm.trans c5) (by decide) | exact absurd (c4.symm.trans c6) (by decide) | exact absurd (c4.symm.trans c13) (by decide) | exact absurd (c5.symm.trans c1) (by decide) | exact absurd (c5.symm.trans c2) (by decide) | exact absurd (c5.symm.trans c3) (by decide) | exact absurd (c5.symm.trans c4) (by decide) | exact absurd (c5.symm.trans c6) (by decide) | exact absurd (c5.symm.trans c13) (by decide) | exact absurd (c6.symm.trans c1) (by decide) | exact absurd (c6.symm.trans c2) (by decide) | exact absurd (c6.symm.trans c3) (by decide) | exact absurd (c6.symm.trans c4) (by decide) | exact absurd (c6.symm.trans c5) (by decide) | exact absurd (c6.symm.trans c13) (by decide) | exact absurd (c13.symm.trans c1) (by decide) | exact absurd (c13.symm.trans c2) (by decide) | exact absurd (c13.symm.trans c3) (by decide) | exact absurd (c13.symm.trans c4) (by decide) | exact absurd (c13.symm.trans c5) (by decide) | exact absurd (c13.symm.trans c6) (by decide)))
              · have c40 : t i = 40 := c5
                rw [ms_op (show i < n by omega) c40, show nI m - 1 = nI (m - 1) from pk_sub (by omega)] at hrun2 hG2
                have hdi1 : d + 1 ≤ i + 1 := by omega
                refine u_iinc (k := 3) (v := (nI (d + 1))) (lv' := [(2, .int (nI (d + 1))), (4, .int (nI (i + 1))), (5, .int (t i)), (3, .int (nI m)), (1, .int (-5)), (0, .ref h0)]) h dX5_perform_89 rfl (nI_add d 1) (by rw [hL]; decide) rfl rfl ?_
                refine u_aload_n h dX5_perform_92 rfl 5 rfl rfl ?_
                refine u_get h flX5_perform_34 0 (v := .ref (q 8)) rfl rfl dX5_perform_93 rfl ?_
                refine u_iload_n h dX5_perform_96 rfl 0 rfl rfl ?_
                refine u_iload h dX5_perform_97 1 rfl rfl ?_
                refine u_iast h (n := (d + 1)) (v := (nI (i + 1))) 7 rfl (by omega) (by omega) rfl (ws' := [(h0, .inr (5, mO q (nI (recN st)) ik (nI n) (nI (min 2001 (exT t n).1.length)) fm bo bt)), ((q 0), aI G 86 y), ((q 2), aI G 344 (recP p z st)), ((q 4), aI G 60 t), ((q 5), aI G 62 s8), ((q 6), aI G 62 i8), ((q 7), aI G 62 t8), ((q 8), aI G 62 (upd b (d + 1) (nI (i + 1)))), ((q 9), aI G 62 l)]) rfl dX5_perform_99 rfl ?_
                refine u_aload_n h dX5_perform_100 rfl 5 rfl rfl ?_
                refine u_get h flX5_perform_37 0 (v := .ref (q 9)) rfl rfl dX5_perform_101 rfl ?_
                refine u_iload_n h dX5_perform_104 rfl 0 rfl rfl ?_
                refine u_iload_n h dX5_perform_105 rfl 3 rfl rfl ?_
                refine u_iconst (v := 1) h dX5_perform_106 (by decide) rfl ?_
                refine u_isub (v := (nI (m - 1))) h dX5_perform_107 (pk_sub (a := m) (b := 1) (by omega)) rfl ?_
                refine u_iast h (n := (d + 1)) (v := (nI (m - 1))) 8 rfl (by omega) (by omega) rfl (ws' := [(h0, .inr (5, mO q (nI (recN st)) ik (nI n) (nI (min 2001 (exT t n).1.length)) fm bo bt)), ((q 0), aI G 86 y), ((q 2), aI G 344 (recP p z st)), ((q 4), aI G 60 t), ((q 5), aI G 62 s8), ((q 6), aI G 62 i8), ((q 7), aI G 62 t8), ((q 8), aI G 62 (upd b (d + 1) (nI (i + 1)))), ((q 9), aI G 62 (upd l (d + 1) (nI (m - 1))))]) rfl dX5_perform_108 rfl ?_
                refine u_iconst (v := 1) h dX5_perform_109 (by decide) rfl ?_
                refine u_istore_n (lv' := [(3, .int 1), (2, .int (nI (d + 1))), (4, .int (nI (i + 1))), (5, .int (t i)), (1, .int (-5)), (0, .ref h0)]) h dX5_perform_110 rfl (by rw [hL]; decide) rfl rfl ?_
                refine u_goto (tgt := 199) h dX5_perform_111 (by decide) ?_
                refine u_goto (tgt := 40) h dX5_perform_199 (by decide) ?_
                refine u_lv (lv' := [(4, .int (nI (i + 1))), (3, .int 1), (2, .int (nI (d + 1))), (1, .int (-5)), (0, .ref h0)]) [2, 0, 1, 4, 5] rfl ?_
                exact ihA _ (by omega) (K - 1) (i + 1) (d + 1) 1 (upd b (d + 1) (nI (i + 1))) (upd l (d + 1) (nI (m - 1))) y rfl hrun2 hG2
            · refine u_iload h dX5_perform_73 1 rfl rfl ?_
              refine u_bipush (v := 48) h dX5_perform_75 (by decide) rfl ?_
              refine u_isub (v := ((t i) - 48)) h dX5_perform_77 rfl rfl ?_
              have isd : isDg (t i) = true := c4
              obtain ⟨dd, d2, d9, -, ed⟩ := dg_nat isd
              refine u_top (y := nI dd) ed ?_
              rw [ms_dg (show i < n by omega) isd, ed, ix_nI (show dd < 2 ^ 31 by omega)] at hrun2 hG2
              refine u_istore_n (lv' := [(3, .int (nI dd)), (4, .int (nI (i + 1))), (5, .int (t i)), (2, .int (nI d)), (1, .int (-5)), (0, .ref h0)]) h dX5_perform_78 rfl (by rw [hL]; decide) rfl rfl ?_
              refine u_goto (tgt := 199) h dX5_perform_79 (by decide) ?_
              refine u_goto (tgt := 40) h dX5_perform_199 (by decide) ?_
              refine u_lv (lv' := [(4, .int (nI (i + 1))), (3, .int (nI dd)), (2, .int (nI d)), (1, .int (-5)), (0, .ref h0)]) [1, 0, 3, 4, 5] rfl ?_
              exact ihA _ (by omega) (K - 1) (i + 1) d dd b l y rfl hrun2 hG2
      exact LA _ M 0 0 1 bb ll z rfl hM hG0
    · refine u_bipush (v := (-3)) h dX5_perform_26 (by decide) rfl ?_
      exact u_iret h hRT dX5_perform_28 (by omega) (by omega) (by have h2 : 2000 < (exT t n).1.length := (by omega); refine ⟨by simp only [perfA, if_pos hfa, if_pos h2], s8, i8, t8, bb, ll, (nI (min 2001 (exT t n).1.length)), ?_⟩; simp [nxN, nxZ, nxP, okP, hfa, h2])
  · refine u_bipush (v := (-100)) h dX5_perform_11 (by decide) rfl ?_
    refine u_iload_n h dX5_perform_13 rfl 0 rfl rfl ?_
    refine u_isub (v := ((-100) - (fauA t n))) h dX5_perform_14 rfl rfl ?_
    exact u_iret h hRT dX5_perform_15 (by omega) (by omega) (by have nf : ¬ fauA t n = -5 := c1; refine ⟨by simp only [perfA, if_neg nf], s8, i8, t8, bb, ll, s9, ?_⟩; simp [nxN, nxZ, nxP, okP, nf])

theorem fwX5_init_7 : FW wsX5_init RX5 7 5 0 true (.array .int) := ⟨RX5, TX5, 18, tyX5, rfl, by decide, by decide +kernel, by decide +kernel, tyX5_ok, nmX5, rfl, by decide +kernel, rfl⟩
theorem fwX5_init_13 : FW wsX5_init RX5 13 5 1 true (.array .int) := ⟨RX5, TX5, 18, tyX5, rfl, by decide, by decide +kernel, by decide +kernel, tyX5_ok, nmX5, rfl, by decide +kernel, rfl⟩
theorem fwX5_init_16 : FW wsX5_init RX5 16 5 2 true (.array .int) := ⟨RX5, TX5, 18, tyX5, rfl, by decide, by decide +kernel, by decide +kernel, tyX5_ok, nmX5, rfl, by decide +kernel, rfl⟩
theorem fwX5_init_19 : FW wsX5_init RX5 19 5 4 true (.array .int) := ⟨RX5, TX5, 18, tyX5, rfl, by decide, by decide +kernel, by decide +kernel, tyX5_ok, nmX5, rfl, by decide +kernel, rfl⟩
theorem fwX5_init_22 : FW wsX5_init RX5 22 5 6 true (.array .int) := ⟨RX5, TX5, 18, tyX5, rfl, by decide, by decide +kernel, by decide +kernel, tyX5_ok, nmX5, rfl, by decide +kernel, rfl⟩
theorem fwX5_init_25 : FW wsX5_init RX5 25 5 8 true (.array .int) := ⟨RX5, TX5, 18, tyX5, rfl, by decide, by decide +kernel, by decide +kernel, tyX5_ok, nmX5, rfl, by decide +kernel, rfl⟩
theorem fwX5_init_28 : FW wsX5_init RX5 28 5 9 true (.array .int) := ⟨RX5, TX5, 18, tyX5, rfl, by decide, by decide +kernel, by decide +kernel, tyX5_ok, nmX5, rfl, by decide +kernel, rfl⟩
theorem fwX5_init_31 : FW wsX5_init RX5 31 5 10 true (.array .int) := ⟨RX5, TX5, 18, tyX5, rfl, by decide, by decide +kernel, by decide +kernel, tyX5_ok, nmX5, rfl, by decide +kernel, rfl⟩
theorem fwX5_init_34 : FW wsX5_init RX5 34 5 11 true (.array .int) := ⟨RX5, TX5, 18, tyX5, rfl, by decide, by decide +kernel, by decide +kernel, tyX5_ok, nmX5, rfl, by decide +kernel, rfl⟩
theorem fwX5_init_37 : FW wsX5_init RX5 37 5 12 true (.array .int) := ⟨RX5, TX5, 18, tyX5, rfl, by decide, by decide +kernel, by decide +kernel, tyX5_ok, nmX5, rfl, by decide +kernel, rfl⟩
theorem fwX5_init_40 : FW wsX5_init RX5 40 5 14 true (.array .int) := ⟨RX5, TX5, 18, tyX5, rfl, by decide, by decide +kernel, by decide +kernel, tyX5_ok, nmX5, rfl, by decide +kernel, rfl⟩
theorem flX5_init_7 : FL wsX5_init RX5 7 5 0 := ⟨RX5, TX5, 18, rfl, by decide, by decide +kernel, by decide +kernel⟩
set_option maxRecDepth 20000 in
theorem cwX5_init_X5_clearLock : CWd wsX5_init (wsV RX5 43 RX5 yX5_clearLock wsX5_clearLock) yX5_clearLock wsX5_clearLock cX5_clearLock 3 none 1 := ⟨gX5_init_X5_clearLock, ⟨_, rfl⟩, by decide +kernel, by decide, by decide⟩
set_option maxHeartbeats 8000000 in
set_option maxRecDepth 100000 in
theorem kX5_init (G : Gx) (h0 : Nat) : MC G yX5_init wsX5_init ({ frames := 1, cells := 11, slots := 17472, locals := 24 } : Room) [.ref h0] [(h0, .inr (5, [.null, .null, .null, .int 0, .null, .int 0, .null, .int 0, .null, .null, .null, .null, .null, .int 0, .null, .int 0, .int 0, .int 0]))] (fun v' u' => v' = none ∧ ∃ q : Nat → Nat, u' = [(h0, .inr (5, mO q 0 0 0 0 0 0 0)), ((q 0), aI G 86 zI), ((q 1), aI G 86 (fun _ => 0)), ((q 2), aI G 344 (fun _ => 0)), ((q 3), aI G 86 (fun _ => 0)), ((q 4), aI G 60 (fun _ => 0)), ((q 5), aI G 62 (fun _ => 0)), ((q 6), aI G 62 (fun _ => 0)), ((q 7), aI G 62 (fun _ => 0)), ((q 8), aI G 62 (fun _ => 0)), ((q 9), aI G 62 (fun _ => 0)), ((q 10), aI G 16500 (fun _ => 0))]) 11 17472 := by
  refine mc_of (cc := cX5_init) (maxL := 1) (ret := none) (by decide) rfl (Nat.le_of_ble_eq_true rfl) (fun X h hR hL hRT => ?_)
  refine u_eql (lv' := [(0, .ref h0)]) rfl ?_
  refine u_aload_n h dX5_init_0 rfl 0 rfl rfl ?_
  refine u_obj h (by decide +kernel) (by decide +kernel) (by decide +kernel) dX5_init_1 (by rw [hR]; decide) (by rw [hR]; decide) rfl ?_
  refine u_aload_n h dX5_init_4 rfl 0 rfl rfl ?_
  refine u_bipush (v := 86) h dX5_init_5 (by decide) rfl ?_
  refine u_newI (N := 86) h (by decide +kernel) (by decide) hR (Nat.le_of_ble_eq_true rfl) (Nat.le_of_ble_eq_true rfl) dX5_init_7 rfl (fun q1 => ?_)
  refine u_eqw (ws' := [(h0, .inr (5, [.null, .null, .null, .int 0, .null, .int 0, .null, .int 0, .null, .null, .null, .null, .null, .int 0, .null, .int 0, .int 0, .int 0])), (q1, aI G 86 (fun _ => 0))]) rfl ?_
  refine u_putF h hRT rfl fwX5_init_7 (ws' := [(h0, .inr (5, [.ref q1, .null, .null, .int 0, .null, .int 0, .null, .int 0, .null, .null, .null, .null, .null, .int 0, .null, .int 0, .int 0, .int 0])), (q1, aI G 86 (fun _ => 0))]) 0 rfl (Nat.le_of_ble_eq_true rfl) rfl rfl rfl dX5_init_9 rfl ?_
  refine u_aload_n h dX5_init_12 rfl 0 rfl rfl ?_
  refine u_bipush (v := 86) h dX5_init_13 (by decide) rfl ?_
  refine u_newI (N := 86) h (by decide +kernel) (by decide) hR (Nat.le_of_ble_eq_true rfl) (Nat.le_of_ble_eq_true rfl) dX5_init_15 rfl (fun q2 => ?_)
  refine u_eqw (ws' := [(h0, .inr (5, [.ref q1, .null, .null, .int 0, .null, .int 0, .null, .int 0, .null, .null, .null, .null, .null, .int 0, .null, .int 0, .int 0, .int 0])), (q1, aI G 86 (fun _ => 0)), (q2, aI G 86 (fun _ => 0))]) rfl ?_
  refine u_putF h hRT rfl fwX5_init_13 (ws' := [(h0, .inr (5, [.ref q1, .ref q2, .null, .int 0, .null, .int 0, .null, .int 0, .null, .null, .null, .null, .null, .int 0, .null, .int 0, .int 0, .int 0])), (q1, aI G 86 (fun _ => 0)), (q2, aI G 86 (fun _ => 0))]) 0 rfl (Nat.le_of_ble_eq_true rfl) rfl rfl rfl dX5_init_17 rfl ?_
  refine u_aload_n h dX5_init_20 rfl 0 rfl rfl ?_
  refine u_sipush (v := 344) h dX5_init_21 (by decide) rfl ?_
  refine u_newI (N := 344) h (by decide +kernel) (by decide) hR (Nat.le_of_ble_eq_true rfl) (Nat.le_of_ble_eq_true rfl) dX5_init_24 rfl (fun q3 => ?_)
  refine u_eqw (ws' := [(h0, .inr (5, [.ref q1, .ref q2, .null, .int 0, .null, .int 0, .null, .int 0, .null, .null, .null, .null, .null, .int 0, .null, .int 0, .int 0, .int 0])), (q1, aI G 86 (fun _ => 0)), (q2, aI G 86 (fun _ => 0)), (q3, aI G 344 (fun _ => 0))]) rfl ?_
  refine u_putF h hRT rfl fwX5_init_16 (ws' := [(h0, .inr (5, [.ref q1, .ref q2, .ref q3, .int 0, .null, .int 0, .null, .int 0, .null, .null, .null, .null, .null, .int 0, .null, .int 0, .int 0, .int 0])), (q1, aI G 86 (fun _ => 0)), (q2, aI G 86 (fun _ => 0)), (q3, aI G 344 (fun _ => 0))]) 0 rfl (Nat.le_of_ble_eq_true rfl) rfl rfl rfl dX5_init_26 rfl ?_
  refine u_aload_n h dX5_init_29 rfl 0 rfl rfl ?_
  refine u_bipush (v := 86) h dX5_init_30 (by decide) rfl ?_
  refine u_newI (N := 86) h (by decide +kernel) (by decide) hR (Nat.le_of_ble_eq_true rfl) (Nat.le_of_ble_eq_true rfl) dX5_init_32 rfl (fun q4 => ?_)
  refine u_eqw (ws' := [(h0, .inr (5, [.ref q1, .ref q2, .ref q3, .int 0, .null, .int 0, .null, .int 0, .null, .null, .null, .null, .null, .int 0, .null, .int 0, .int 0, .int 0])), (q1, aI G 86 (fun _ => 0)), (q2, aI G 86 (fun _ => 0)), (q3, aI G 344 (fun _ => 0)), (q4, aI G 86 (fun _ => 0))]) rfl ?_
  refine u_putF h hRT rfl fwX5_init_19 (ws' := [(h0, .inr (5, [.ref q1, .ref q2, .ref q3, .int 0, .ref q4, .int 0, .null, .int 0, .null, .null, .null, .null, .null, .int 0, .null, .int 0, .int 0, .int 0])), (q1, aI G 86 (fun _ => 0)), (q2, aI G 86 (fun _ => 0)), (q3, aI G 344 (fun _ => 0)), (q4, aI G 86 (fun _ => 0))]) 0 rfl (Nat.le_of_ble_eq_true rfl) rfl rfl rfl dX5_init_34 rfl ?_
  refine u_aload_n h dX5_init_37 rfl 0 rfl rfl ?_
  refine u_bipush (v := 60) h dX5_init_38 (by decide) rfl ?_
  refine u_newI (N := 60) h (by decide +kernel) (by decide) hR (Nat.le_of_ble_eq_true rfl) (Nat.le_of_ble_eq_true rfl) dX5_init_40 rfl (fun q5 => ?_)
  refine u_eqw (ws' := [(h0, .inr (5, [.ref q1, .ref q2, .ref q3, .int 0, .ref q4, .int 0, .null, .int 0, .null, .null, .null, .null, .null, .int 0, .null, .int 0, .int 0, .int 0])), (q1, aI G 86 (fun _ => 0)), (q2, aI G 86 (fun _ => 0)), (q3, aI G 344 (fun _ => 0)), (q4, aI G 86 (fun _ => 0)), (q5, aI G 60 (fun _ => 0))]) rfl ?_
  refine u_putF h hRT rfl fwX5_init_22 (ws' := [(h0, .inr (5, [.ref q1, .ref q2, .ref q3, .int 0, .ref q4, .int 0, .ref q5, .int 0, .null, .null, .null, .null, .null, .int 0, .null, .int 0, .int 0, .int 0])), (q1, aI G 86 (fun _ => 0)), (q2, aI G 86 (fun _ => 0)), (q3, aI G 344 (fun _ => 0)), (q4, aI G 86 (fun _ => 0)), (q5, aI G 60 (fun _ => 0))]) 0 rfl (Nat.le_of_ble_eq_true rfl) rfl rfl rfl dX5_init_42 rfl ?_
  refine u_aload_n h dX5_init_45 rfl 0 rfl rfl ?_
  refine u_bipush (v := 62) h dX5_init_46 (by decide) rfl ?_
  refine u_newI (N := 62) h (by decide +kernel) (by decide) hR (Nat.le_of_ble_eq_true rfl) (Nat.le_of_ble_eq_true rfl) dX5_init_48 rfl (fun q6 => ?_)
  refine u_eqw (ws' := [(h0, .inr (5, [.ref q1, .ref q2, .ref q3, .int 0, .ref q4, .int 0, .ref q5, .int 0, .null, .null, .null, .null, .null, .int 0, .null, .int 0, .int 0, .int 0])), (q1, aI G 86 (fun _ => 0)), (q2, aI G 86 (fun _ => 0)), (q3, aI G 344 (fun _ => 0)), (q4, aI G 86 (fun _ => 0)), (q5, aI G 60 (fun _ => 0)), (q6, aI G 62 (fun _ => 0))]) rfl ?_
  refine u_putF h hRT rfl fwX5_init_25 (ws' := [(h0, .inr (5, [.ref q1, .ref q2, .ref q3, .int 0, .ref q4, .int 0, .ref q5, .int 0, .ref q6, .null, .null, .null, .null, .int 0, .null, .int 0, .int 0, .int 0])), (q1, aI G 86 (fun _ => 0)), (q2, aI G 86 (fun _ => 0)), (q3, aI G 344 (fun _ => 0)), (q4, aI G 86 (fun _ => 0)), (q5, aI G 60 (fun _ => 0)), (q6, aI G 62 (fun _ => 0))]) 0 rfl (Nat.le_of_ble_eq_true rfl) rfl rfl rfl dX5_init_50 rfl ?_
  refine u_aload_n h dX5_init_53 rfl 0 rfl rfl ?_
  refine u_bipush (v := 62) h dX5_init_54 (by decide) rfl ?_
  refine u_newI (N := 62) h (by decide +kernel) (by decide) hR (Nat.le_of_ble_eq_true rfl) (Nat.le_of_ble_eq_true rfl) dX5_init_56 rfl (fun q7 => ?_)
  refine u_eqw (ws' := [(h0, .inr (5, [.ref q1, .ref q2, .ref q3, .int 0, .ref q4, .int 0, .ref q5, .int 0, .ref q6, .null, .null, .null, .null, .int 0, .null, .int 0, .int 0, .int 0])), (q1, aI G 86 (fun _ => 0)), (q2, aI G 86 (fun _ => 0)), (q3, aI G 344 (fun _ => 0)), (q4, aI G 86 (fun _ => 0)), (q5, aI G 60 (fun _ => 0)), (q6, aI G 62 (fun _ => 0)), (q7, aI G 62 (fun _ => 0))]) rfl ?_
  refine u_putF h hRT rfl fwX5_init_28 (ws' := [(h0, .inr (5, [.ref q1, .ref q2, .ref q3, .int 0, .ref q4, .int 0, .ref q5, .int 0, .ref q6, .ref q7, .null, .null, .null, .int 0, .null, .int 0, .int 0, .int 0])), (q1, aI G 86 (fun _ => 0)), (q2, aI G 86 (fun _ => 0)), (q3, aI G 344 (fun _ => 0)), (q4, aI G 86 (fun _ => 0)), (q5, aI G 60 (fun _ => 0)), (q6, aI G 62 (fun _ => 0)), (q7, aI G 62 (fun _ => 0))]) 0 rfl (Nat.le_of_ble_eq_true rfl) rfl rfl rfl dX5_init_58 rfl ?_
  refine u_aload_n h dX5_init_61 rfl 0 rfl rfl ?_
  refine u_bipush (v := 62) h dX5_init_62 (by decide) rfl ?_
  refine u_newI (N := 62) h (by decide +kernel) (by decide) hR (Nat.le_of_ble_eq_true rfl) (Nat.le_of_ble_eq_true rfl) dX5_init_64 rfl (fun q8 => ?_)
  refine u_eqw (ws' := [(h0, .inr (5, [.ref q1, .ref q2, .ref q3, .int 0, .ref q4, .int 0, .ref q5, .int 0, .ref q6, .ref q7, .null, .null, .null, .int 0, .null, .int 0, .int 0, .int 0])), (q1, aI G 86 (fun _ => 0)), (q2, aI G 86 (fun _ => 0)), (q3, aI G 344 (fun _ => 0)), (q4, aI G 86 (fun _ => 0)), (q5, aI G 60 (fun _ => 0)), (q6, aI G 62 (fun _ => 0)), (q7, aI G 62 (fun _ => 0)), (q8, aI G 62 (fun _ => 0))]) rfl ?_
  refine u_putF h hRT rfl fwX5_init_31 (ws' := [(h0, .inr (5, [.ref q1, .ref q2, .ref q3, .int 0, .ref q4, .int 0, .ref q5, .int 0, .ref q6, .ref q7, .ref q8, .null, .null, .int 0, .null, .int 0, .int 0, .int 0])), (q1, aI G 86 (fun _ => 0)), (q2, aI G 86 (fun _ => 0)), (q3, aI G 344 (fun _ => 0)), (q4, aI G 86 (fun _ => 0)), (q5, aI G 60 (fun _ => 0)), (q6, aI G 62 (fun _ => 0)), (q7, aI G 62 (fun _ => 0)), (q8, aI G 62 (fun _ => 0))]) 0 rfl (Nat.le_of_ble_eq_true rfl) rfl rfl rfl dX5_init_66 rfl ?_
  refine u_aload_n h dX5_init_69 rfl 0 rfl rfl ?_
  refine u_bipush (v := 62) h dX5_init_70 (by decide) rfl ?_
  refine u_newI (N := 62) h (by decide +kernel) (by decide) hR (Nat.le_of_ble_eq_true rfl) (Nat.le_of_ble_eq_true rfl) dX5_init_72 rfl (fun q9 => ?_)
  refine u_eqw (ws' := [(h0, .inr (5, [.ref q1, .ref q2, .ref q3, .int 0, .ref q4, .int 0, .ref q5, .int 0, .ref q6, .ref q7, .ref q8, .null, .null, .int 0, .null, .int 0, .int 0, .int 0])), (q1, aI G 86 (fun _ => 0)), (q2, aI G 86 (fun _ => 0)), (q3, aI G 344 (fun _ => 0)), (q4, aI G 86 (fun _ => 0)), (q5, aI G 60 (fun _ => 0)), (q6, aI G 62 (fun _ => 0)), (q7, aI G 62 (fun _ => 0)), (q8, aI G 62 (fun _ => 0)), (q9, aI G 62 (fun _ => 0))]) rfl ?_
  refine u_putF h hRT rfl fwX5_init_34 (ws' := [(h0, .inr (5, [.ref q1, .ref q2, .ref q3, .int 0, .ref q4, .int 0, .ref q5, .int 0, .ref q6, .ref q7, .ref q8, .ref q9, .null, .int 0, .null, .int 0, .int 0, .int 0])), (q1, aI G 86 (fun _ => 0)), (q2, aI G 86 (fun _ => 0)), (q3, aI G 344 (fun _ => 0)), (q4, aI G 86 (fun _ => 0)), (q5, aI G 60 (fun _ => 0)), (q6, aI G 62 (fun _ => 0)), (q7, aI G 62 (fun _ => 0)), (q8, aI G 62 (fun _ => 0)), (q9, aI G 62 (fun _ => 0))]) 0 rfl (Nat.le_of_ble_eq_true rfl) rfl rfl rfl dX5_init_74 rfl ?_
  refine u_aload_n h dX5_init_77 rfl 0 rfl rfl ?_
  refine u_bipush (v := 62) h dX5_init_78 (by decide) rfl ?_
  refine u_newI (N := 62) h (by decide +kernel) (by decide) hR (Nat.le_of_ble_eq_true rfl) (Nat.le_of_ble_eq_true rfl) dX5_init_80 rfl (fun q10 => ?_)
  refine u_eqw (ws' := [(h0, .inr (5, [.ref q1, .ref q2, .ref q3, .int 0, .ref q4, .int 0, .ref q5, .int 0, .ref q6, .ref q7, .ref q8, .ref q9, .null, .int 0, .null, .int 0, .int 0, .int 0])), (q1, aI G 86 (fun _ => 0)), (q2, aI G 86 (fun _ => 0)), (q3, aI G 344 (fun _ => 0)), (q4, aI G 86 (fun _ => 0)), (q5, aI G 60 (fun _ => 0)), (q6, aI G 62 (fun _ => 0)), (q7, aI G 62 (fun _ => 0)), (q8, aI G 62 (fun _ => 0)), (q9, aI G 62 (fun _ => 0)), (q10, aI G 62 (fun _ => 0))]) rfl ?_
  refine u_putF h hRT rfl fwX5_init_37 (ws' := [(h0, .inr (5, [.ref q1, .ref q2, .ref q3, .int 0, .ref q4, .int 0, .ref q5, .int 0, .ref q6, .ref q7, .ref q8, .ref q9, .ref q10, .int 0, .null, .int 0, .int 0, .int 0])), (q1, aI G 86 (fun _ => 0)), (q2, aI G 86 (fun _ => 0)), (q3, aI G 344 (fun _ => 0)), (q4, aI G 86 (fun _ => 0)), (q5, aI G 60 (fun _ => 0)), (q6, aI G 62 (fun _ => 0)), (q7, aI G 62 (fun _ => 0)), (q8, aI G 62 (fun _ => 0)), (q9, aI G 62 (fun _ => 0)), (q10, aI G 62 (fun _ => 0))]) 0 rfl (Nat.le_of_ble_eq_true rfl) rfl rfl rfl dX5_init_82 rfl ?_
  refine u_aload_n h dX5_init_85 rfl 0 rfl rfl ?_
  refine u_sipush (v := 16500) h dX5_init_86 (by decide) rfl ?_
  refine u_newI (N := 16500) h (by decide +kernel) (by decide) hR (Nat.le_of_ble_eq_true rfl) (Nat.le_of_ble_eq_true rfl) dX5_init_89 rfl (fun q11 => ?_)
  refine u_eqw (ws' := [(h0, .inr (5, [.ref q1, .ref q2, .ref q3, .int 0, .ref q4, .int 0, .ref q5, .int 0, .ref q6, .ref q7, .ref q8, .ref q9, .ref q10, .int 0, .null, .int 0, .int 0, .int 0])), (q1, aI G 86 (fun _ => 0)), (q2, aI G 86 (fun _ => 0)), (q3, aI G 344 (fun _ => 0)), (q4, aI G 86 (fun _ => 0)), (q5, aI G 60 (fun _ => 0)), (q6, aI G 62 (fun _ => 0)), (q7, aI G 62 (fun _ => 0)), (q8, aI G 62 (fun _ => 0)), (q9, aI G 62 (fun _ => 0)), (q10, aI G 62 (fun _ => 0)), (q11, aI G 16500 (fun _ => 0))]) rfl ?_
  refine u_putF h hRT rfl fwX5_init_40 (ws' := [(h0, .inr (5, [.ref q1, .ref q2, .ref q3, .int 0, .ref q4, .int 0, .ref q5, .int 0, .ref q6, .ref q7, .ref q8, .ref q9, .ref q10, .int 0, .ref q11, .int 0, .int 0, .int 0])), (q1, aI G 86 (fun _ => 0)), (q2, aI G 86 (fun _ => 0)), (q3, aI G 344 (fun _ => 0)), (q4, aI G 86 (fun _ => 0)), (q5, aI G 60 (fun _ => 0)), (q6, aI G 62 (fun _ => 0)), (q7, aI G 62 (fun _ => 0)), (q8, aI G 62 (fun _ => 0)), (q9, aI G 62 (fun _ => 0)), (q10, aI G 62 (fun _ => 0)), (q11, aI G 16500 (fun _ => 0))]) 0 rfl (Nat.le_of_ble_eq_true rfl) rfl rfl rfl dX5_init_91 rfl ?_
  refine u_aload_n h dX5_init_94 rfl 0 rfl rfl ?_
  refine u_get h flX5_init_7 0 (v := .ref q1) rfl rfl dX5_init_95 rfl ?_
  refine u_bipush (v := 61) h dX5_init_98 (by decide) rfl ?_
  refine u_iconst (v := 1) h dX5_init_100 (by decide) rfl ?_
  refine u_iast h (n := 61) (v := 1) 1 rfl (by omega) (by omega) rfl (ws' := [(h0, .inr (5, [.ref q1, .ref q2, .ref q3, .int 0, .ref q4, .int 0, .ref q5, .int 0, .ref q6, .ref q7, .ref q8, .ref q9, .ref q10, .int 0, .ref q11, .int 0, .int 0, .int 0])), (q1, aI G 86 (upd (fun _ => 0) 61 1)), (q2, aI G 86 (fun _ => 0)), (q3, aI G 344 (fun _ => 0)), (q4, aI G 86 (fun _ => 0)), (q5, aI G 60 (fun _ => 0)), (q6, aI G 62 (fun _ => 0)), (q7, aI G 62 (fun _ => 0)), (q8, aI G 62 (fun _ => 0)), (q9, aI G 62 (fun _ => 0)), (q10, aI G 62 (fun _ => 0)), (q11, aI G 16500 (fun _ => 0))]) rfl dX5_init_101 rfl ?_
  refine u_aload_n h dX5_init_102 rfl 0 rfl rfl ?_
  refine u_iconst (v := 0) h dX5_init_103 (by decide) rfl ?_
  refine u_callV h (As := [.int 0]) (wc := [(h0, .inr (5, [.ref q1, .ref q2, .ref q3, .int 0, .ref q4, .int 0, .ref q5, .int 0, .ref q6, .ref q7, .ref q8, .ref q9, .ref q10, .int 0, .ref q11, .int 0, .int 0, .int 0])), (q1, aI G 86 (upd (fun _ => 0) 61 1))]) (wr := [(q2, aI G 86 (fun _ => 0)), (q3, aI G 344 (fun _ => 0)), (q4, aI G 86 (fun _ => 0)), (q5, aI G 60 (fun _ => 0)), (q6, aI G 62 (fun _ => 0)), (q7, aI G 62 (fun _ => 0)), (q8, aI G 62 (fun _ => 0)), (q9, aI G 62 (fun _ => 0)), (q10, aI G 62 (fun _ => 0)), (q11, aI G 16500 (fun _ => 0))]) (kX5_clearLock G h0 q1 [.ref q1, .ref q2, .ref q3, .int 0, .ref q4, .int 0, .ref q5, .int 0, .ref q6, .ref q7, .ref q8, .ref q9, .ref q10, .int 0, .ref q11, .int 0, .int 0, .int 0] rfl (upd (fun _ => 0) 61 1) 0) cwX5_init_X5_clearLock rfl rfl hR ⟨⟨rfl, rfl⟩, by decide, by decide⟩ ⟨Nat.le_of_ble_eq_true rfl, Nat.le_of_ble_eq_true rfl⟩ (ci := 5) (qr := 0) rfl rfl [0, 1] [2, 3, 4, 5, 6, 7, 8, 9, 10, 11] rfl rfl rfl rfl (by decide) (Nat.le_of_ble_eq_true rfl) rfl dX5_init_104 rfl (fun v9 u9 hp9 => ?_)
  obtain ⟨rfl, rfl⟩ := hp9
  refine u_wp (ws' := [(h0, .inr (5, [.ref q1, .ref q2, .ref q3, .int 0, .ref q4, .int 0, .ref q5, .int 0, .ref q6, .ref q7, .ref q8, .ref q9, .ref q10, .int 0, .ref q11, .int 0, .int 0, .int 0])), (q1, aI G 86 zI), (q2, aI G 86 (fun _ => 0)), (q3, aI G 344 (fun _ => 0)), (q4, aI G 86 (fun _ => 0)), (q5, aI G 60 (fun _ => 0)), (q6, aI G 62 (fun _ => 0)), (q7, aI G 62 (fun _ => 0)), (q8, aI G 62 (fun _ => 0)), (q9, aI G 62 (fun _ => 0)), (q10, aI G 62 (fun _ => 0)), (q11, aI G 16500 (fun _ => 0))]) [10, 11, 0, 1, 2, 3, 4, 5, 6, 7, 8, 9] rfl rfl ?_
  refine u_eqs (st' := []) rfl ?_
  exact u_vret h hRT dX5_init_107 (by omega) (by omega) (by exact ⟨rfl, (fun k => [q1, q2, q3, q4, q5, q6, q7, q8, q9, q10, q11].getD k 0), rfl⟩)
