theorem fwX2_expand_22 : FW wsX2_expand RX2 22 2 3 false .int := ⟨RX2, TX2, 5, tyX2, rfl, by decide, by decide +kernel, by decide +kernel, tyX2_ok, nmX2, rfl, by decide +kernel, rfl⟩
theorem fwX2_expand_26 : FW wsX2_expand RX2 26 2 4 false .int := ⟨RX2, TX2, 5, tyX2, rfl, by decide, by decide +kernel, by decide +kernel, tyX2_ok, nmX2, rfl, by decide +kernel, rfl⟩
theorem flX2_expand_22 : FL wsX2_expand RX2 22 2 3 := ⟨RX2, TX2, 5, rfl, by decide, by decide +kernel, by decide +kernel⟩
set_option maxRecDepth 20000 in
theorem cwX2_expand_X2_isDigit : CWd wsX2_expand (wsS RX2 33 yX2_isDigit wsX2_isDigit) yX2_isDigit wsX2_isDigit cX2_isDigit 1 (some .boolean) 1 := ⟨gX2_expand_X2_isDigit, ⟨_, rfl⟩, by decide +kernel, by decide, by decide⟩
set_option maxRecDepth 20000 in
theorem cwX2_expand_X2_append : CWd wsX2_expand (wsV RX2 44 RX2 yX2_append wsX2_append) yX2_append wsX2_append cX2_append 2 (some .boolean) 1 := ⟨gX2_expand_X2_append, ⟨_, rfl⟩, by decide +kernel, by decide, by decide⟩
set_option maxRecDepth 20000 in
theorem cwX2_expand_X2_repeat : CWd wsX2_expand (wsV RX2 47 RX2 yX2_repeat wsX2_repeat) yX2_repeat wsX2_repeat cX2_repeat 5 (some .boolean) 2 := ⟨gX2_expand_X2_repeat, ⟨_, rfl⟩, by decide +kernel, by decide, by decide⟩
set_option maxRecDepth 20000 in
theorem cwX2_expand_X2_closeBracket : CWd wsX2_expand (wsV RX2 40 RX2 yX2_closeBracket wsX2_closeBracket) yX2_closeBracket wsX2_closeBracket cX2_closeBracket 1 (some .boolean) 0 := ⟨gX2_expand_X2_closeBracket, ⟨_, rfl⟩, by decide +kernel, by decide, by decide⟩
set_option maxRecDepth 20000 in
theorem cwX2_expand_X2_openBracket : CWd wsX2_expand (wsV RX2 36 RX2 yX2_openBracket wsX2_openBracket) yX2_openBracket wsX2_openBracket cX2_openBracket 2 none 1 := ⟨gX2_expand_X2_openBracket, ⟨_, rfl⟩, by decide +kernel, by decide, by decide⟩
set_option maxHeartbeats 8000000 in
set_option maxRecDepth 100000 in
theorem kX2_expand (G : Gx) (h0 qp qs qr : Nat) (tx n : Nat) (hn : n ≤ 60) (t f sa ra : Zf) (p0 d0 : Int32) (hO : OkP t n) : MC G yX2_expand wsX2_expand ({ frames := 3, cells := 0, slots := 0, locals := 74 } : Room) [.ref h0, .ref tx, .int (nI n)] [(h0, .inr (2, [.ref qp, .ref qs, .ref qr, .int p0, .int d0])), (qp, aB G 2000 f), (qs, aI G 60 sa), (qr, aI G 60 ra), (tx, aC G 60 t)] (fun v' u' => ∃ (f' sa' ra' : Zf) (pl dq : Int32), v' = some (.int (if 2000 < (exT t n).1.length then -3 else nI (exT t n).1.length)) ∧ (¬ 2000 < (exT t n).1.length → pl = nI (exT t n).1.length ∧ Pl f' (exT t n).1) ∧ u' = [(h0, .inr (2, [.ref qp, .ref qs, .ref qr, .int pl, .int dq])), (qp, aB G 2000 f'), (qs, aI G 60 sa'), (qr, aI G 60 ra'), (tx, aC G 60 t)]) 0 0 := by
  refine mc_of (cc := cX2_expand) (maxL := 7) (ret := (some .int)) (by decide) rfl (Nat.le_of_ble_eq_true rfl) (fun X h hR hL hRT => ?_)
  refine u_eql (lv' := [(0, .ref h0), (1, .ref tx), (2, .int (nI n))]) rfl ?_
  refine u_aload_n h dX2_expand_0 rfl 0 rfl rfl ?_
  refine u_iconst (v := 0) h dX2_expand_1 (by decide) rfl ?_
  refine u_put h fwX2_expand_22 (ws' := [(h0, .inr (2, [.ref qp, .ref qs, .ref qr, .int 0, .int d0])), (qp, aB G 2000 f), (qs, aI G 60 sa), (qr, aI G 60 ra), (tx, aC G 60 t)]) 0 rfl (Nat.le_of_ble_eq_true rfl) rfl rfl rfl dX2_expand_2 rfl ?_
  refine u_aload_n h dX2_expand_5 rfl 0 rfl rfl ?_
  refine u_iconst (v := 0) h dX2_expand_6 (by decide) rfl ?_
  refine u_put h fwX2_expand_26 (ws' := [(h0, .inr (2, [.ref qp, .ref qs, .ref qr, .int 0, .int 0])), (qp, aB G 2000 f), (qs, aI G 60 sa), (qr, aI G 60 ra), (tx, aC G 60 t)]) 0 rfl (Nat.le_of_ble_eq_true rfl) rfl rfl rfl dX2_expand_7 rfl ?_
  refine u_iconst (v := 1) h dX2_expand_10 (by decide) rfl ?_
  refine u_istore_n (lv' := [(3, .int 1), (0, .ref h0), (1, .ref tx), (2, .int (nI n))]) h dX2_expand_11 rfl (by rw [hL]; decide) rfl rfl ?_
  refine u_iconst (v := 0) h dX2_expand_12 (by decide) rfl ?_
  refine u_istore (lv' := [(4, .int 0), (3, .int 1), (0, .ref h0), (1, .ref tx), (2, .int (nI n))]) h dX2_expand_13 (by rw [hL]; decide) rfl rfl ?_
  refine u_eqw (ws' := [(h0, .inr (2, [.ref qp, .ref qs, .ref qr, .int (nI ((exT t 0).1.length)), .int (nI ((scT t 0).1))])), (qp, aB G 2000 f), (qs, aI G 60 sa), (qr, aI G 60 ra), (tx, aC G 60 t)]) rfl ?_
  refine u_eql (lv' := [(4, .int 0), (3, .int (nI (mT t 0))), (0, .ref h0), (1, .ref tx), (2, .int (nI n))]) rfl ?_
  have LL : ∀ (k9 : Nat) (i : Nat) (f : Zf) (sa : Zf) (ra : Zf), n - i = k9 → (i ≤ n) → (ExI t i f sa ra) → ((exT t i).1.length ≤ 2000) → U G X 0 0 [(h0, .inr (2, [.ref qp, .ref qs, .ref qr, .int (nI ((exT t i).1.length)), .int (nI ((scT t i).1))])), (qp, aB G 2000 f), (qs, aI G 60 sa), (qr, aI G 60 ra), (tx, aC G 60 t)] 15 [(4, .int (nI i)), (3, .int (nI (mT t i))), (0, .ref h0), (1, .ref tx), (2, .int (nI n))] [] := by
    intro k9
    induction k9 using Nat.strongRecOn with
    | _ k9 ihL =>
      intro i f sa ra hk9 hi hE hl
      subst hk9
      have hm9 := mT_le (hO.le hi)
      have hdi : (scT t i).1 ≤ i := hm9.2.2.1
      refine u_iload h dX2_expand_15 0 rfl rfl ?_
      refine u_iload_n h dX2_expand_17 rfl 4 rfl rfl ?_
      refine u_icmp_ge_N (a := i) (b := n) (tgt := 133) h dX2_expand_18 (by decide) (by omega) (by omega) rfl (fun c1 => ?_) (fun c1 => ?_)
      · refine u_aload_n h dX2_expand_133 rfl 2 rfl rfl ?_
        refine u_get h flX2_expand_22 0 (v := .int (nI ((exT t i).1.length))) rfl rfl dX2_expand_134 rfl ?_
        exact u_iret h hRT dX2_expand_137 (by omega) (by omega) (by have ei : i = n := (by omega); subst ei; exact ⟨f, sa, ra, _, _, by rw [if_neg (by omega)], fun _ => ⟨rfl, hE.1⟩, rfl⟩)
      · refine u_iload h dX2_expand_21 0 rfl rfl ?_
        refine u_aload_n h dX2_expand_23 rfl 3 rfl rfl ?_
        refine u_alenC (n := 0) h 4 rfl dX2_expand_24 rfl ?_
        refine u_icmp_ge_N (a := i) (b := 60) (tgt := 133) h dX2_expand_25 (by decide) (by omega) (by omega) rfl (fun c2 => ?_) (fun c2 => ?_)
        · omega
        · refine u_aload_n h dX2_expand_28 rfl 3 rfl rfl ?_
          refine u_iload h dX2_expand_29 0 rfl rfl ?_
          refine u_cald h (n := i) 4 rfl (by omega) (by omega) dX2_expand_31 rfl ?_
          refine u_istore (lv' := [(5, .int (t i)), (4, .int (nI i)), (3, .int (nI (mT t i))), (0, .ref h0), (1, .ref tx), (2, .int (nI n))]) h dX2_expand_32 (by rw [hL]; decide) rfl rfl ?_
          refine u_iconst (v := 1) h dX2_expand_34 (by decide) rfl ?_
          refine u_istore (lv' := [(6, .int 1), (5, .int (t i)), (4, .int (nI i)), (3, .int (nI (mT t i))), (0, .ref h0), (1, .ref tx), (2, .int (nI n))]) h dX2_expand_35 (by rw [hL]; decide) rfl rfl ?_
          refine u_iload h dX2_expand_37 1 rfl rfl ?_
          refine u_callS h (As := [.int (t i)]) (wc := []) (wr := [(h0, .inr (2, [.ref qp, .ref qs, .ref qr, .int (nI ((exT t i).1.length)), .int (nI ((scT t i).1))])), (qp, aB G 2000 f), (qs, aI G 60 sa), (qr, aI G 60 ra), (tx, aC G 60 t)]) (kX2_isDigit G (t i)) cwX2_expand_X2_isDigit rfl rfl hR ⟨⟨rfl, rfl⟩, by decide, by decide⟩ ⟨Nat.le_of_ble_eq_true rfl, Nat.le_of_ble_eq_true rfl⟩ [] [0, 1, 2, 3, 4] rfl rfl rfl rfl (by decide) (Nat.le_of_ble_eq_true rfl) rfl dX2_expand_39 rfl (fun v9 u9 hp9 => ?_)
          obtain ⟨rfl, rfl⟩ := hp9
          refine u_wp (ws' := [(h0, .inr (2, [.ref qp, .ref qs, .ref qr, .int (nI ((exT t i).1.length)), .int (nI ((scT t i).1))])), (qp, aB G 2000 f), (qs, aI G 60 sa), (qr, aI G 60 ra), (tx, aC G 60 t)]) [0, 1, 2, 3, 4] rfl rfl ?_
          refine u_eqs (st' := [.int (bI (isDg (t i)))]) rfl ?_
          refine u_if_eq_B (tgt := 54) h dX2_expand_42 (by decide) rfl (fun c3 => ?_) (fun c3 => ?_)
          · refine u_iload h dX2_expand_54 1 rfl rfl ?_
            refine u_bipush (v := 40) h dX2_expand_56 (by decide) rfl ?_
            refine u_icmp_ne (tgt := 71) h dX2_expand_58 (by decide) rfl (fun c4 => ?_) (fun c4 => ?_)
            · refine u_iload h dX2_expand_71 1 rfl rfl ?_
              refine u_bipush (v := 41) h dX2_expand_73 (by decide) rfl ?_
              refine u_icmp_ne (tgt := 87) h dX2_expand_75 (by decide) rfl (fun c5 => ?_) (fun c5 => ?_)
              · have hlt : isLt (t i) = true := by
                  rcases okc_cases (hO i (by omega)) with ⟨q9, -⟩ | ⟨-, q9⟩ | ⟨-, -, q9⟩ | ⟨-, -, -, q9, -⟩
                  · rw [c3] at q9; cases q9
                  · exact q9
                  · exact absurd q9 c4
                  · exact absurd q9 c5
                obtain ⟨v, hv, hc0, hc⟩ := lt_nat hlt
                have hlp : ((exT t i).1 ++ [v]).length = (exT t i).1.length + 1 := by rw [List.length_append]; rfl
                refine u_aload_n h dX2_expand_87 rfl 4 rfl rfl ?_
                refine u_iload h dX2_expand_88 1 rfl rfl ?_
                refine u_callV h (As := [.int (t i)]) (wc := [(h0, .inr (2, [.ref qp, .ref qs, .ref qr, .int (nI ((exT t i).1.length)), .int (nI ((scT t i).1))])), (qp, aB G 2000 f)]) (wr := [(qs, aI G 60 sa), (qr, aI G 60 ra), (tx, aC G 60 t)]) (kX2_append G h0 qp qs qr (nI ((scT t i).1)) ((exT t i).1.length) f (t i) v hv hlt hc hl) cwX2_expand_X2_append rfl rfl hR ⟨⟨rfl, rfl⟩, by decide, by decide⟩ ⟨Nat.le_of_ble_eq_true rfl, Nat.le_of_ble_eq_true rfl⟩ (ci := 2) (qr := 0) rfl rfl [0, 1] [2, 3, 4] rfl rfl rfl rfl (by decide) (Nat.le_of_ble_eq_true rfl) rfl dX2_expand_90 rfl (fun v9 u9 hp9 => ?_)
                obtain ⟨rfl, rfl⟩ := hp9
                refine u_wp (ws' := [(h0, .inr (2, [.ref qp, .ref qs, .ref qr, .int (nI (if ((exT t i).1.length) < 2000 then ((exT t i).1.length) + 1 else ((exT t i).1.length))), .int (nI ((scT t i).1))])), (qp, aB G 2000 (if ((exT t i).1.length) < 2000 then upd f ((exT t i).1.length) (nI v) else f)), (qs, aI G 60 sa), (qr, aI G 60 ra), (tx, aC G 60 t)]) [3, 4, 0, 1, 2] rfl rfl ?_
                refine u_eqs (st' := [.int (bI (decide (((exT t i).1.length) < 2000)))]) rfl ?_
                refine u_if_eq_B (tgt := 114) h dX2_expand_93 (by decide) rfl (fun c6 => ?_) (fun c6 => ?_)
                · refine u_iconst (v := 0) h dX2_expand_114 (by decide) rfl ?_
                  refine u_istore (lv' := [(6, .int 0), (5, .int (t i)), (4, .int (nI i)), (3, .int (nI (mT t i))), (0, .ref h0), (1, .ref tx), (2, .int (nI n))]) h dX2_expand_115 (by rw [hL]; decide) rfl rfl ?_
                  refine u_iconst (v := 1) h dX2_expand_117 (by decide) rfl ?_
                  refine u_istore_n (lv' := [(3, .int 1), (6, .int 0), (5, .int (t i)), (4, .int (nI i)), (0, .ref h0), (1, .ref tx), (2, .int (nI n))]) h dX2_expand_118 rfl (by rw [hL]; decide) rfl rfl ?_
                  refine u_iload h dX2_expand_119 1 rfl rfl ?_
                  refine u_if_ne_N (a := 0) (tgt := 127) h dX2_expand_121 (by decide) (by omega) rfl (fun c7 => ?_) (fun c7 => ?_)
                  · exact absurd c7 (by decide)
                  · refine u_bipush (v := (-3)) h dX2_expand_124 (by decide) rfl ?_
                    exact u_iret h hRT dX2_expand_126 (by omega) (by omega) (by have eL := len_lt c3 hlt; have hC := of_decide_eq_false c6; have hm1 := hm9.1; have hmo := ex_mono2 (t := t) (show i + 1 ≤ n by omega); exact ⟨_, _, _, _, _, by rw [if_pos (by omega)], fun q9 => absurd (show 2000 < (exT t n).1.length by omega) q9, rfl⟩)
                · have hP := of_decide_eq_true c6
                  refine u_eqw (ws' := [(h0, .inr (2, [.ref qp, .ref qs, .ref qr, .int (nI (((exT t i).1 ++ [v]).length)), .int (nI ((scT t i).1))])), (qp, aB G 2000 (upd f (exT t i).1.length (nI v))), (qs, aI G 60 sa), (qr, aI G 60 ra), (tx, aC G 60 t)]) (by rw [if_pos hP, if_pos hP, hlp]) ?_
                  refine u_aload_n h dX2_expand_96 rfl 4 rfl rfl ?_
                  refine u_aload_n h dX2_expand_97 rfl 4 rfl rfl ?_
                  refine u_get h flX2_expand_22 0 (v := .int (nI (((exT t i).1 ++ [v]).length))) rfl rfl dX2_expand_98 rfl ?_
                  refine u_iconst (v := 1) h dX2_expand_101 (by decide) rfl ?_
                  refine u_isub (v := (nI ((((exT t i).1 ++ [v]).length) - 1))) h dX2_expand_102 (pk_sub (a := (((exT t i).1 ++ [v]).length)) (b := 1) (by omega)) rfl ?_
                  refine u_top (y := nI ((exT t i).1.length)) (by rw [hlp]; rfl) ?_
                  refine u_iload_n h dX2_expand_103 rfl 3 rfl rfl ?_
                  refine u_callV h (As := [.int (nI ((exT t i).1.length)), .int (nI (mT t i))]) (wc := [(h0, .inr (2, [.ref qp, .ref qs, .ref qr, .int (nI (((exT t i).1 ++ [v]).length)), .int (nI ((scT t i).1))])), (qp, aB G 2000 (upd f (exT t i).1.length (nI v)))]) (wr := [(qs, aI G 60 sa), (qr, aI G 60 ra), (tx, aC G 60 t)]) (kX2_repeat G h0 qp qs qr (nI ((scT t i).1)) ((exT t i).1 ++ [v]) (upd f (exT t i).1.length (nI v)) ((exT t i).1.length) (mT t i) (hE.1.snoc v) (by omega) (by omega) hm9.1 hm9.2.1 (fun v9 h9 => by rcases List.mem_append.mp h9 with q9 | q9; exact ex_vis v9 q9 (hO.le (show i ≤ n by omega)); rw [List.mem_singleton.mp q9]; exact hv)) cwX2_expand_X2_repeat rfl rfl hR ⟨⟨rfl, rfl⟩, by decide, by decide⟩ ⟨Nat.le_of_ble_eq_true rfl, Nat.le_of_ble_eq_true rfl⟩ (ci := 2) (qr := 0) rfl rfl [0, 1] [2, 3, 4] rfl rfl rfl rfl (by decide) (Nat.le_of_ble_eq_true rfl) rfl dX2_expand_104 rfl (fun v9 u9 hp9 => ?_)
                  obtain ⟨rfl, f8, hf8, rfl⟩ := hp9
                  refine u_wp (ws' := [(h0, .inr (2, [.ref qp, .ref qs, .ref qr, .int (nI (if ((exT t i).1.length) + (((exT t i).1 ++ [v]).length - ((exT t i).1.length)) * (mT t i) ≤ 2000 then ((exT t i).1.length) + (((exT t i).1 ++ [v]).length - ((exT t i).1.length)) * (mT t i) else ((exT t i).1 ++ [v]).length)), .int (nI ((scT t i).1))])), (qp, aB G 2000 f8), (qs, aI G 60 sa), (qr, aI G 60 ra), (tx, aC G 60 t)]) [3, 4, 0, 1, 2] rfl rfl ?_
                  refine u_eqs (st' := [.int (bI (decide (((exT t i).1.length) + (((exT t i).1 ++ [v]).length - ((exT t i).1.length)) * (mT t i) ≤ 2000)))]) rfl ?_
                  refine u_if_eq_B (tgt := 114) h dX2_expand_107 (by decide) rfl (fun c9 => ?_) (fun c9 => ?_)
                  · refine u_iconst (v := 0) h dX2_expand_114 (by decide) rfl ?_
                    refine u_istore (lv' := [(6, .int 0), (5, .int (t i)), (4, .int (nI i)), (3, .int (nI (mT t i))), (0, .ref h0), (1, .ref tx), (2, .int (nI n))]) h dX2_expand_115 (by rw [hL]; decide) rfl rfl ?_
                    refine u_iconst (v := 1) h dX2_expand_117 (by decide) rfl ?_
                    refine u_istore_n (lv' := [(3, .int 1), (6, .int 0), (5, .int (t i)), (4, .int (nI i)), (0, .ref h0), (1, .ref tx), (2, .int (nI n))]) h dX2_expand_118 rfl (by rw [hL]; decide) rfl rfl ?_
                    refine u_iload h dX2_expand_119 1 rfl rfl ?_
                    refine u_if_ne_N (a := 0) (tgt := 127) h dX2_expand_121 (by decide) (by omega) rfl (fun c10 => ?_) (fun c10 => ?_)
                    · exact absurd c10 (by decide)
                    · refine u_bipush (v := (-3)) h dX2_expand_124 (by decide) rfl ?_
                      exact u_iret h hRT dX2_expand_126 (by omega) (by omega) (by have eL := len_lt c3 hlt; have hC := of_decide_eq_false c9; rw [hlp, Nat.add_sub_cancel_left, Nat.one_mul] at hC; have hmo := ex_mono2 (t := t) (show i + 1 ≤ n by omega); exact ⟨_, _, _, _, _, by rw [if_pos (by omega)], fun q9 => absurd (show 2000 < (exT t n).1.length by omega) q9, rfl⟩)
                  · refine u_iconst (v := 1) h dX2_expand_110 (by decide) rfl ?_
                    refine u_goto (tgt := 115) h dX2_expand_111 (by decide) ?_
                    refine u_istore (lv' := [(6, .int 1), (5, .int (t i)), (4, .int (nI i)), (3, .int (nI (mT t i))), (0, .ref h0), (1, .ref tx), (2, .int (nI n))]) h dX2_expand_115 (by rw [hL]; decide) rfl rfl ?_
                    refine u_iconst (v := 1) h dX2_expand_117 (by decide) rfl ?_
                    refine u_istore_n (lv' := [(3, .int 1), (6, .int 1), (5, .int (t i)), (4, .int (nI i)), (0, .ref h0), (1, .ref tx), (2, .int (nI n))]) h dX2_expand_118 rfl (by rw [hL]; decide) rfl rfl ?_
                    refine u_iload h dX2_expand_119 1 rfl rfl ?_
                    refine u_if_ne_N (a := 1) (tgt := 127) h dX2_expand_121 (by decide) (by omega) rfl (fun c11 => ?_) (fun c11 => ?_)
                    · refine u_iinc (k := 3) (v := (nI (i + 1))) (lv' := [(4, .int (nI (i + 1))), (3, .int 1), (6, .int 1), (5, .int (t i)), (0, .ref h0), (1, .ref tx), (2, .int (nI n))]) h dX2_expand_127 rfl (nI_add i 1) (by rw [hL]; decide) rfl rfl ?_
                      refine u_goto (tgt := 15) h dX2_expand_130 (by decide) ?_
                      have hC := of_decide_eq_true c9
                      have eL := len_lt c3 hlt
                      refine u_eqw (ws' := [(h0, .inr (2, [.ref qp, .ref qs, .ref qr, .int (nI ((exT t (i + 1)).1.length)), .int (nI ((scT t (i + 1)).1))])), (qp, aB G 2000 f8), (qs, aI G 60 sa), (qr, aI G 60 ra), (tx, aC G 60 t)]) (by rw [if_pos hC, eL, hlp, show (exT t i).1.length + ((exT t i).1.length + 1 - (exT t i).1.length) * mT t i = (exT t i).1.length + mT t i from by rw [Nat.add_sub_cancel_left, Nat.one_mul], (sc_lt c3 hlt).1]) ?_
                      refine u_eql (lv' := [(4, .int (nI (i + 1))), (3, .int (nI (mT t (i + 1)))), (6, .int 1), (5, .int (t i)), (0, .ref h0), (1, .ref tx), (2, .int (nI n))]) (by rw [show mT t (i + 1) = 1 from by unfold mT; rw [(sc_lt c3 hlt).1]; rfl]; rfl) ?_
                      refine u_lv (lv' := [(4, .int (nI (i + 1))), (3, .int (nI (mT t (i + 1)))), (0, .ref h0), (1, .ref tx), (2, .int (nI n))]) [0, 1, 4, 5, 6] rfl ?_
                      exact ihL _ (by omega) (i + 1) f8 sa ra rfl (by omega) (exI_lt hE c3 hlt (by rw [← rep_one _ _ _ hm9.1, hc, ix_nI (by omega)]; exact hf8 hC)) (by rw [eL]; rw [hlp, Nat.add_sub_cancel_left, Nat.one_mul] at hC; exact hC)
                    · exact absurd c11 (by decide)
              · obtain ⟨hd, hai⟩ : 0 < (scT t i).1 ∧ (scT t i).2.2 = true := by
                  rcases okc_cases (hO i (by omega)) with ⟨q9, -⟩ | ⟨-, q9⟩ | ⟨-, -, q9⟩ | ⟨-, -, -, -, q9, q8⟩
                  · rw [c3] at q9; cases q9
                  · rw [c5] at q9; exact absurd q9 (by decide)
                  · exact absurd q9 c4
                  · exact ⟨q9, q8⟩
                have hm1 : mT t i = 1 := by unfold mT; rw [if_pos (hm9.2.2.2 hai)]
                obtain ⟨b1, b2, b3, b4, b5, b6, b7⟩ := bg_spec (hO.le (show i ≤ n by omega)) (scT t i).1 hd (Nat.le_refl _)
                obtain ⟨hsa, hra⟩ := hE.2 ((scT t i).1 - 1) (by omega)
                rw [show (scT t i).1 - 1 + 1 = (scT t i).1 by omega] at hsa hra
                refine u_aload_n h dX2_expand_78 rfl 4 rfl rfl ?_
                refine u_callV h (As := []) (wc := [(h0, .inr (2, [.ref qp, .ref qs, .ref qr, .int (nI ((exT t i).1.length)), .int (nI ((scT t i).1))])), (qp, aB G 2000 f), (qs, aI G 60 sa), (qr, aI G 60 ra)]) (wr := [(tx, aC G 60 t)]) (kX2_closeBracket G h0 qp qs qr (exT t i).1 f sa ra ((scT t i).1) ((exT t i).2.1 (scT t i).1) ((exT t i).2.2 (scT t i).1) hd (by omega) hE.1 b7 hl b5 b6 (fun v9 h9 => ex_vis v9 h9 (hO.le (show i ≤ n by omega))) hsa hra) cwX2_expand_X2_closeBracket rfl rfl hR ⟨⟨rfl, rfl⟩, by decide, by decide⟩ ⟨Nat.le_of_ble_eq_true rfl, Nat.le_of_ble_eq_true rfl⟩ (ci := 2) (qr := 0) rfl rfl [0, 1, 2, 3] [4] rfl rfl rfl rfl (by decide) (Nat.le_of_ble_eq_true rfl) rfl dX2_expand_79 rfl (fun v9 u9 hp9 => ?_)
                obtain ⟨rfl, f12, hf12, rfl⟩ := hp9
                refine u_wp (ws' := [(h0, .inr (2, [.ref qp, .ref qs, .ref qr, .int (nI (if ((exT t i).2.1 (scT t i).1) + ((exT t i).1.length - ((exT t i).2.1 (scT t i).1)) * ((exT t i).2.2 (scT t i).1) ≤ 2000 then ((exT t i).2.1 (scT t i).1) + ((exT t i).1.length - ((exT t i).2.1 (scT t i).1)) * ((exT t i).2.2 (scT t i).1) else (exT t i).1.length)), .int (nI (((scT t i).1) - 1))])), (qp, aB G 2000 f12), (qs, aI G 60 sa), (qr, aI G 60 ra), (tx, aC G 60 t)]) [1, 2, 3, 4, 0] rfl rfl ?_
                refine u_eqs (st' := [.int (bI (decide (((exT t i).2.1 (scT t i).1) + ((exT t i).1.length - ((exT t i).2.1 (scT t i).1)) * ((exT t i).2.2 (scT t i).1) ≤ 2000)))]) rfl ?_
                refine u_istore (lv' := [(6, .int (bI (decide (((exT t i).2.1 (scT t i).1) + ((exT t i).1.length - ((exT t i).2.1 (scT t i).1)) * ((exT t i).2.2 (scT t i).1) ≤ 2000)))), (5, .int (t i)), (4, .int (nI i)), (3, .int (nI (mT t i))), (0, .ref h0), (1, .ref tx), (2, .int (nI n))]) h dX2_expand_82 (by rw [hL]; decide) rfl rfl ?_
                refine u_goto (tgt := 119) h dX2_expand_84 (by decide) ?_
                refine u_iload h dX2_expand_119 0 rfl rfl ?_
                refine u_if_ne_B (tgt := 127) h dX2_expand_121 (by decide) rfl (fun c13 => ?_) (fun c13 => ?_)
                · refine u_iinc (k := 2) (v := (nI (i + 1))) (lv' := [(4, .int (nI (i + 1))), (6, .int (bI (decide (((exT t i).2.1 (scT t i).1) + ((exT t i).1.length - ((exT t i).2.1 (scT t i).1)) * ((exT t i).2.2 (scT t i).1) ≤ 2000)))), (5, .int (t i)), (3, .int (nI (mT t i))), (0, .ref h0), (1, .ref tx), (2, .int (nI n))]) h dX2_expand_127 rfl (nI_add i 1) (by rw [hL]; decide) rfl rfl ?_
                  refine u_goto (tgt := 15) h dX2_expand_130 (by decide) ?_
                  have hC := of_decide_eq_true c13
                  have eL := len_cl (hO.le (show i ≤ n by omega)) c3 (show isLt (t i) = false from by rw [c5]; decide) c4 hd
                  refine u_eqw (ws' := [(h0, .inr (2, [.ref qp, .ref qs, .ref qr, .int (nI ((exT t (i + 1)).1.length)), .int (nI ((scT t (i + 1)).1))])), (qp, aB G 2000 f12), (qs, aI G 60 sa), (qr, aI G 60 ra), (tx, aC G 60 t)]) (by rw [if_pos hC, eL, (sc_cl c3 (show isLt (t i) = false from by rw [c5]; decide) c4).1]) ?_
                  refine u_eql (lv' := [(4, .int (nI (i + 1))), (6, .int (bI (decide (((exT t i).2.1 (scT t i).1) + ((exT t i).1.length - ((exT t i).2.1 (scT t i).1)) * ((exT t i).2.2 (scT t i).1) ≤ 2000)))), (5, .int (t i)), (3, .int (nI (mT t (i + 1)))), (0, .ref h0), (1, .ref tx), (2, .int (nI n))]) (by rw [show mT t (i + 1) = 1 from by unfold mT; rw [(sc_cl c3 (show isLt (t i) = false from by rw [c5]; decide) c4).1]; rfl, hm1]) ?_
                  refine u_lv (lv' := [(4, .int (nI (i + 1))), (3, .int (nI (mT t (i + 1)))), (0, .ref h0), (1, .ref tx), (2, .int (nI n))]) [0, 3, 4, 5, 6] rfl ?_
                  exact ihL _ (by omega) (i + 1) f12 sa ra rfl (by omega) (exI_cl hE c3 (show isLt (t i) = false from by rw [c5]; decide) c4 (hf12 hC)) (by rw [eL]; exact hC)
                · refine u_bipush (v := (-3)) h dX2_expand_124 (by decide) rfl ?_
                  exact u_iret h hRT dX2_expand_126 (by omega) (by omega) (by have eL := len_cl (hO.le (show i ≤ n by omega)) c3 (show isLt (t i) = false from by rw [c5]; decide) c4 hd; have hC := of_decide_eq_false c13; have hmo := ex_mono2 (t := t) (show i + 1 ≤ n by omega); exact ⟨_, _, _, _, _, by rw [if_pos (by omega)], fun q9 => absurd (show 2000 < (exT t n).1.length by omega) q9, rfl⟩)
            · refine u_aload_n h dX2_expand_61 rfl 4 rfl rfl ?_
              refine u_iload_n h dX2_expand_62 rfl 3 rfl rfl ?_
              refine u_callV h (As := [.int (nI (mT t i))]) (wc := [(h0, .inr (2, [.ref qp, .ref qs, .ref qr, .int (nI ((exT t i).1.length)), .int (nI ((scT t i).1))])), (qp, aB G 2000 f), (qs, aI G 60 sa), (qr, aI G 60 ra)]) (wr := [(tx, aC G 60 t)]) (kX2_openBracket G h0 qp qs qr ((exT t i).1.length) ((scT t i).1) (mT t i) f sa ra (by omega)) cwX2_expand_X2_openBracket rfl rfl hR ⟨⟨rfl, rfl⟩, by decide, by decide⟩ ⟨Nat.le_of_ble_eq_true rfl, Nat.le_of_ble_eq_true rfl⟩ (ci := 2) (qr := 0) rfl rfl [0, 1, 2, 3] [4] rfl rfl rfl rfl (by decide) (Nat.le_of_ble_eq_true rfl) rfl dX2_expand_63 rfl (fun v9 u9 hp9 => ?_)
              obtain ⟨rfl, rfl⟩ := hp9
              refine u_wp (ws' := [(h0, .inr (2, [.ref qp, .ref qs, .ref qr, .int (nI ((exT t i).1.length)), .int (nI (((scT t i).1) + 1))])), (qp, aB G 2000 f), (qs, aI G 60 (upd sa ((scT t i).1) (nI ((exT t i).1.length)))), (qr, aI G 60 (upd ra ((scT t i).1) (nI (mT t i)))), (tx, aC G 60 t)]) [1, 2, 3, 4, 0] rfl rfl ?_
              refine u_eqs (st' := []) rfl ?_
              refine u_iconst (v := 1) h dX2_expand_66 (by decide) rfl ?_
              refine u_istore_n (lv' := [(3, .int 1), (6, .int 1), (5, .int (t i)), (4, .int (nI i)), (0, .ref h0), (1, .ref tx), (2, .int (nI n))]) h dX2_expand_67 rfl (by rw [hL]; decide) rfl rfl ?_
              refine u_goto (tgt := 119) h dX2_expand_68 (by decide) ?_
              refine u_iload h dX2_expand_119 1 rfl rfl ?_
              refine u_if_ne_N (a := 1) (tgt := 127) h dX2_expand_121 (by decide) (by omega) rfl (fun c14 => ?_) (fun c14 => ?_)
              · refine u_iinc (k := 3) (v := (nI (i + 1))) (lv' := [(4, .int (nI (i + 1))), (3, .int 1), (6, .int 1), (5, .int (t i)), (0, .ref h0), (1, .ref tx), (2, .int (nI n))]) h dX2_expand_127 rfl (nI_add i 1) (by rw [hL]; decide) rfl rfl ?_
                refine u_goto (tgt := 15) h dX2_expand_130 (by decide) ?_
                refine u_eqw (ws' := [(h0, .inr (2, [.ref qp, .ref qs, .ref qr, .int (nI ((exT t (i + 1)).1.length)), .int (nI ((scT t (i + 1)).1))])), (qp, aB G 2000 f), (qs, aI G 60 (upd sa ((scT t i).1) (nI ((exT t i).1.length)))), (qr, aI G 60 (upd ra ((scT t i).1) (nI (mT t i)))), (tx, aC G 60 t)]) (by rw [(sc_op c3 (show isLt (t i) = false from by rw [c4]; decide) c4).2.2, (sc_op c3 (show isLt (t i) = false from by rw [c4]; decide) c4).1]) ?_
                refine u_eql (lv' := [(4, .int (nI (i + 1))), (3, .int (nI (mT t (i + 1)))), (6, .int 1), (5, .int (t i)), (0, .ref h0), (1, .ref tx), (2, .int (nI n))]) (by rw [show mT t (i + 1) = 1 from by unfold mT; rw [(sc_op c3 (show isLt (t i) = false from by rw [c4]; decide) c4).1]; rfl]; rfl) ?_
                refine u_lv (lv' := [(4, .int (nI (i + 1))), (3, .int (nI (mT t (i + 1)))), (0, .ref h0), (1, .ref tx), (2, .int (nI n))]) [0, 1, 4, 5, 6] rfl ?_
                exact ihL _ (by omega) (i + 1) f (upd sa ((scT t i).1) (nI ((exT t i).1.length))) (upd ra ((scT t i).1) (nI (mT t i))) rfl (by omega) (exI_op hE c3 (show isLt (t i) = false from by rw [c4]; decide) c4) (by rw [(sc_op c3 (show isLt (t i) = false from by rw [c4]; decide) c4).2.2]; exact hl)
              · exact absurd c14 (by decide)
          · refine u_iload h dX2_expand_45 1 rfl rfl ?_
            refine u_bipush (v := 48) h dX2_expand_47 (by decide) rfl ?_
            refine u_isub (v := ((t i) - 48)) h dX2_expand_49 rfl rfl ?_
            refine u_istore_n (lv' := [(3, .int ((t i) - 48)), (6, .int 1), (5, .int (t i)), (4, .int (nI i)), (0, .ref h0), (1, .ref tx), (2, .int (nI n))]) h dX2_expand_50 rfl (by rw [hL]; decide) rfl rfl ?_
            refine u_goto (tgt := 119) h dX2_expand_51 (by decide) ?_
            refine u_iload h dX2_expand_119 1 rfl rfl ?_
            refine u_if_ne_N (a := 1) (tgt := 127) h dX2_expand_121 (by decide) (by omega) rfl (fun c15 => ?_) (fun c15 => ?_)
            · refine u_iinc (k := 3) (v := (nI (i + 1))) (lv' := [(4, .int (nI (i + 1))), (3, .int ((t i) - 48)), (6, .int 1), (5, .int (t i)), (0, .ref h0), (1, .ref tx), (2, .int (nI n))]) h dX2_expand_127 rfl (nI_add i 1) (by rw [hL]; decide) rfl rfl ?_
              refine u_goto (tgt := 15) h dX2_expand_130 (by decide) ?_
              obtain ⟨d9, e1, e2, e3, e4⟩ := dg_nat c3
              refine u_eqw (ws' := [(h0, .inr (2, [.ref qp, .ref qs, .ref qr, .int (nI ((exT t (i + 1)).1.length)), .int (nI ((scT t (i + 1)).1))])), (qp, aB G 2000 f), (qs, aI G 60 sa), (qr, aI G 60 ra), (tx, aC G 60 t)]) (by rw [(sc_dg c3).2.2, (sc_dg c3).1]) ?_
              refine u_eql (lv' := [(4, .int (nI (i + 1))), (3, .int (nI (mT t (i + 1)))), (6, .int 1), (5, .int (t i)), (0, .ref h0), (1, .ref tx), (2, .int (nI n))]) (by rw [show mT t (i + 1) = d9 from by unfold mT; rw [(sc_dg c3).1, e4]; show (if ix (nI d9) = 0 then 1 else ix (nI d9)) = d9; rw [ix_nI (by omega), if_neg (by omega)], e4]) ?_
              refine u_lv (lv' := [(4, .int (nI (i + 1))), (3, .int (nI (mT t (i + 1)))), (0, .ref h0), (1, .ref tx), (2, .int (nI n))]) [0, 1, 4, 5, 6] rfl ?_
              exact ihL _ (by omega) (i + 1) f sa ra rfl (by omega) (exI_dg hE c3) (by rw [(sc_dg c3).2.2]; exact hl)
            · exact absurd c15 (by decide)
  exact LL _ 0 f sa ra rfl (Nat.zero_le _) (exI_0 t f sa ra) (Nat.zero_le _)
