set_option maxHeartbeats 8000000 in
set_option maxRecDepth 100000 in
theorem kX2_isLetter (G : Gx) (x : Int32) : MC G yX2_isLetter wsX2_isLetter ({ frames := 0, cells := 0, slots := 0, locals := 0 } : Room) [.int x] [] (fun v' u' => v' = some (.int (bI (isLt x))) ∧ u' = []) 0 0 := by
  refine mc_of (cc := cX2_isLetter) (maxL := 1) (ret := (some .boolean)) (by decide) rfl (Nat.le_of_ble_eq_true rfl) (fun X h hR hL hRT => ?_)
  refine u_eql (lv' := [(0, .int x)]) rfl ?_
  refine u_iload_n h dX2_isLetter_0 rfl 0 rfl rfl ?_
  refine u_bipush (v := 97) h dX2_isLetter_1 (by decide) rfl ?_
  refine u_icmp_lt (tgt := 16) h dX2_isLetter_3 (by decide) rfl (fun c1 => ?_) (fun c1 => ?_)
  · refine u_iconst (v := 0) h dX2_isLetter_16 (by decide) rfl ?_
    exact u_zret h hRT dX2_isLetter_17 rfl (by omega) (by omega) (by refine ⟨congrArg (fun b => some (Value.int b)) ?_, rfl⟩; rw [isLt_C]; simp [bI, c1, Int32.not_le.mpr c1])
  · refine u_iload_n h dX2_isLetter_6 rfl 0 rfl rfl ?_
    refine u_bipush (v := 103) h dX2_isLetter_7 (by decide) rfl ?_
    refine u_icmp_ge (tgt := 16) h dX2_isLetter_9 (by decide) rfl (fun c2 => ?_) (fun c2 => ?_)
    · refine u_iconst (v := 0) h dX2_isLetter_16 (by decide) rfl ?_
      exact u_zret h hRT dX2_isLetter_17 rfl (by omega) (by omega) (by refine ⟨congrArg (fun b => some (Value.int b)) ?_, rfl⟩; rw [isLt_C]; simp [bI, c1, Int32.not_lt.mp c1, c2, Int32.not_lt.mpr c2])
    · refine u_iconst (v := 1) h dX2_isLetter_12 (by decide) rfl ?_
      refine u_goto (tgt := 17) h dX2_isLetter_13 (by decide) ?_
      exact u_zret h hRT dX2_isLetter_17 rfl (by omega) (by omega) (by refine ⟨congrArg (fun b => some (Value.int b)) ?_, rfl⟩; rw [isLt_C]; simp [bI, c1, Int32.not_lt.mp c1, c2, Int32.not_le.mp c2])

set_option maxHeartbeats 8000000 in
set_option maxRecDepth 100000 in
theorem kX2_isDigit (G : Gx) (x : Int32) : MC G yX2_isDigit wsX2_isDigit ({ frames := 0, cells := 0, slots := 0, locals := 0 } : Room) [.int x] [] (fun v' u' => v' = some (.int (bI (isDg x))) ∧ u' = []) 0 0 := by
  refine mc_of (cc := cX2_isDigit) (maxL := 1) (ret := (some .boolean)) (by decide) rfl (Nat.le_of_ble_eq_true rfl) (fun X h hR hL hRT => ?_)
  refine u_eql (lv' := [(0, .int x)]) rfl ?_
  refine u_iload_n h dX2_isDigit_0 rfl 0 rfl rfl ?_
  refine u_bipush (v := 50) h dX2_isDigit_1 (by decide) rfl ?_
  refine u_icmp_lt (tgt := 16) h dX2_isDigit_3 (by decide) rfl (fun c1 => ?_) (fun c1 => ?_)
  · refine u_iconst (v := 0) h dX2_isDigit_16 (by decide) rfl ?_
    exact u_zret h hRT dX2_isDigit_17 rfl (by omega) (by omega) (by refine ⟨congrArg (fun b => some (Value.int b)) ?_, rfl⟩; rw [isDg_C]; simp [bI, c1, Int32.not_le.mpr c1])
  · refine u_iload_n h dX2_isDigit_6 rfl 0 rfl rfl ?_
    refine u_bipush (v := 57) h dX2_isDigit_7 (by decide) rfl ?_
    refine u_icmp_gt (tgt := 16) h dX2_isDigit_9 (by decide) rfl (fun c2 => ?_) (fun c2 => ?_)
    · refine u_iconst (v := 0) h dX2_isDigit_16 (by decide) rfl ?_
      exact u_zret h hRT dX2_isDigit_17 rfl (by omega) (by omega) (by refine ⟨congrArg (fun b => some (Value.int b)) ?_, rfl⟩; rw [isDg_C]; simp [bI, c1, Int32.not_lt.mp c1, c2, Int32.not_le.mpr c2])
    · refine u_iconst (v := 1) h dX2_isDigit_12 (by decide) rfl ?_
      refine u_goto (tgt := 17) h dX2_isDigit_13 (by decide) ?_
      exact u_zret h hRT dX2_isDigit_17 rfl (by omega) (by omega) (by refine ⟨congrArg (fun b => some (Value.int b)) ?_, rfl⟩; rw [isDg_C]; simp [bI, c1, Int32.not_lt.mp c1, c2, Int32.not_lt.mp c2])

set_option maxRecDepth 20000 in
theorem cwX2_fault_X2_isLetter : CWd wsX2_fault (wsS RX2 29 yX2_isLetter wsX2_isLetter) yX2_isLetter wsX2_isLetter cX2_isLetter 1 (some .boolean) 1 := ⟨gX2_fault_X2_isLetter, ⟨_, rfl⟩, by decide +kernel, by decide, by decide⟩
set_option maxRecDepth 20000 in
theorem cwX2_fault_X2_isDigit : CWd wsX2_fault (wsS RX2 33 yX2_isDigit wsX2_isDigit) yX2_isDigit wsX2_isDigit cX2_isDigit 1 (some .boolean) 1 := ⟨gX2_fault_X2_isDigit, ⟨_, rfl⟩, by decide +kernel, by decide, by decide⟩
set_option maxHeartbeats 8000000 in
set_option maxRecDepth 100000 in
theorem kX2_fault (G : Gx) (tx n : Nat) (hn : n ≤ 60) (t : Zf) : MC G yX2_fault wsX2_fault ({ frames := 1, cells := 0, slots := 0, locals := 20 } : Room) [.ref tx, .int (nI n)] [(tx, aC G 60 t)] (fun v' u' => v' = some (.int (fauA t n)) ∧ u' = [(tx, aC G 60 t)]) 0 0 := by
  refine mc_of (cc := cX2_fault) (maxL := 7) (ret := (some .int)) (by decide) rfl (Nat.le_of_ble_eq_true rfl) (fun X h hR hL hRT => ?_)
  refine u_eql (lv' := [(0, .ref tx), (1, .int (nI n))]) rfl ?_
  refine u_iconst (v := 0) h dX2_fault_0 (by decide) rfl ?_
  refine u_istore_n (lv' := [(2, .int 0), (0, .ref tx), (1, .int (nI n))]) h dX2_fault_1 rfl (by rw [hL]; decide) rfl rfl ?_
  refine u_iconst (v := 0) h dX2_fault_2 (by decide) rfl ?_
  refine u_istore_n (lv' := [(3, .int 0), (2, .int 0), (0, .ref tx), (1, .int (nI n))]) h dX2_fault_3 rfl (by rw [hL]; decide) rfl rfl ?_
  refine u_iconst (v := 0) h dX2_fault_4 (by decide) rfl ?_
  refine u_istore (lv' := [(4, .int 0), (3, .int 0), (2, .int 0), (0, .ref tx), (1, .int (nI n))]) h dX2_fault_5 (by rw [hL]; decide) rfl rfl ?_
  refine u_iconst (v := 0) h dX2_fault_7 (by decide) rfl ?_
  refine u_istore (lv' := [(5, .int 0), (4, .int 0), (3, .int 0), (2, .int 0), (0, .ref tx), (1, .int (nI n))]) h dX2_fault_8 (by rw [hL]; decide) rfl rfl ?_
  have LL : ∀ (k9 : Nat) (i : Nat) (d : Nat) (af : Bool) (ad : Bool), n - i = k9 → (i ≤ n) → (d = (scT t i).1) → (af = (scT t i).2.2) → (ad = !decide ((scT t i).2.1 = 0)) → (OkP t i) → U G X 0 0 [(tx, aC G 60 t)] 10 [(5, .int (nI i)), (4, .int (bI ad)), (3, .int (bI af)), (2, .int (nI d)), (0, .ref tx), (1, .int (nI n))] [] := by
    intro k9
    induction k9 using Nat.strongRecOn with
    | _ k9 ihL =>
      intro i d af ad hk9 hi hd ha hb hO
      subst hk9
      have hdi : d ≤ i := by rw [hd]; exact (mT_le hO).2.2.1
      have hm9 := mT_le hO
      refine u_iload h dX2_fault_10 0 rfl rfl ?_
      refine u_iload_n h dX2_fault_12 rfl 5 rfl rfl ?_
      refine u_icmp_ge_N (a := i) (b := n) (tgt := 114) h dX2_fault_13 (by decide) (by omega) (by omega) rfl (fun c1 => ?_) (fun c1 => ?_)
      · refine u_iload_n h dX2_fault_114 rfl 2 rfl rfl ?_
        refine u_if_eq_B (tgt := 127) h dX2_fault_115 (by decide) rfl (fun c2 => ?_) (fun c2 => ?_)
        · refine u_iload_n h dX2_fault_127 rfl 5 rfl rfl ?_
          exact u_iret h hRT dX2_fault_128 (by omega) (by omega) (by have ei : i = n := (by omega); subst ei; have hf := fau_none hO; rw [if_neg (fun e9 => by have h8 := ha; rw [c2, e9.2] at h8; cases h8)] at hf; exact ⟨by rw [hf], rfl⟩)
        · refine u_iload_n h dX2_fault_118 rfl 3 rfl rfl ?_
          refine u_if_ne_N (a := d) (tgt := 127) h dX2_fault_119 (by decide) (by omega) rfl (fun c3 => ?_) (fun c3 => ?_)
          · refine u_iload_n h dX2_fault_127 rfl 5 rfl rfl ?_
            exact u_iret h hRT dX2_fault_128 (by omega) (by omega) (by have ei : i = n := (by omega); subst ei; have hf := fau_none hO; rw [if_neg (fun e9 => c3 (by rw [hd]; exact e9.1))] at hf; exact ⟨by rw [hf], rfl⟩)
          · refine u_bipush (v := (-5)) h dX2_fault_122 (by decide) rfl ?_
            refine u_goto (tgt := 128) h dX2_fault_124 (by decide) ?_
            exact u_iret h hRT dX2_fault_128 (by omega) (by omega) (by have ei : i = n := (by omega); subst ei; have hf := fau_none hO; rw [if_pos ⟨by rw [← hd]; exact c3, by rw [← ha]; exact c2⟩] at hf; exact ⟨by rw [hf], rfl⟩)
      · refine u_iload h dX2_fault_16 0 rfl rfl ?_
        refine u_aload_n h dX2_fault_18 rfl 4 rfl rfl ?_
        refine u_alenC (n := 0) h 0 rfl dX2_fault_19 rfl ?_
        refine u_icmp_ge_N (a := i) (b := 60) (tgt := 114) h dX2_fault_20 (by decide) (by omega) (by omega) rfl (fun c4 => ?_) (fun c4 => ?_)
        · omega
        · refine u_aload_n h dX2_fault_23 rfl 4 rfl rfl ?_
          refine u_iload h dX2_fault_24 0 rfl rfl ?_
          refine u_cald h (n := i) 0 rfl (by omega) (by omega) dX2_fault_26 rfl ?_
          refine u_istore (lv' := [(6, .int (t i)), (5, .int (nI i)), (4, .int (bI ad)), (3, .int (bI af)), (2, .int (nI d)), (0, .ref tx), (1, .int (nI n))]) h dX2_fault_27 (by rw [hL]; decide) rfl rfl ?_
          refine u_iload h dX2_fault_29 0 rfl rfl ?_
          refine u_callS h (As := [.int (t i)]) (wc := []) (wr := [(tx, aC G 60 t)]) (kX2_isLetter G (t i)) cwX2_fault_X2_isLetter rfl rfl hR ⟨⟨rfl, rfl⟩, by decide, by decide⟩ ⟨Nat.le_of_ble_eq_true rfl, Nat.le_of_ble_eq_true rfl⟩ [] [0] rfl rfl rfl rfl (by decide) (Nat.le_of_ble_eq_true rfl) rfl dX2_fault_31 rfl (fun v9 u9 hp9 => ?_)
          obtain ⟨rfl, rfl⟩ := hp9
          refine u_wp (ws' := [(tx, aC G 60 t)]) [0] rfl rfl ?_
          refine u_eqs (st' := [.int (bI (isLt (t i)))]) rfl ?_
          refine u_if_eq_B (tgt := 45) h dX2_fault_34 (by decide) rfl (fun c5 => ?_) (fun c5 => ?_)
          · refine u_iload h dX2_fault_45 0 rfl rfl ?_
            refine u_bipush (v := 40) h dX2_fault_47 (by decide) rfl ?_
            refine u_icmp_ne (tgt := 63) h dX2_fault_49 (by decide) rfl (fun c6 => ?_) (fun c6 => ?_)
            · refine u_iload h dX2_fault_63 0 rfl rfl ?_
              refine u_bipush (v := 41) h dX2_fault_65 (by decide) rfl ?_
              refine u_icmp_ne (tgt := 84) h dX2_fault_67 (by decide) rfl (fun c7 => ?_) (fun c7 => ?_)
              · refine u_iload h dX2_fault_84 0 rfl rfl ?_
                refine u_callS h (As := [.int (t i)]) (wc := []) (wr := [(tx, aC G 60 t)]) (kX2_isDigit G (t i)) cwX2_fault_X2_isDigit rfl rfl hR ⟨⟨rfl, rfl⟩, by decide, by decide⟩ ⟨Nat.le_of_ble_eq_true rfl, Nat.le_of_ble_eq_true rfl⟩ [] [0] rfl rfl rfl rfl (by decide) (Nat.le_of_ble_eq_true rfl) rfl dX2_fault_86 rfl (fun v9 u9 hp9 => ?_)
                obtain ⟨rfl, rfl⟩ := hp9
                refine u_wp (ws' := [(tx, aC G 60 t)]) [0] rfl rfl ?_
                refine u_eqs (st' := [.int (bI (isDg (t i)))]) rfl ?_
                refine u_if_eq_B (tgt := 105) h dX2_fault_89 (by decide) rfl (fun c8 => ?_) (fun c8 => ?_)
                · refine u_iload h dX2_fault_105 1 rfl rfl ?_
                  exact u_iret h hRT dX2_fault_107 (by omega) (by omega) (by have hno : okc t i = false := okc_f2 c8 c5 c6 (Or.inl c7); have hf := fau_some hO hno (show i < n by omega); exact ⟨by rw [hf], rfl⟩)
                · refine u_iload h dX2_fault_92 2 rfl rfl ?_
                  refine u_if_ne_B (tgt := 105) h dX2_fault_94 (by decide) rfl (fun c9 => ?_) (fun c9 => ?_)
                  · refine u_iload h dX2_fault_105 1 rfl rfl ?_
                    exact u_iret h hRT dX2_fault_107 (by omega) (by omega) (by have hno : okc t i = false := okc_f1 c8 (fun e9 => by have h8 := hb; rw [c9, e9] at h8; exact absurd h8 (by decide)); have hf := fau_some hO hno (show i < n by omega); exact ⟨by rw [hf], rfl⟩)
                  · refine u_iconst (v := 0) h dX2_fault_97 (by decide) rfl ?_
                    refine u_istore_n (lv' := [(3, .int 0), (6, .int (t i)), (5, .int (nI i)), (4, .int (bI ad)), (2, .int (nI d)), (0, .ref tx), (1, .int (nI n))]) h dX2_fault_98 rfl (by rw [hL]; decide) rfl rfl ?_
                    refine u_iconst (v := 1) h dX2_fault_99 (by decide) rfl ?_
                    refine u_istore (lv' := [(4, .int 1), (3, .int 0), (6, .int (t i)), (5, .int (nI i)), (2, .int (nI d)), (0, .ref tx), (1, .int (nI n))]) h dX2_fault_100 (by rw [hL]; decide) rfl rfl ?_
                    refine u_goto (tgt := 108) h dX2_fault_102 (by decide) ?_
                    refine u_iinc (k := 3) (v := (nI (i + 1))) (lv' := [(5, .int (nI (i + 1))), (4, .int 1), (3, .int 0), (6, .int (t i)), (2, .int (nI d)), (0, .ref tx), (1, .int (nI n))]) h dX2_fault_108 rfl (nI_add i 1) (by rw [hL]; decide) rfl rfl ?_
                    refine u_goto (tgt := 10) h dX2_fault_111 (by decide) ?_
                    refine u_lv (lv' := [(5, .int (nI (i + 1))), (4, .int 1), (3, .int 0), (2, .int (nI d)), (0, .ref tx), (1, .int (nI n))]) [0, 1, 2, 4, 5, 6] rfl ?_
                    exact ihL _ (by omega) (i + 1) d false true rfl (by omega) (by rw [(sc_dg c8).1]; exact hd) (by first | (rw [(sc_dg c8).1]; done) | (rw [(sc_dg c8).1]; rfl)) (by first | (rw [(sc_dg c8).1]; done) | (rw [(sc_dg c8).1]; exact (by obtain ⟨dd, d2, d9, -, ed⟩ := dg_nat c8; rw [ed, ix_nI (by omega)]; simp; omega))) (fun j9 h9 => by by_cases e9 : j9 = i; rw [e9]; exact (by unfold okc; rw [c8, decide_eq_true (show (scT t i).2.1 = 0 from by have h8 := hb; rw [c9] at h8; simpa using h8.symm)]; rfl); exact hO j9 (by omega))
              · refine u_iload_n h dX2_fault_70 rfl 3 rfl rfl ?_
                refine u_if_eq_B (tgt := 84) h dX2_fault_71 (by decide) rfl (fun c10 => ?_) (fun c10 => ?_)
                · refine u_iload h dX2_fault_84 0 rfl rfl ?_
                  refine u_callS h (As := [.int (t i)]) (wc := []) (wr := [(tx, aC G 60 t)]) (kX2_isDigit G (t i)) cwX2_fault_X2_isDigit rfl rfl hR ⟨⟨rfl, rfl⟩, by decide, by decide⟩ ⟨Nat.le_of_ble_eq_true rfl, Nat.le_of_ble_eq_true rfl⟩ [] [0] rfl rfl rfl rfl (by decide) (Nat.le_of_ble_eq_true rfl) rfl dX2_fault_86 rfl (fun v9 u9 hp9 => ?_)
                  obtain ⟨rfl, rfl⟩ := hp9
                  refine u_wp (ws' := [(tx, aC G 60 t)]) [0] rfl rfl ?_
                  refine u_eqs (st' := [.int (bI (isDg (t i)))]) rfl ?_
                  refine u_if_eq_B (tgt := 105) h dX2_fault_89 (by decide) rfl (fun c11 => ?_) (fun c11 => ?_)
                  · refine u_iload h dX2_fault_105 1 rfl rfl ?_
                    exact u_iret h hRT dX2_fault_107 (by omega) (by omega) (by have hno : okc t i = false := okc_f2 c11 c5 c6 (Or.inr (Or.inr (by rw [← ha]; exact c10))); have hf := fau_some hO hno (show i < n by omega); exact ⟨by rw [hf], rfl⟩)
                  · exact absurd c11 (by rw [c7]; decide)
                · refine u_iload_n h dX2_fault_74 rfl 4 rfl rfl ?_
                  refine u_if_le_N (a := d) (tgt := 84) h dX2_fault_75 (by decide) (by omega) rfl (fun c12 => ?_) (fun c12 => ?_)
                  · refine u_iload h dX2_fault_84 0 rfl rfl ?_
                    refine u_callS h (As := [.int (t i)]) (wc := []) (wr := [(tx, aC G 60 t)]) (kX2_isDigit G (t i)) cwX2_fault_X2_isDigit rfl rfl hR ⟨⟨rfl, rfl⟩, by decide, by decide⟩ ⟨Nat.le_of_ble_eq_true rfl, Nat.le_of_ble_eq_true rfl⟩ [] [0] rfl rfl rfl rfl (by decide) (Nat.le_of_ble_eq_true rfl) rfl dX2_fault_86 rfl (fun v9 u9 hp9 => ?_)
                    obtain ⟨rfl, rfl⟩ := hp9
                    refine u_wp (ws' := [(tx, aC G 60 t)]) [0] rfl rfl ?_
                    refine u_eqs (st' := [.int (bI (isDg (t i)))]) rfl ?_
                    refine u_if_eq_B (tgt := 105) h dX2_fault_89 (by decide) rfl (fun c13 => ?_) (fun c13 => ?_)
                    · refine u_iload h dX2_fault_105 1 rfl rfl ?_
                      exact u_iret h hRT dX2_fault_107 (by omega) (by omega) (by have hno : okc t i = false := okc_f2 c13 c5 c6 (Or.inr (Or.inl (by omega))); have hf := fau_some hO hno (show i < n by omega); exact ⟨by rw [hf], rfl⟩)
                    · exact absurd c13 (by rw [c7]; decide)
                  · refine u_iinc (k := 4) (v := (nI (d - 1))) (lv' := [(2, .int (nI (d - 1))), (6, .int (t i)), (5, .int (nI i)), (4, .int (bI ad)), (3, .int (bI af)), (0, .ref tx), (1, .int (nI n))]) h dX2_fault_78 rfl (sb_m1 (by omega)) (by rw [hL]; decide) rfl rfl ?_
                    refine u_goto (tgt := 108) h dX2_fault_81 (by decide) ?_
                    refine u_iinc (k := 2) (v := (nI (i + 1))) (lv' := [(5, .int (nI (i + 1))), (2, .int (nI (d - 1))), (6, .int (t i)), (4, .int (bI ad)), (3, .int (bI af)), (0, .ref tx), (1, .int (nI n))]) h dX2_fault_108 rfl (nI_add i 1) (by rw [hL]; decide) rfl rfl ?_
                    refine u_goto (tgt := 10) h dX2_fault_111 (by decide) ?_
                    refine u_lv (lv' := [(5, .int (nI (i + 1))), (4, .int (bI ad)), (3, .int (bI af)), (2, .int (nI (d - 1))), (0, .ref tx), (1, .int (nI n))]) [0, 3, 4, 1, 5, 6] rfl ?_
                    exact ihL _ (by omega) (i + 1) (d - 1) af ad rfl (by omega) (by rw [(sc_cl (show isDg (t i) = false from by rw [c7]; decide) c5 c6).1]; rw [hd]) (by first | (rw [(sc_cl (show isDg (t i) = false from by rw [c7]; decide) c5 c6).1]; done) | (rw [(sc_cl (show isDg (t i) = false from by rw [c7]; decide) c5 c6).1]; exact c10)) (by first | (rw [(sc_cl (show isDg (t i) = false from by rw [c7]; decide) c5 c6).1]; done) | (rw [(sc_cl (show isDg (t i) = false from by rw [c7]; decide) c5 c6).1]; exact (by rw [hb, hm9.2.2.2 (by rw [← ha]; exact c10) ]))) (fun j9 h9 => by by_cases e9 : j9 = i; rw [e9]; exact (by unfold okc; rw [decide_eq_true c7, decide_eq_true (show 0 < (scT t i).1 by omega), ← ha, c10]; simp); exact hO j9 (by omega))
            · refine u_iinc (k := 4) (v := (nI (d + 1))) (lv' := [(2, .int (nI (d + 1))), (6, .int (t i)), (5, .int (nI i)), (4, .int (bI ad)), (3, .int (bI af)), (0, .ref tx), (1, .int (nI n))]) h dX2_fault_52 rfl (nI_add d 1) (by rw [hL]; decide) rfl rfl ?_
              refine u_iconst (v := 0) h dX2_fault_55 (by decide) rfl ?_
              refine u_istore_n (lv' := [(3, .int 0), (2, .int (nI (d + 1))), (6, .int (t i)), (5, .int (nI i)), (4, .int (bI ad)), (0, .ref tx), (1, .int (nI n))]) h dX2_fault_56 rfl (by rw [hL]; decide) rfl rfl ?_
              refine u_iconst (v := 0) h dX2_fault_57 (by decide) rfl ?_
              refine u_istore (lv' := [(4, .int 0), (3, .int 0), (2, .int (nI (d + 1))), (6, .int (t i)), (5, .int (nI i)), (0, .ref tx), (1, .int (nI n))]) h dX2_fault_58 (by rw [hL]; decide) rfl rfl ?_
              refine u_goto (tgt := 108) h dX2_fault_60 (by decide) ?_
              refine u_iinc (k := 4) (v := (nI (i + 1))) (lv' := [(5, .int (nI (i + 1))), (4, .int 0), (3, .int 0), (2, .int (nI (d + 1))), (6, .int (t i)), (0, .ref tx), (1, .int (nI n))]) h dX2_fault_108 rfl (nI_add i 1) (by rw [hL]; decide) rfl rfl ?_
              refine u_goto (tgt := 10) h dX2_fault_111 (by decide) ?_
              refine u_lv (lv' := [(5, .int (nI (i + 1))), (4, .int 0), (3, .int 0), (2, .int (nI (d + 1))), (0, .ref tx), (1, .int (nI n))]) [0, 1, 2, 3, 5, 6] rfl ?_
              exact ihL _ (by omega) (i + 1) (d + 1) false false rfl (by omega) (by rw [(sc_op (show isDg (t i) = false from by rw [c6]; decide) c5 c6).1]; rw [hd]) (by first | (rw [(sc_op (show isDg (t i) = false from by rw [c6]; decide) c5 c6).1]; done) | (rw [(sc_op (show isDg (t i) = false from by rw [c6]; decide) c5 c6).1]; rfl)) (by first | (rw [(sc_op (show isDg (t i) = false from by rw [c6]; decide) c5 c6).1]; done) | (rw [(sc_op (show isDg (t i) = false from by rw [c6]; decide) c5 c6).1]; rfl)) (fun j9 h9 => by by_cases e9 : j9 = i; rw [e9]; exact (by unfold okc; rw [decide_eq_true c6]; simp); exact hO j9 (by omega))
          · refine u_iconst (v := 1) h dX2_fault_37 (by decide) rfl ?_
            refine u_istore_n (lv' := [(3, .int 1), (6, .int (t i)), (5, .int (nI i)), (4, .int (bI ad)), (2, .int (nI d)), (0, .ref tx), (1, .int (nI n))]) h dX2_fault_38 rfl (by rw [hL]; decide) rfl rfl ?_
            refine u_iconst (v := 0) h dX2_fault_39 (by decide) rfl ?_
            refine u_istore (lv' := [(4, .int 0), (3, .int 1), (6, .int (t i)), (5, .int (nI i)), (2, .int (nI d)), (0, .ref tx), (1, .int (nI n))]) h dX2_fault_40 (by rw [hL]; decide) rfl rfl ?_
            refine u_goto (tgt := 108) h dX2_fault_42 (by decide) ?_
            refine u_iinc (k := 3) (v := (nI (i + 1))) (lv' := [(5, .int (nI (i + 1))), (4, .int 0), (3, .int 1), (6, .int (t i)), (2, .int (nI d)), (0, .ref tx), (1, .int (nI n))]) h dX2_fault_108 rfl (nI_add i 1) (by rw [hL]; decide) rfl rfl ?_
            refine u_goto (tgt := 10) h dX2_fault_111 (by decide) ?_
            refine u_lv (lv' := [(5, .int (nI (i + 1))), (4, .int 0), (3, .int 1), (2, .int (nI d)), (0, .ref tx), (1, .int (nI n))]) [0, 1, 2, 4, 5, 6] rfl ?_
            exact ihL _ (by omega) (i + 1) d true false rfl (by omega) (by rw [(sc_lt (lt_no c5).1 c5).1]; exact hd) (by first | (rw [(sc_lt (lt_no c5).1 c5).1]; done) | (rw [(sc_lt (lt_no c5).1 c5).1]; rfl)) (by first | (rw [(sc_lt (lt_no c5).1 c5).1]; done) | (rw [(sc_lt (lt_no c5).1 c5).1]; rfl)) (fun j9 h9 => by by_cases e9 : j9 = i; rw [e9]; exact (by unfold okc; rw [c5]; simp); exact hO j9 (by omega))
  exact LL _ 0 0 false false rfl (Nat.zero_le _) rfl rfl rfl (fun _ h9 => absurd h9 (Nat.not_lt_zero _))

theorem flX2_repeat_22 : FL wsX2_repeat RX2 22 2 3 := ⟨RX2, TX2, 5, rfl, by decide, by decide +kernel, by decide +kernel⟩
theorem flX2_repeat_9 : FL wsX2_repeat RX2 9 2 0 := ⟨RX2, TX2, 5, rfl, by decide, by decide +kernel, by decide +kernel⟩
theorem fwX2_repeat_22 : FW wsX2_repeat RX2 22 2 3 false .int := ⟨RX2, TX2, 5, tyX2, rfl, by decide, by decide +kernel, by decide +kernel, tyX2_ok, nmX2, rfl, by decide +kernel, rfl⟩
set_option maxHeartbeats 8000000 in
set_option maxRecDepth 100000 in
theorem kX2_repeat (G : Gx) (h0 qp qs qr : Nat) (dp : Int32) (p : List Nat) (f : Zf) (s m : Nat) (hP0 : Pl f p) (hs : s ≤ p.length) (hl : p.length ≤ 2000) (hm : 1 ≤ m) (hm9 : m ≤ 9) (hv : ∀ v ∈ p, v < 6) : MC G yX2_repeat wsX2_repeat ({ frames := 1, cells := 0, slots := 0, locals := 30 } : Room) [.ref h0, .int (nI s), .int (nI m)] [(h0, .inr (2, [.ref qp, .ref qs, .ref qr, .int (nI p.length), .int dp])), (qp, aB G 2000 f)] (fun v' u' => v' = some (.int (bI (decide (s + (p.length - s) * m ≤ 2000)))) ∧ ∃ f' : Zf, (s + (p.length - s) * m ≤ 2000 → Pl f' (p ++ cpN (p.drop s) (m - 1))) ∧ u' = [(h0, .inr (2, [.ref qp, .ref qs, .ref qr, .int (nI (if s + (p.length - s) * m ≤ 2000 then s + (p.length - s) * m else p.length)), .int dp])), (qp, aB G 2000 f')]) 0 0 := by
  refine mc_of (cc := cX2_repeat) (maxL := 5) (ret := (some .boolean)) (by decide) rfl (Nat.le_of_ble_eq_true rfl) (fun X h hR hL hRT => ?_)
  refine u_eql (lv' := [(0, .ref h0), (1, .int (nI s)), (2, .int (nI m))]) rfl ?_
  refine u_aload_n h dX2_repeat_0 rfl 0 rfl rfl ?_
  refine u_get h flX2_repeat_22 0 (v := .int (nI p.length)) rfl rfl dX2_repeat_1 rfl ?_
  refine u_iload_n h dX2_repeat_4 rfl 1 rfl rfl ?_
  refine u_isub (v := (nI (p.length - s))) h dX2_repeat_5 (pk_sub (by omega)) rfl ?_
  refine u_istore_n (lv' := [(3, .int (nI (p.length - s))), (0, .ref h0), (1, .int (nI s)), (2, .int (nI m))]) h dX2_repeat_6 rfl (by rw [hL]; decide) rfl rfl ?_
  obtain ⟨Z, hZ⟩ : ∃ Z : Nat, Z = p.length - s := ⟨_, rfl⟩
  refine u_eql (lv' := [(3, .int (nI Z)), (0, .ref h0), (1, .int (nI s)), (2, .int (nI m))]) (by rw [hZ]) ?_
  have hZ2 : Z * m ≤ 2000 * 9 := Nat.mul_le_mul (by omega) hm9
  refine u_iload_n h dX2_repeat_7 rfl 2 rfl rfl ?_
  refine u_iload_n h dX2_repeat_8 rfl 0 rfl rfl ?_
  refine u_iload_n h dX2_repeat_9 rfl 3 rfl rfl ?_
  refine u_imul (v := (nI (Z * m))) h dX2_repeat_10 (pk_mul Z m) rfl ?_
  refine u_iadd (v := (nI (s + (Z * m)))) h dX2_repeat_11 (nI_add s (Z * m)) rfl ?_
  refine u_sipush (v := 2000) h dX2_repeat_12 (by decide) rfl ?_
  refine u_icmp_le_N (a := (s + (Z * m))) (b := 2000) (tgt := 20) h dX2_repeat_15 (by decide) (by omega) (by omega) rfl (fun c1 => ?_) (fun c1 => ?_)
  · refine u_iconst (v := 1) h dX2_repeat_20 (by decide) rfl ?_
    refine u_istore (lv' := [(4, .int 1), (3, .int (nI Z)), (0, .ref h0), (1, .int (nI s)), (2, .int (nI m))]) h dX2_repeat_21 (by rw [hL]; decide) rfl rfl ?_
    have LL : ∀ (k9 : Nat) (k : Nat) (L : Nat) (f2 : Zf), m - k = k9 → (1 ≤ k) → (k ≤ m) → (L = s + Z * k) → (Pl f2 (p ++ cpN (p.drop s) (k - 1))) → U G X 0 0 [(h0, .inr (2, [.ref qp, .ref qs, .ref qr, .int (nI L), .int dp])), (qp, aB G 2000 f2)] 23 [(4, .int (nI k)), (3, .int (nI Z)), (0, .ref h0), (1, .int (nI s)), (2, .int (nI m))] [] := by
      intro k9
      induction k9 using Nat.strongRecOn with
      | _ k9 ihL =>
        intro k L f2 hk9 hk0 hk hLL hP
        subst hk9
        refine u_iload h dX2_repeat_23 0 rfl rfl ?_
        refine u_iload_n h dX2_repeat_25 rfl 4 rfl rfl ?_
        refine u_icmp_ge_N (a := k) (b := m) (tgt := 62) h dX2_repeat_26 (by decide) (by omega) (by omega) rfl (fun c2 => ?_) (fun c2 => ?_)
        · refine u_iconst (v := 1) h dX2_repeat_62 (by decide) rfl ?_
          exact u_zret h hRT dX2_repeat_63 rfl (by omega) (by omega) (by have ek : k = m := (by omega); subst ek; have yk : s + (p.length - s) * k ≤ 2000 := (by rw [← hZ]; omega); refine ⟨?_, f2, ?_, ?_⟩; rw [decide_eq_true yk]; rfl; exact fun _ => hP; rw [if_pos yk, hLL, hZ])
        · have hk1 : Z * (k + 1) ≤ Z * m := Nat.mul_le_mul_left Z (by omega)
          rw [Nat.mul_succ] at hk1
          have hLl : (p ++ cpN (p.drop s) (k - 1)).length = L := by rw [hLL, List.length_append, cpN_len, List.length_drop, ← hZ]; obtain ⟨j9, e9⟩ : ∃ j9 : Nat, k = j9 + 1 := ⟨k - 1, by omega⟩; rw [e9, Nat.add_sub_cancel, Nat.mul_succ, Nat.mul_comm Z j9]; omega
          have hb9 : ∀ j : Nat, j < Z → fits .byte (.int (f2 (s + j))) = true := by intro j hj; obtain ⟨w9, h8, h7, -⟩ := hP.vis (cp_vis hv) (j := s + j) (by rw [hLl, hLL]; have h6 : Z * 1 ≤ Z * k := Nat.mul_le_mul_left Z hk0; omega); rw [h7]; exact fits_b h8
          have hsZ : s + Z ≤ 2000 := by omega
          refine u_aload_n h dX2_repeat_29 rfl 2 rfl rfl ?_
          refine u_get h flX2_repeat_9 0 (v := .ref qp) rfl rfl dX2_repeat_30 rfl ?_
          refine u_iload_n h dX2_repeat_33 rfl 3 rfl rfl ?_
          refine u_aload_n h dX2_repeat_34 rfl 2 rfl rfl ?_
          refine u_get h flX2_repeat_9 0 (v := .ref qp) rfl rfl dX2_repeat_35 rfl ?_
          refine u_aload_n h dX2_repeat_38 rfl 2 rfl rfl ?_
          refine u_get h flX2_repeat_22 0 (v := .int (nI L)) rfl rfl dX2_repeat_39 rfl ?_
          refine u_iload_n h dX2_repeat_42 rfl 1 rfl rfl ?_
          refine u_cpyB h (sp := s) (dp := L) (n := Z) (ws' := [(h0, .inr (2, [.ref qp, .ref qs, .ref qr, .int (nI L), .int dp])), (qp, aB G 2000 (va_cpy f2 f2 s L Z))]) 1 1 (by decide +kernel) (by decide +kernel) (by decide +kernel) (by decide +kernel) rfl rfl (by omega) (by omega) (by omega) (by omega) hb9 (by rw [hR]; decide) (by rw [hR]; exact Nat.le_of_ble_eq_true rfl) rfl dX2_repeat_43 rfl ?_
          refine u_aload_n h dX2_repeat_46 rfl 2 rfl rfl ?_
          refine u_dup h dX2_repeat_47 rfl rfl ?_
          refine u_get h flX2_repeat_22 0 (v := .int (nI L)) rfl rfl dX2_repeat_48 rfl ?_
          refine u_iload_n h dX2_repeat_51 rfl 1 rfl rfl ?_
          refine u_iadd (v := (nI (L + Z))) h dX2_repeat_52 (nI_add L Z) rfl ?_
          refine u_put h fwX2_repeat_22 (ws' := [(h0, .inr (2, [.ref qp, .ref qs, .ref qr, .int (nI (L + Z)), .int dp])), (qp, aB G 2000 (va_cpy f2 f2 s L Z))]) 0 rfl (Nat.le_of_ble_eq_true rfl) rfl rfl rfl dX2_repeat_53 rfl ?_
          refine u_iinc (k := 0) (v := (nI (k + 1))) (lv' := [(4, .int (nI (k + 1))), (3, .int (nI Z)), (0, .ref h0), (1, .int (nI s)), (2, .int (nI m))]) h dX2_repeat_56 rfl (nI_add k 1) (by rw [hL]; decide) rfl rfl ?_
          refine u_goto (tgt := 23) h dX2_repeat_59 (by decide) ?_
          exact ihL _ (by omega) (k + 1) (L + Z) (va_cpy f2 f2 s L Z) rfl (by omega) (by omega) (by rw [Nat.mul_succ]; omega) (by have h9 := hP.cpy (s := s) (Z := Z) (B := p.drop s) (by rw [hZ]; exact cp_take hs) (by rw [hLl, hLL]; have h6 : Z * 1 ≤ Z * k := Nat.mul_le_mul_left Z hk0; omega); rw [hLl] at h9; have e8 : p ++ cpN (p.drop s) (k + 1 - 1) = (p ++ cpN (p.drop s) (k - 1)) ++ p.drop s := (by obtain ⟨j9, e9⟩ : ∃ j9 : Nat, k = j9 + 1 := ⟨k - 1, by omega⟩; rw [e9, Nat.add_sub_cancel, Nat.add_sub_cancel, cpN, List.append_assoc]); rw [e8]; exact h9)
    exact LL _ 1 p.length f rfl (by omega) (by omega) (by rw [Nat.mul_one]; omega) (by rw [show (1 : Nat) - 1 = 0 from rfl]; simpa [cpN] using hP0)
  · refine u_iconst (v := 0) h dX2_repeat_18 (by decide) rfl ?_
    exact u_zret h hRT dX2_repeat_19 rfl (by omega) (by omega) (by have nk : ¬ s + (p.length - s) * m ≤ 2000 := (by rw [← hZ]; omega); refine ⟨?_, f, ?_, ?_⟩; rw [decide_eq_false nk]; rfl; exact fun h9 => absurd h9 nk; rw [if_neg nk])
