set_option maxHeartbeats 8000000 in
set_option maxRecDepth 100000 in
theorem kX5_atMost (G : Gx) (x : Int32) : MC G yX5_atMost wsX5_atMost ({ frames := 0, cells := 0, slots := 0, locals := 0 } : Room) [.int x] [] (fun v' u' => v' = some (.int (atm x)) ∧ u' = []) 0 0 := by
  refine mc_of (cc := cX5_atMost) (maxL := 1) (ret := (some .int)) (by decide) rfl (Nat.le_of_ble_eq_true rfl) (fun X h hR hL hRT => ?_)
  refine u_eql (lv' := [(0, .int x)]) rfl ?_
  refine u_iload_n h dX5_atMost_0 rfl 0 rfl rfl ?_
  refine u_sipush (v := 2000) h dX5_atMost_1 (by decide) rfl ?_
  refine u_icmp_le (tgt := 13) h dX5_atMost_4 (by decide) rfl (fun c1 => ?_) (fun c1 => ?_)
  · refine u_iload_n h dX5_atMost_13 rfl 0 rfl rfl ?_
    exact u_iret h hRT dX5_atMost_14 (by omega) (by omega) (by first | (simp [atm, c1, Int32.not_lt.mpr c1]; done) | (exfalso; simp_all; done) | (simp_all [atm, c1, Int32.not_lt.mpr c1]; done))
  · refine u_sipush (v := 2001) h dX5_atMost_7 (by decide) rfl ?_
    refine u_goto (tgt := 14) h dX5_atMost_10 (by decide) ?_
    exact u_iret h hRT dX5_atMost_14 (by omega) (by omega) (by first | (simp [atm, c1, Int32.not_le.mp c1]; done) | (exfalso; simp_all; done) | (simp_all [atm, c1, Int32.not_le.mp c1]; done))

theorem flX5_read_25 : FL wsX5_read RX5 25 5 8 := ⟨RX5, TX5, 18, rfl, by decide, by decide +kernel, by decide +kernel⟩
theorem flX5_read_28 : FL wsX5_read RX5 28 5 9 := ⟨RX5, TX5, 18, rfl, by decide, by decide +kernel, by decide +kernel⟩
theorem flX5_read_125 : FL wsX5_read RX5 125 5 7 := ⟨RX5, TX5, 18, rfl, by decide, by decide +kernel, by decide +kernel⟩
theorem fwX5_read_131 : FW wsX5_read RX5 131 5 13 false .int := ⟨RX5, TX5, 18, tyX5, rfl, by decide, by decide +kernel, by decide +kernel, tyX5_ok, nmX5, rfl, by decide +kernel, rfl⟩
theorem flX5_read_22 : FL wsX5_read RX5 22 5 6 := ⟨RX5, TX5, 18, rfl, by decide, by decide +kernel, by decide +kernel⟩
theorem flX5_read_31 : FL wsX5_read RX5 31 5 10 := ⟨RX5, TX5, 18, rfl, by decide, by decide +kernel, by decide +kernel⟩
set_option maxRecDepth 20000 in
theorem cwX5_read_X5_in : CWd wsX5_read (wsS RX5 47 yX5_in wsX5_in) yX5_in wsX5_in cX5_in 3 (some .boolean) 3 := ⟨gX5_read_X5_in, ⟨_, rfl⟩, by decide +kernel, by decide, by decide⟩
set_option maxRecDepth 20000 in
theorem cwX5_read_X5_atMost : CWd wsX5_read (wsS RX5 128 yX5_atMost wsX5_atMost) yX5_atMost wsX5_atMost cX5_atMost 1 (some .int) 1 := ⟨gX5_read_X5_atMost, ⟨_, rfl⟩, by decide +kernel, by decide, by decide⟩
set_option maxHeartbeats 8000000 in
set_option maxRecDepth 100000 in
theorem kX5_read (G : Gx) (h0 : Nat) (q : Nat → Nat) (st ik sT fm bo bt : Int32) (n : Nat) (hn : n ≤ 60) (t su iT ti : Zf) : MC G yX5_read wsX5_read ({ frames := 1, cells := 0, slots := 0, locals := 22 } : Room) [.ref h0] [(h0, .inr (5, mO q st ik (nI n) sT fm bo bt)), ((q 4), aI G 60 t), ((q 5), aI G 62 su), ((q 6), aI G 62 iT), ((q 7), aI G 62 ti)] (fun v' u' => v' = some (.int (fauA t n)) ∧ ∃ (s' i' t' : Zf) (sT' : Int32), (fauA t n = -5 → sT' = nI (min 2001 (exT t n).1.length)) ∧ u' = [(h0, .inr (5, mO q st ik (nI n) sT' fm bo bt)), ((q 4), aI G 60 t), ((q 5), aI G 62 s'), ((q 6), aI G 62 i'), ((q 7), aI G 62 t')]) 0 0 := by
  refine mc_of (cc := cX5_read) (maxL := 6) (ret := (some .int)) (by decide) rfl (Nat.le_of_ble_eq_true rfl) (fun X h hR hL hRT => ?_)
  refine u_eql (lv' := [(0, .ref h0)]) rfl ?_
  refine u_iconst (v := 0) h dX5_read_0 (by decide) rfl ?_
  refine u_istore_n (lv' := [(1, .int 0), (0, .ref h0)]) h dX5_read_1 rfl (by rw [hL]; decide) rfl rfl ?_
  refine u_iconst (v := 0) h dX5_read_2 (by decide) rfl ?_
  refine u_istore_n (lv' := [(2, .int 0), (1, .int 0), (0, .ref h0)]) h dX5_read_3 rfl (by rw [hL]; decide) rfl rfl ?_
  refine u_aload_n h dX5_read_4 rfl 2 rfl rfl ?_
  refine u_get h flX5_read_25 0 (v := .ref (q 5)) rfl rfl dX5_read_5 rfl ?_
  refine u_iconst (v := 0) h dX5_read_8 (by decide) rfl ?_
  refine u_iconst (v := 0) h dX5_read_9 (by decide) rfl ?_
  refine u_iast h (n := 0) (v := 0) 2 rfl (by omega) (by omega) rfl (ws' := [(h0, .inr (5, mO q st ik (nI n) sT fm bo bt)), ((q 4), aI G 60 t), ((q 5), aI G 62 (upd su 0 0)), ((q 6), aI G 62 iT), ((q 7), aI G 62 ti)]) rfl dX5_read_10 rfl ?_
  refine u_aload_n h dX5_read_11 rfl 2 rfl rfl ?_
  refine u_get h flX5_read_28 0 (v := .ref (q 6)) rfl rfl dX5_read_12 rfl ?_
  refine u_iconst (v := 0) h dX5_read_15 (by decide) rfl ?_
  refine u_iconst (v := 0) h dX5_read_16 (by decide) rfl ?_
  refine u_iast h (n := 0) (v := 0) 3 rfl (by omega) (by omega) rfl (ws' := [(h0, .inr (5, mO q st ik (nI n) sT fm bo bt)), ((q 4), aI G 60 t), ((q 5), aI G 62 (upd su 0 0)), ((q 6), aI G 62 (upd iT 0 0)), ((q 7), aI G 62 ti)]) rfl dX5_read_17 rfl ?_
  refine u_iconst (v := 0) h dX5_read_18 (by decide) rfl ?_
  refine u_istore_n (lv' := [(3, .int 0), (2, .int 0), (1, .int 0), (0, .ref h0)]) h dX5_read_19 rfl (by rw [hL]; decide) rfl rfl ?_
  have LL : ∀ (k9 : Nat) (i : Nat) (d : Nat) (dg : Nat) (s2 : Zf) (i2 : Zf) (t2 : Zf), n - i = k9 → (i ≤ n) → (d = (scT t i).1) → (dg = (scT t i).2.1) → (OkP t i) → (RdI t i s2 i2 t2) → U G X 0 0 [(h0, .inr (5, mO q st ik (nI n) sT fm bo bt)), ((q 4), aI G 60 t), ((q 5), aI G 62 s2), ((q 6), aI G 62 i2), ((q 7), aI G 62 t2)] 20 [(3, .int (nI i)), (2, .int (nI dg)), (1, .int (nI d)), (0, .ref h0)] [] := by
    intro k9
    induction k9 using Nat.strongRecOn with
    | _ k9 ihL =>
      intro i d dg s2 i2 t2 hk9 hi hd hg hO hRd
      subst hk9
      have hdi : d ≤ i := by rw [hd]; exact (mT_le hO).2.2.1
      have hm9 := mT_le hO
      have hd9 : dg ≤ 9 := by have h9 := hm9.2.1; unfold mT at h9; rw [← hg] at h9; split at h9 <;> omega
      refine u_iload_n h dX5_read_20 rfl 0 rfl rfl ?_
      refine u_aload_n h dX5_read_21 rfl 3 rfl rfl ?_
      refine u_get h flX5_read_125 0 (v := .int (nI n)) rfl rfl dX5_read_22 rfl ?_
      refine u_icmp_ge_N (a := i) (b := n) (tgt := 241) h dX5_read_25 (by decide) (by omega) (by omega) rfl (fun c1 => ?_) (fun c1 => ?_)
      · refine u_aload_n h dX5_read_241 rfl 3 rfl rfl ?_
        refine u_aload_n h dX5_read_242 rfl 3 rfl rfl ?_
        refine u_get h flX5_read_25 0 (v := .ref (q 5)) rfl rfl dX5_read_243 rfl ?_
        refine u_iconst (v := 0) h dX5_read_246 (by decide) rfl ?_
        refine u_iald h (n := 0) 2 rfl (by omega) (by omega) dX5_read_247 rfl ?_
        refine u_put h fwX5_read_131 (ws' := [(h0, .inr (5, mO q st ik (nI n) (s2 0) fm bo bt)), ((q 4), aI G 60 t), ((q 5), aI G 62 s2), ((q 6), aI G 62 i2), ((q 7), aI G 62 t2)]) 0 rfl (Nat.le_of_ble_eq_true rfl) rfl rfl rfl dX5_read_248 rfl ?_
        refine u_iload_n h dX5_read_251 rfl 2 rfl rfl ?_
        refine u_if_ne_N (a := d) (tgt := 273) h dX5_read_252 (by decide) (by omega) rfl (fun c2 => ?_) (fun c2 => ?_)
        · refine u_aload_n h dX5_read_273 rfl 3 rfl rfl ?_
          refine u_get h flX5_read_125 0 (v := .int (nI n)) rfl rfl dX5_read_274 rfl ?_
          exact u_iret h hRT dX5_read_277 (by omega) (by omega) (by have ei : i = n := (by omega); subst ei; have hf := fau_none hO; rw [if_neg (show ¬ ((scT t i).1 = 0 ∧ (scT t i).2.2 = true) from fun e9 => c2 (by rw [hd]; exact e9.1))] at hf; exact ⟨by rw [hf], _, _, _, _, fun h9 => by obtain ⟨-, h8, -⟩ := fau_ok (by omega) h9; rw [(hRd.1 0 (Nat.zero_le _)).1, cnt_top h8], rfl⟩)
        · refine u_iload_n h dX5_read_255 rfl 1 rfl rfl ?_
          refine u_if_ne_N (a := dg) (tgt := 273) h dX5_read_256 (by decide) (by omega) rfl (fun c3 => ?_) (fun c3 => ?_)
          · refine u_aload_n h dX5_read_273 rfl 3 rfl rfl ?_
            refine u_get h flX5_read_125 0 (v := .int (nI n)) rfl rfl dX5_read_274 rfl ?_
            exact u_iret h hRT dX5_read_277 (by omega) (by omega) (by have ei : i = n := (by omega); subst ei; have hf := fau_none hO; rw [if_neg (show ¬ ((scT t i).1 = 0 ∧ (scT t i).2.2 = true) from fun e9 => c3 (by rw [hg]; exact (mT_le hO).2.2.2 e9.2))] at hf; exact ⟨by rw [hf], _, _, _, _, fun h9 => by obtain ⟨-, h8, -⟩ := fau_ok (by omega) h9; rw [(hRd.1 0 (Nat.zero_le _)).1, cnt_top h8], rfl⟩)
          · refine u_aload_n h dX5_read_259 rfl 3 rfl rfl ?_
            refine u_get h flX5_read_28 0 (v := .ref (q 6)) rfl rfl dX5_read_260 rfl ?_
            refine u_iconst (v := 0) h dX5_read_263 (by decide) rfl ?_
            refine u_iald h (n := 0) 3 rfl (by omega) (by omega) dX5_read_264 rfl ?_
            refine u_if_le (tgt := 273) h dX5_read_265 (by decide) rfl (fun c4 => ?_) (fun c4 => ?_)
            · refine u_aload_n h dX5_read_273 rfl 3 rfl rfl ?_
              refine u_get h flX5_read_125 0 (v := .int (nI n)) rfl rfl dX5_read_274 rfl ?_
              exact u_iret h hRT dX5_read_277 (by omega) (by omega) (by have ei : i = n := (by omega); subst ei; have hf := fau_none hO; have h0 : (scT t i).1 = 0 := (by rw [← hd]; exact c2); have hg0 : (scT t i).2.1 = 0 := (by rw [← hg]; exact c3); have h7 := hRd.2.2 hg0; rw [h0] at h7; obtain ⟨-, m8, hm8, e7⟩ := hRd.1 0 (Nat.zero_le _); rw [if_neg (show ¬ ((scT t i).1 = 0 ∧ (scT t i).2.2 = true) from fun e9 => (h7.mp e9.2) (by rw [e7]; rcases Nat.eq_zero_or_pos m8 with e5 | e5; exact congrArg nI e5; have h9 := c4; rw [e7] at h9; exact absurd h9 (nI_nle e5 (by omega))))] at hf; exact ⟨by rw [hf], _, _, _, _, fun h9 => by obtain ⟨-, h8, -⟩ := fau_ok (by omega) h9; rw [(hRd.1 0 (Nat.zero_le _)).1, cnt_top h8], rfl⟩)
            · refine u_bipush (v := (-5)) h dX5_read_268 (by decide) rfl ?_
              refine u_goto (tgt := 277) h dX5_read_270 (by decide) ?_
              exact u_iret h hRT dX5_read_277 (by omega) (by omega) (by have ei : i = n := (by omega); subst ei; have hf := fau_none hO; have h0 : (scT t i).1 = 0 := (by rw [← hd]; exact c2); have hg0 : (scT t i).2.1 = 0 := (by rw [← hg]; exact c3); have h7 := hRd.2.2 hg0; rw [h0] at h7; obtain ⟨-, m8, hm8, e7⟩ := hRd.1 0 (Nat.zero_le _); have h6 : (scT t i).2.2 = true := h7.mpr (fun e5 => c4 (by rw [e5]; decide)); rw [if_pos ⟨h0, h6⟩] at hf; exact ⟨by rw [hf], _, _, _, _, fun h9 => by obtain ⟨-, h8, -⟩ := fau_ok (by omega) h9; rw [(hRd.1 0 (Nat.zero_le _)).1, cnt_top h8], rfl⟩)
      · refine u_aload_n h dX5_read_28 rfl 3 rfl rfl ?_
        refine u_get h flX5_read_22 0 (v := .ref (q 4)) rfl rfl dX5_read_29 rfl ?_
        refine u_iload_n h dX5_read_32 rfl 0 rfl rfl ?_
        refine u_iald h (n := i) 1 rfl (by omega) (by omega) dX5_read_33 rfl ?_
        refine u_istore (lv' := [(4, .int (t i)), (3, .int (nI i)), (2, .int (nI dg)), (1, .int (nI d)), (0, .ref h0)]) h dX5_read_34 (by rw [hL]; decide) rfl rfl ?_
        refine u_iload h dX5_read_36 0 rfl rfl ?_
        refine u_bipush (v := 50) h dX5_read_38 (by decide) rfl ?_
        refine u_bipush (v := 57) h dX5_read_40 (by decide) rfl ?_
        refine u_callS h (As := [.int (t i), .int 50, .int 57]) (wc := []) (wr := [(h0, .inr (5, mO q st ik (nI n) sT fm bo bt)), ((q 4), aI G 60 t), ((q 5), aI G 62 s2), ((q 6), aI G 62 i2), ((q 7), aI G 62 t2)]) (kX5_in G (t i) 50 57) cwX5_read_X5_in rfl rfl hR ⟨⟨rfl, rfl⟩, by decide, by decide⟩ ⟨Nat.le_of_ble_eq_true rfl, Nat.le_of_ble_eq_true rfl⟩ [] [0, 1, 2, 3, 4] rfl rfl rfl rfl (by decide) (Nat.le_of_ble_eq_true rfl) rfl dX5_read_42 rfl (fun v9 u9 hp9 => ?_)
        obtain ⟨rfl, rfl⟩ := hp9
        refine u_wp (ws' := [(h0, .inr (5, mO q st ik (nI n) sT fm bo bt)), ((q 4), aI G 60 t), ((q 5), aI G 62 s2), ((q 6), aI G 62 i2), ((q 7), aI G 62 t2)]) [0, 1, 2, 3, 4] rfl rfl ?_
        refine u_eqs (st' := [.int (bI (inB (t i) 50 57))]) rfl ?_
        refine u_if_eq_B (tgt := 61) h dX5_read_45 (by decide) rfl (fun c5 => ?_) (fun c5 => ?_)
        · refine u_iload h dX5_read_61 0 rfl rfl ?_
          refine u_bipush (v := 97) h dX5_read_63 (by decide) rfl ?_
          refine u_bipush (v := 102) h dX5_read_65 (by decide) rfl ?_
          refine u_callS h (As := [.int (t i), .int 97, .int 102]) (wc := []) (wr := [(h0, .inr (5, mO q st ik (nI n) sT fm bo bt)), ((q 4), aI G 60 t), ((q 5), aI G 62 s2), ((q 6), aI G 62 i2), ((q 7), aI G 62 t2)]) (kX5_in G (t i) 97 102) cwX5_read_X5_in rfl rfl hR ⟨⟨rfl, rfl⟩, by decide, by decide⟩ ⟨Nat.le_of_ble_eq_true rfl, Nat.le_of_ble_eq_true rfl⟩ [] [0, 1, 2, 3, 4] rfl rfl rfl rfl (by decide) (Nat.le_of_ble_eq_true rfl) rfl dX5_read_67 rfl (fun v9 u9 hp9 => ?_)
          obtain ⟨rfl, rfl⟩ := hp9
          refine u_wp (ws' := [(h0, .inr (5, mO q st ik (nI n) sT fm bo bt)), ((q 4), aI G 60 t), ((q 5), aI G 62 s2), ((q 6), aI G 62 i2), ((q 7), aI G 62 t2)]) [0, 1, 2, 3, 4] rfl rfl ?_
          refine u_eqs (st' := [.int (bI (inB (t i) 97 102))]) rfl ?_
          refine u_if_eq_B (tgt := 113) h dX5_read_70 (by decide) rfl (fun c6 => ?_) (fun c6 => ?_)
          · refine u_iload h dX5_read_113 0 rfl rfl ?_
            refine u_bipush (v := 40) h dX5_read_115 (by decide) rfl ?_
            refine u_icmp_ne (tgt := 157) h dX5_read_117 (by decide) rfl (fun c7 => ?_) (fun c7 => ?_)
            · refine u_iload h dX5_read_157 0 rfl rfl ?_
              refine u_bipush (v := 41) h dX5_read_159 (by decide) rfl ?_
              refine u_icmp_ne (tgt := 233) h dX5_read_161 (by decide) rfl (fun c8 => ?_) (fun c8 => ?_)
              · refine u_iload_n h dX5_read_233 rfl 1 rfl rfl ?_
                exact u_iret h hRT dX5_read_234 (by omega) (by omega) (by have hno : okc t i = false := okc_f2 (show isDg (t i) = false from c5) (show isLt (t i) = false from c6) c7 (Or.inl c8); have hf := fau_some hO hno (show i < n by omega); exact ⟨by rw [hf], _, _, _, _, fun h9 => absurd (hf.symm.trans h9) (nI_m5 (by omega)), rfl⟩)
              · refine u_iload_n h dX5_read_164 rfl 3 rfl rfl ?_
                refine u_if_le_N (a := d) (tgt := 233) h dX5_read_165 (by decide) (by omega) rfl (fun c9 => ?_) (fun c9 => ?_)
                · refine u_iload_n h dX5_read_233 rfl 1 rfl rfl ?_
                  exact u_iret h hRT dX5_read_234 (by omega) (by omega) (by have hno : okc t i = false := okc_f2 (show isDg (t i) = false from c5) (show isLt (t i) = false from c6) c7 (Or.inr (Or.inl (by omega))); have hf := fau_some hO hno (show i < n by omega); exact ⟨by rw [hf], _, _, _, _, fun h9 => absurd (hf.symm.trans h9) (nI_m5 (by omega)), rfl⟩)
                · refine u_iload_n h dX5_read_168 rfl 2 rfl rfl ?_
                  refine u_if_ne_N (a := dg) (tgt := 233) h dX5_read_169 (by decide) (by omega) rfl (fun c10 => ?_) (fun c10 => ?_)
                  · refine u_iload_n h dX5_read_233 rfl 1 rfl rfl ?_
                    exact u_iret h hRT dX5_read_234 (by omega) (by omega) (by have hno : okc t i = false := okc_f2 (show isDg (t i) = false from c5) (show isLt (t i) = false from c6) c7 (Or.inr (Or.inr (by cases e8 : (scT t i).2.2; rfl; exact absurd (hm9.2.2.2 e8) (by rw [← hg]; exact c10)))); have hf := fau_some hO hno (show i < n by omega); exact ⟨by rw [hf], _, _, _, _, fun h9 => absurd (hf.symm.trans h9) (nI_m5 (by omega)), rfl⟩)
                  · refine u_aload_n h dX5_read_172 rfl 4 rfl rfl ?_
                    refine u_get h flX5_read_28 0 (v := .ref (q 6)) rfl rfl dX5_read_173 rfl ?_
                    refine u_iload_n h dX5_read_176 rfl 3 rfl rfl ?_
                    refine u_iald h (n := d) 3 rfl (by omega) (by omega) dX5_read_177 rfl ?_
                    refine u_if_le (tgt := 233) h dX5_read_178 (by decide) rfl (fun c11 => ?_) (fun c11 => ?_)
                    · refine u_iload_n h dX5_read_233 rfl 1 rfl rfl ?_
                      exact u_iret h hRT dX5_read_234 (by omega) (by omega) (by have hno : okc t i = false := okc_f2 (show isDg (t i) = false from c5) (show isLt (t i) = false from c6) c7 (Or.inr (Or.inr (by cases e8 : (scT t i).2.2; rfl; obtain ⟨-, m8, hm8, e7⟩ := hRd.1 (scT t i).1 (Nat.le_refl _); have h8 := (hRd.2.2 (hm9.2.2.2 e8)).mp e8; rw [e7] at h8; have h6 := c11; rw [hd, e7] at h6; exact absurd h6 (nI_nle (Nat.pos_of_ne_zero (fun e5 => h8 (by rw [e5]; rfl))) (by omega))))); have hf := fau_some hO hno (show i < n by omega); exact ⟨by rw [hf], _, _, _, _, fun h9 => absurd (hf.symm.trans h9) (nI_m5 (by omega)), rfl⟩)
                    · refine u_aload_n h dX5_read_181 rfl 4 rfl rfl ?_
                      refine u_get h flX5_read_25 0 (v := .ref (q 5)) rfl rfl dX5_read_182 rfl ?_
                      refine u_iload_n h dX5_read_185 rfl 3 rfl rfl ?_
                      refine u_iald h (n := d) 2 rfl (by omega) (by omega) dX5_read_186 rfl ?_
                      refine u_aload_n h dX5_read_187 rfl 4 rfl rfl ?_
                      refine u_get h flX5_read_31 0 (v := .ref (q 7)) rfl rfl dX5_read_188 rfl ?_
                      refine u_iload_n h dX5_read_191 rfl 3 rfl rfl ?_
                      refine u_iald h (n := d) 4 rfl (by omega) (by omega) dX5_read_192 rfl ?_
                      refine u_imul (v := ((s2 d) * (t2 d))) h dX5_read_193 rfl rfl ?_
                      refine u_callS h (As := [.int ((s2 d) * (t2 d))]) (wc := []) (wr := [(h0, .inr (5, mO q st ik (nI n) sT fm bo bt)), ((q 4), aI G 60 t), ((q 5), aI G 62 s2), ((q 6), aI G 62 i2), ((q 7), aI G 62 t2)]) (kX5_atMost G ((s2 d) * (t2 d))) cwX5_read_X5_atMost rfl rfl hR ⟨⟨rfl, rfl⟩, by decide, by decide⟩ ⟨Nat.le_of_ble_eq_true rfl, Nat.le_of_ble_eq_true rfl⟩ [] [0, 1, 2, 3, 4] rfl rfl rfl rfl (by decide) (Nat.le_of_ble_eq_true rfl) rfl dX5_read_194 rfl (fun v9 u9 hp9 => ?_)
                      obtain ⟨rfl, rfl⟩ := hp9
                      refine u_wp (ws' := [(h0, .inr (5, mO q st ik (nI n) sT fm bo bt)), ((q 4), aI G 60 t), ((q 5), aI G 62 s2), ((q 6), aI G 62 i2), ((q 7), aI G 62 t2)]) [0, 1, 2, 3, 4] rfl rfl ?_
                      refine u_eqs (st' := [.int (atm ((s2 d) * (t2 d)))]) rfl ?_
                      refine u_istore (lv' := [(5, .int (atm ((s2 d) * (t2 d)))), (4, .int (t i)), (3, .int (nI i)), (2, .int (nI dg)), (1, .int (nI d)), (0, .ref h0)]) h dX5_read_197 (by rw [hL]; decide) rfl rfl ?_
                      refine u_iinc (k := 4) (v := (nI (d - 1))) (lv' := [(1, .int (nI (d - 1))), (5, .int (atm ((s2 d) * (t2 d)))), (4, .int (t i)), (3, .int (nI i)), (2, .int (nI dg)), (0, .ref h0)]) h dX5_read_199 rfl (sb_m1 (by omega)) (by rw [hL]; decide) rfl rfl ?_
                      refine u_aload_n h dX5_read_202 rfl 5 rfl rfl ?_
                      refine u_get h flX5_read_25 0 (v := .ref (q 5)) rfl rfl dX5_read_203 rfl ?_
                      refine u_iload_n h dX5_read_206 rfl 0 rfl rfl ?_
                      refine u_aload_n h dX5_read_207 rfl 5 rfl rfl ?_
                      refine u_get h flX5_read_25 0 (v := .ref (q 5)) rfl rfl dX5_read_208 rfl ?_
                      refine u_iload_n h dX5_read_211 rfl 0 rfl rfl ?_
                      refine u_iald h (n := (d - 1)) 2 rfl (by omega) (by omega) dX5_read_212 rfl ?_
                      refine u_iload h dX5_read_213 1 rfl rfl ?_
                      refine u_iadd (v := ((s2 (d - 1)) + (atm ((s2 d) * (t2 d))))) h dX5_read_215 rfl rfl ?_
                      refine u_callS h (As := [.int ((s2 (d - 1)) + (atm ((s2 d) * (t2 d))))]) (wc := []) (wr := [(h0, .inr (5, mO q st ik (nI n) sT fm bo bt)), ((q 4), aI G 60 t), ((q 5), aI G 62 s2), ((q 6), aI G 62 i2), ((q 7), aI G 62 t2)]) (kX5_atMost G ((s2 (d - 1)) + (atm ((s2 d) * (t2 d))))) cwX5_read_X5_atMost rfl rfl hR ⟨⟨rfl, rfl⟩, by decide, by decide⟩ ⟨Nat.le_of_ble_eq_true rfl, Nat.le_of_ble_eq_true rfl⟩ [] [0, 1, 2, 3, 4] rfl rfl rfl rfl (by decide) (Nat.le_of_ble_eq_true rfl) rfl dX5_read_216 rfl (fun v9 u9 hp9 => ?_)
                      obtain ⟨rfl, rfl⟩ := hp9
                      refine u_wp (ws' := [(h0, .inr (5, mO q st ik (nI n) sT fm bo bt)), ((q 4), aI G 60 t), ((q 5), aI G 62 s2), ((q 6), aI G 62 i2), ((q 7), aI G 62 t2)]) [0, 1, 2, 3, 4] rfl rfl ?_
                      refine u_eqs (st' := [.int (atm ((s2 (d - 1)) + (atm ((s2 d) * (t2 d))))), .int (nI (d - 1)), .ref (q 5)]) rfl ?_
                      refine u_iast h (n := (d - 1)) (v := (atm ((s2 (d - 1)) + (atm ((s2 d) * (t2 d)))))) 2 rfl (by omega) (by omega) rfl (ws' := [(h0, .inr (5, mO q st ik (nI n) sT fm bo bt)), ((q 4), aI G 60 t), ((q 5), aI G 62 (upd s2 (d - 1) (atm ((s2 (d - 1)) + (atm ((s2 d) * (t2 d))))))), ((q 6), aI G 62 i2), ((q 7), aI G 62 t2)]) rfl dX5_read_219 rfl ?_
                      refine u_aload_n h dX5_read_220 rfl 5 rfl rfl ?_
                      refine u_get h flX5_read_28 0 (v := .ref (q 6)) rfl rfl dX5_read_221 rfl ?_
                      refine u_iload_n h dX5_read_224 rfl 0 rfl rfl ?_
                      refine u_dup2 h dX5_read_225 rfl rfl rfl ?_
                      refine u_iald h (n := (d - 1)) 3 rfl (by omega) (by omega) dX5_read_226 rfl ?_
                      refine u_iconst (v := 1) h dX5_read_227 (by decide) rfl ?_
                      refine u_iadd (v := ((i2 (d - 1)) + 1)) h dX5_read_228 rfl rfl ?_
                      refine u_iast h (n := (d - 1)) (v := ((i2 (d - 1)) + 1)) 3 rfl (by omega) (by omega) rfl (ws' := [(h0, .inr (5, mO q st ik (nI n) sT fm bo bt)), ((q 4), aI G 60 t), ((q 5), aI G 62 (upd s2 (d - 1) (atm ((s2 (d - 1)) + (atm ((s2 d) * (t2 d))))))), ((q 6), aI G 62 (upd i2 (d - 1) ((i2 (d - 1)) + 1))), ((q 7), aI G 62 t2)]) rfl dX5_read_229 rfl ?_
                      refine u_goto (tgt := 235) h dX5_read_230 (by decide) ?_
                      refine u_iinc (k := 3) (v := (nI (i + 1))) (lv' := [(3, .int (nI (i + 1))), (1, .int (nI (d - 1))), (5, .int (atm ((s2 d) * (t2 d)))), (4, .int (t i)), (2, .int (nI dg)), (0, .ref h0)]) h dX5_read_235 rfl (nI_add i 1) (by rw [hL]; decide) rfl rfl ?_
                      refine u_goto (tgt := 20) h dX5_read_238 (by decide) ?_
                      refine u_lv (lv' := [(3, .int (nI (i + 1))), (2, .int (nI dg)), (1, .int (nI (d - 1))), (0, .ref h0)]) [0, 4, 1, 5] rfl ?_
                      exact ihL _ (by omega) (i + 1) (d - 1) dg (upd s2 (d - 1) (atm ((s2 (d - 1)) + (atm ((s2 d) * (t2 d)))))) (upd i2 (d - 1) ((i2 (d - 1)) + 1)) t2 rfl (by omega) (by rw [(sc_cl (show isDg (t i) = false from by rw [c8]; decide) (show isLt (t i) = false from c6) c7).1]; rw [hd]) (by rw [(sc_cl (show isDg (t i) = false from by rw [c8]; decide) (show isLt (t i) = false from c6) c7).1]; rw [show dg = 0 by first | assumption | omega]) (fun j9 h9 => by by_cases e9 : j9 = i; rw [e9]; exact (by unfold okc; rw [decide_eq_true c8, decide_eq_true (show 0 < (scT t i).1 by omega), (show (scT t i).2.2 = true from (hRd.2.2 (by rw [← hg]; exact c10)).mpr (by rw [← hd]; exact fun e9 => c11 (by rw [e9]; decide)))]; simp); exact hO j9 (by omega)) (by have h9 := rd_cl hRd hO (by omega) (show isDg (t i) = false from by rw [c8]; decide) (show isLt (t i) = false from c6) c7 (by omega); rw [← hd] at h9; exact h9)
            · refine u_iinc (k := 3) (v := (nI (d + 1))) (lv' := [(1, .int (nI (d + 1))), (4, .int (t i)), (3, .int (nI i)), (2, .int (nI dg)), (0, .ref h0)]) h dX5_read_120 rfl (nI_add d 1) (by rw [hL]; decide) rfl rfl ?_
              refine u_aload_n h dX5_read_123 rfl 4 rfl rfl ?_
              refine u_get h flX5_read_31 0 (v := .ref (q 7)) rfl rfl dX5_read_124 rfl ?_
              refine u_iload_n h dX5_read_127 rfl 0 rfl rfl ?_
              refine u_iload_n h dX5_read_128 rfl 3 rfl rfl ?_
              have J12 : ∀ x13 : Int32, x13 = (nI (mT t i)) → U G X 0 0 [(h0, .inr (5, mO q st ik (nI n) sT fm bo bt)), ((q 4), aI G 60 t), ((q 5), aI G 62 s2), ((q 6), aI G 62 i2), ((q 7), aI G 62 t2)] 137 [(1, .int (nI (d + 1))), (4, .int (t i)), (3, .int (nI i)), (2, .int (nI dg)), (0, .ref h0)] [.int x13, .int (nI (d + 1)), .ref (q 7)] := by
                intro x13 e9
                subst e9
                refine u_iast h (n := (d + 1)) (v := (nI (mT t i))) 4 rfl (by omega) (by omega) rfl (ws' := [(h0, .inr (5, mO q st ik (nI n) sT fm bo bt)), ((q 4), aI G 60 t), ((q 5), aI G 62 s2), ((q 6), aI G 62 i2), ((q 7), aI G 62 (upd t2 (d + 1) (nI (mT t i))))]) rfl dX5_read_137 rfl ?_
                refine u_aload_n h dX5_read_138 rfl 4 rfl rfl ?_
                refine u_get h flX5_read_25 0 (v := .ref (q 5)) rfl rfl dX5_read_139 rfl ?_
                refine u_iload_n h dX5_read_142 rfl 0 rfl rfl ?_
                refine u_iconst (v := 0) h dX5_read_143 (by decide) rfl ?_
                refine u_iast h (n := (d + 1)) (v := 0) 2 rfl (by omega) (by omega) rfl (ws' := [(h0, .inr (5, mO q st ik (nI n) sT fm bo bt)), ((q 4), aI G 60 t), ((q 5), aI G 62 (upd s2 (d + 1) 0)), ((q 6), aI G 62 i2), ((q 7), aI G 62 (upd t2 (d + 1) (nI (mT t i))))]) rfl dX5_read_144 rfl ?_
                refine u_aload_n h dX5_read_145 rfl 4 rfl rfl ?_
                refine u_get h flX5_read_28 0 (v := .ref (q 6)) rfl rfl dX5_read_146 rfl ?_
                refine u_iload_n h dX5_read_149 rfl 0 rfl rfl ?_
                refine u_iconst (v := 0) h dX5_read_150 (by decide) rfl ?_
                refine u_iast h (n := (d + 1)) (v := 0) 3 rfl (by omega) (by omega) rfl (ws' := [(h0, .inr (5, mO q st ik (nI n) sT fm bo bt)), ((q 4), aI G 60 t), ((q 5), aI G 62 (upd s2 (d + 1) 0)), ((q 6), aI G 62 (upd i2 (d + 1) 0)), ((q 7), aI G 62 (upd t2 (d + 1) (nI (mT t i))))]) rfl dX5_read_151 rfl ?_
                refine u_iconst (v := 0) h dX5_read_152 (by decide) rfl ?_
                refine u_istore_n (lv' := [(2, .int 0), (1, .int (nI (d + 1))), (4, .int (t i)), (3, .int (nI i)), (0, .ref h0)]) h dX5_read_153 rfl (by rw [hL]; decide) rfl rfl ?_
                refine u_goto (tgt := 235) h dX5_read_154 (by decide) ?_
                refine u_iinc (k := 3) (v := (nI (i + 1))) (lv' := [(3, .int (nI (i + 1))), (2, .int 0), (1, .int (nI (d + 1))), (4, .int (t i)), (0, .ref h0)]) h dX5_read_235 rfl (nI_add i 1) (by rw [hL]; decide) rfl rfl ?_
                refine u_goto (tgt := 20) h dX5_read_238 (by decide) ?_
                refine u_lv (lv' := [(3, .int (nI (i + 1))), (2, .int 0), (1, .int (nI (d + 1))), (0, .ref h0)]) [0, 1, 2, 4] rfl ?_
                exact ihL _ (by omega) (i + 1) (d + 1) 0 (upd s2 (d + 1) 0) (upd i2 (d + 1) 0) (upd t2 (d + 1) (nI (mT t i))) rfl (by omega) (by rw [(sc_op (show isDg (t i) = false from by rw [c7]; decide) (show isLt (t i) = false from c6) c7).1]; rw [hd]) (by rw [(sc_op (show isDg (t i) = false from by rw [c7]; decide) (show isLt (t i) = false from c6) c7).1]) (fun j9 h9 => by by_cases e9 : j9 = i; rw [e9]; exact (by unfold okc; rw [decide_eq_true c7]; simp); exact hO j9 (by omega)) (by have h9 := rd_op hRd hO (show isDg (t i) = false from by rw [c7]; decide) (show isLt (t i) = false from c6) c7; rw [← hd] at h9; exact h9)
              refine u_if_ne_N (a := dg) (tgt := 136) h dX5_read_129 (by decide) (by omega) rfl (fun c14 => ?_) (fun c14 => ?_)
              · refine u_iload_n h dX5_read_136 rfl 3 rfl rfl ?_
                exact J12 _ (by first | (first | (unfold mT; rw [← hg, if_pos (by assumption)]; rfl) | (unfold mT; rw [← hg, if_neg (by assumption)]); done) | (exfalso; first | exact absurd (c1.symm.trans c5) (by decide) | exact absurd (c1.symm.trans c6) (by decide) | exact absurd (c1.symm.trans c7) (by decide) | exact absurd (c1.symm.trans c14) (by decide) | exact absurd (c5.symm.trans c1) (by decide) | exact absurd (c5.symm.trans c6) (by decide) | exact absurd (c5.symm.trans c7) (by decide) | exact absurd (c5.symm.trans c14) (by decide) | exact absurd (c6.symm.trans c1) (by decide) | exact absurd (c6.symm.trans c5) (by decide) | exact absurd (c6.symm.trans c7) (by decide) | exact absurd (c6.symm.trans c14) (by decide) | exact absurd (c7.symm.trans c1) (by decide) | exact absurd (c7.symm.trans c5) (by decide) | exact absurd (c7.symm.trans c6) (by decide) | exact absurd (c7.symm.trans c14) (by decide) | exact absurd (c14.symm.trans c1) (by decide) | exact absurd (c14.symm.trans c5) (by decide) | exact absurd (c14.symm.trans c6) (by decide) | exact absurd (c14.symm.trans c7) (by decide)))
              · refine u_iconst (v := 1) h dX5_read_132 (by decide) rfl ?_
                refine u_goto (tgt := 137) h dX5_read_133 (by decide) ?_
                exact J12 _ (by first | (first | (unfold mT; rw [← hg, if_pos (by assumption)]; rfl) | (unfold mT; rw [← hg, if_neg (by assumption)]); done) | (exfalso; first | exact absurd (c1.symm.trans c5) (by decide) | exact absurd (c1.symm.trans c6) (by decide) | exact absurd (c1.symm.trans c7) (by decide) | exact absurd (c1.symm.trans c14) (by decide) | exact absurd (c5.symm.trans c1) (by decide) | exact absurd (c5.symm.trans c6) (by decide) | exact absurd (c5.symm.trans c7) (by decide) | exact absurd (c5.symm.trans c14) (by decide) | exact absurd (c6.symm.trans c1) (by decide) | exact absurd (c6.symm.trans c5) (by decide) | exact absurd (c6.symm.trans c7) (by decide) | exact absurd (c6.symm.trans c14) (by decide) | exact absurd (c7.symm.trans c1) (by decide) | exact absurd (c7.symm.trans c5) (by decide) | exact absurd (c7.symm.trans c6) (by decide) | exact absurd (c7.symm.trans c14) (by decide) | exact absurd (c14.symm.trans c1) (by decide) | exact absurd (c14.symm.trans c5) (by decide) | exact absurd (c14.symm.trans c6) (by decide) | exact absurd (c14.symm.trans c7) (by decide)))
          · refine u_aload_n h dX5_read_73 rfl 4 rfl rfl ?_
            refine u_get h flX5_read_25 0 (v := .ref (q 5)) rfl rfl dX5_read_74 rfl ?_
            refine u_iload_n h dX5_read_77 rfl 3 rfl rfl ?_
            refine u_aload_n h dX5_read_78 rfl 4 rfl rfl ?_
            refine u_get h flX5_read_25 0 (v := .ref (q 5)) rfl rfl dX5_read_79 rfl ?_
            refine u_iload_n h dX5_read_82 rfl 3 rfl rfl ?_
            refine u_iald h (n := d) 2 rfl (by omega) (by omega) dX5_read_83 rfl ?_
            refine u_iload_n h dX5_read_84 rfl 2 rfl rfl ?_
            have J15 : ∀ x16 : Int32, x16 = (nI (mT t i)) → U G X 0 0 [(h0, .inr (5, mO q st ik (nI n) sT fm bo bt)), ((q 4), aI G 60 t), ((q 5), aI G 62 s2), ((q 6), aI G 62 i2), ((q 7), aI G 62 t2)] 93 [(4, .int (t i)), (3, .int (nI i)), (2, .int (nI dg)), (1, .int (nI d)), (0, .ref h0)] [.int x16, .int (s2 d), .int (nI d), .ref (q 5)] := by
              intro x16 e9
              subst e9
              refine u_iadd (v := ((s2 d) + (nI (mT t i)))) h dX5_read_93 rfl rfl ?_
              refine u_callS h (As := [.int ((s2 d) + (nI (mT t i)))]) (wc := []) (wr := [(h0, .inr (5, mO q st ik (nI n) sT fm bo bt)), ((q 4), aI G 60 t), ((q 5), aI G 62 s2), ((q 6), aI G 62 i2), ((q 7), aI G 62 t2)]) (kX5_atMost G ((s2 d) + (nI (mT t i)))) cwX5_read_X5_atMost rfl rfl hR ⟨⟨rfl, rfl⟩, by decide, by decide⟩ ⟨Nat.le_of_ble_eq_true rfl, Nat.le_of_ble_eq_true rfl⟩ [] [0, 1, 2, 3, 4] rfl rfl rfl rfl (by decide) (Nat.le_of_ble_eq_true rfl) rfl dX5_read_94 rfl (fun v9 u9 hp9 => ?_)
              obtain ⟨rfl, rfl⟩ := hp9
              refine u_wp (ws' := [(h0, .inr (5, mO q st ik (nI n) sT fm bo bt)), ((q 4), aI G 60 t), ((q 5), aI G 62 s2), ((q 6), aI G 62 i2), ((q 7), aI G 62 t2)]) [0, 1, 2, 3, 4] rfl rfl ?_
              refine u_eqs (st' := [.int (atm ((s2 d) + (nI (mT t i)))), .int (nI d), .ref (q 5)]) rfl ?_
              refine u_iast h (n := d) (v := (atm ((s2 d) + (nI (mT t i))))) 2 rfl (by omega) (by omega) rfl (ws' := [(h0, .inr (5, mO q st ik (nI n) sT fm bo bt)), ((q 4), aI G 60 t), ((q 5), aI G 62 (upd s2 d (atm ((s2 d) + (nI (mT t i)))))), ((q 6), aI G 62 i2), ((q 7), aI G 62 t2)]) rfl dX5_read_97 rfl ?_
              refine u_aload_n h dX5_read_98 rfl 4 rfl rfl ?_
              refine u_get h flX5_read_28 0 (v := .ref (q 6)) rfl rfl dX5_read_99 rfl ?_
              refine u_iload_n h dX5_read_102 rfl 3 rfl rfl ?_
              refine u_dup2 h dX5_read_103 rfl rfl rfl ?_
              refine u_iald h (n := d) 3 rfl (by omega) (by omega) dX5_read_104 rfl ?_
              refine u_iconst (v := 1) h dX5_read_105 (by decide) rfl ?_
              refine u_iadd (v := ((i2 d) + 1)) h dX5_read_106 rfl rfl ?_
              refine u_iast h (n := d) (v := ((i2 d) + 1)) 3 rfl (by omega) (by omega) rfl (ws' := [(h0, .inr (5, mO q st ik (nI n) sT fm bo bt)), ((q 4), aI G 60 t), ((q 5), aI G 62 (upd s2 d (atm ((s2 d) + (nI (mT t i)))))), ((q 6), aI G 62 (upd i2 d ((i2 d) + 1))), ((q 7), aI G 62 t2)]) rfl dX5_read_107 rfl ?_
              refine u_iconst (v := 0) h dX5_read_108 (by decide) rfl ?_
              refine u_istore_n (lv' := [(2, .int 0), (4, .int (t i)), (3, .int (nI i)), (1, .int (nI d)), (0, .ref h0)]) h dX5_read_109 rfl (by rw [hL]; decide) rfl rfl ?_
              refine u_goto (tgt := 235) h dX5_read_110 (by decide) ?_
              refine u_iinc (k := 2) (v := (nI (i + 1))) (lv' := [(3, .int (nI (i + 1))), (2, .int 0), (4, .int (t i)), (1, .int (nI d)), (0, .ref h0)]) h dX5_read_235 rfl (nI_add i 1) (by rw [hL]; decide) rfl rfl ?_
              refine u_goto (tgt := 20) h dX5_read_238 (by decide) ?_
              refine u_lv (lv' := [(3, .int (nI (i + 1))), (2, .int 0), (1, .int (nI d)), (0, .ref h0)]) [0, 1, 3, 4] rfl ?_
              exact ihL _ (by omega) (i + 1) d 0 (upd s2 d (atm ((s2 d) + (nI (mT t i))))) (upd i2 d ((i2 d) + 1)) t2 rfl (by omega) (by rw [(sc_lt (lt_no (show isLt (t i) = true from c6)).1 (show isLt (t i) = true from c6)).1]; exact hd) (by rw [(sc_lt (lt_no (show isLt (t i) = true from c6)).1 (show isLt (t i) = true from c6)).1]) (fun j9 h9 => by by_cases e9 : j9 = i; rw [e9]; exact (by unfold okc; rw [(show isLt (t i) = true from c6)]; simp); exact hO j9 (by omega)) (by have h9 := rd_lt hRd hO (by omega) (lt_no (show isLt (t i) = true from c6)).1 (show isLt (t i) = true from c6); rw [← hd] at h9; exact h9)
            refine u_if_ne_N (a := dg) (tgt := 92) h dX5_read_85 (by decide) (by omega) rfl (fun c17 => ?_) (fun c17 => ?_)
            · refine u_iload_n h dX5_read_92 rfl 2 rfl rfl ?_
              exact J15 _ (by first | (first | (unfold mT; rw [← hg, if_pos (by assumption)]; rfl) | (unfold mT; rw [← hg, if_neg (by assumption)]); done) | (exfalso; first | exact absurd (c1.symm.trans c5) (by decide) | exact absurd (c1.symm.trans c6) (by decide) | exact absurd (c1.symm.trans c17) (by decide) | exact absurd (c5.symm.trans c1) (by decide) | exact absurd (c5.symm.trans c6) (by decide) | exact absurd (c5.symm.trans c17) (by decide) | exact absurd (c6.symm.trans c1) (by decide) | exact absurd (c6.symm.trans c5) (by decide) | exact absurd (c6.symm.trans c17) (by decide) | exact absurd (c17.symm.trans c1) (by decide) | exact absurd (c17.symm.trans c5) (by decide) | exact absurd (c17.symm.trans c6) (by decide)))
            · refine u_iconst (v := 1) h dX5_read_88 (by decide) rfl ?_
              refine u_goto (tgt := 93) h dX5_read_89 (by decide) ?_
              exact J15 _ (by first | (first | (unfold mT; rw [← hg, if_pos (by assumption)]; rfl) | (unfold mT; rw [← hg, if_neg (by assumption)]); done) | (exfalso; first | exact absurd (c1.symm.trans c5) (by decide) | exact absurd (c1.symm.trans c6) (by decide) | exact absurd (c1.symm.trans c17) (by decide) | exact absurd (c5.symm.trans c1) (by decide) | exact absurd (c5.symm.trans c6) (by decide) | exact absurd (c5.symm.trans c17) (by decide) | exact absurd (c6.symm.trans c1) (by decide) | exact absurd (c6.symm.trans c5) (by decide) | exact absurd (c6.symm.trans c17) (by decide) | exact absurd (c17.symm.trans c1) (by decide) | exact absurd (c17.symm.trans c5) (by decide) | exact absurd (c17.symm.trans c6) (by decide)))
        · refine u_iload_n h dX5_read_48 rfl 2 rfl rfl ?_
          refine u_if_ne_N (a := dg) (tgt := 61) h dX5_read_49 (by decide) (by omega) rfl (fun c18 => ?_) (fun c18 => ?_)
          · refine u_iload h dX5_read_61 0 rfl rfl ?_
            refine u_bipush (v := 97) h dX5_read_63 (by decide) rfl ?_
            refine u_bipush (v := 102) h dX5_read_65 (by decide) rfl ?_
            refine u_callS h (As := [.int (t i), .int 97, .int 102]) (wc := []) (wr := [(h0, .inr (5, mO q st ik (nI n) sT fm bo bt)), ((q 4), aI G 60 t), ((q 5), aI G 62 s2), ((q 6), aI G 62 i2), ((q 7), aI G 62 t2)]) (kX5_in G (t i) 97 102) cwX5_read_X5_in rfl rfl hR ⟨⟨rfl, rfl⟩, by decide, by decide⟩ ⟨Nat.le_of_ble_eq_true rfl, Nat.le_of_ble_eq_true rfl⟩ [] [0, 1, 2, 3, 4] rfl rfl rfl rfl (by decide) (Nat.le_of_ble_eq_true rfl) rfl dX5_read_67 rfl (fun v9 u9 hp9 => ?_)
            obtain ⟨rfl, rfl⟩ := hp9
            refine u_wp (ws' := [(h0, .inr (5, mO q st ik (nI n) sT fm bo bt)), ((q 4), aI G 60 t), ((q 5), aI G 62 s2), ((q 6), aI G 62 i2), ((q 7), aI G 62 t2)]) [0, 1, 2, 3, 4] rfl rfl ?_
            refine u_eqs (st' := [.int (bI (inB (t i) 97 102))]) rfl ?_
            refine u_if_eq_B (tgt := 113) h dX5_read_70 (by decide) rfl (fun c19 => ?_) (fun c19 => ?_)
            · refine u_iload h dX5_read_113 0 rfl rfl ?_
              refine u_bipush (v := 40) h dX5_read_115 (by decide) rfl ?_
              refine u_icmp_ne (tgt := 157) h dX5_read_117 (by decide) rfl (fun c20 => ?_) (fun c20 => ?_)
              · refine u_iload h dX5_read_157 0 rfl rfl ?_
                refine u_bipush (v := 41) h dX5_read_159 (by decide) rfl ?_
                refine u_icmp_ne (tgt := 233) h dX5_read_161 (by decide) rfl (fun c21 => ?_) (fun c21 => ?_)
                · refine u_iload_n h dX5_read_233 rfl 1 rfl rfl ?_
                  exact u_iret h hRT dX5_read_234 (by omega) (by omega) (by have hno : okc t i = false := okc_f1 c5 (by rw [← hg]; exact c18); have hf := fau_some hO hno (show i < n by omega); exact ⟨by rw [hf], _, _, _, _, fun h9 => absurd (hf.symm.trans h9) (nI_m5 (by omega)), rfl⟩)
                · exact absurd c21 (dg_no c5).2.2
              · exact absurd c20 (dg_no c5).2.1
            · exact absurd c19 (by have h9 := (dg_no c5).1; unfold isLt at h9; rw [h9]; decide)
          · refine u_iload h dX5_read_52 0 rfl rfl ?_
            refine u_bipush (v := 48) h dX5_read_54 (by decide) rfl ?_
            refine u_isub (v := ((t i) - 48)) h dX5_read_56 rfl rfl ?_
            obtain ⟨dd, d2, d9, -, ed⟩ := dg_nat c5
            refine u_top (y := nI dd) ed ?_
            refine u_istore_n (lv' := [(2, .int (nI dd)), (4, .int (t i)), (3, .int (nI i)), (1, .int (nI d)), (0, .ref h0)]) h dX5_read_57 rfl (by rw [hL]; decide) rfl rfl ?_
            refine u_goto (tgt := 235) h dX5_read_58 (by decide) ?_
            refine u_iinc (k := 2) (v := (nI (i + 1))) (lv' := [(3, .int (nI (i + 1))), (2, .int (nI dd)), (4, .int (t i)), (1, .int (nI d)), (0, .ref h0)]) h dX5_read_235 rfl (nI_add i 1) (by rw [hL]; decide) rfl rfl ?_
            refine u_goto (tgt := 20) h dX5_read_238 (by decide) ?_
            refine u_lv (lv' := [(3, .int (nI (i + 1))), (2, .int (nI dd)), (1, .int (nI d)), (0, .ref h0)]) [0, 1, 3, 4] rfl ?_
            exact ihL _ (by omega) (i + 1) d dd s2 i2 t2 rfl (by omega) (by rw [(sc_dg (show isDg (t i) = true from c5)).1]; exact hd) (by rw [(sc_dg (show isDg (t i) = true from c5)).1, ed, ix_nI (by omega)]) (fun j9 h9 => by by_cases e9 : j9 = i; rw [e9]; exact (by unfold okc; rw [(show isDg (t i) = true from c5), decide_eq_true (by rw [← hg]; exact c18)]; rfl); exact hO j9 (by omega)) (rd_dg hRd hO (show isDg (t i) = true from c5))
  exact LL _ 0 0 0 (upd su 0 0) (upd iT 0 0) ti rfl (Nat.zero_le _) rfl rfl (fun _ h9 => absurd h9 (Nat.not_lt_zero _)) (rd_0 t (by first | exact pk_us | (rw [pk_un (by omega)]; exact pk_us)) (by first | exact pk_us | (rw [pk_un (by omega)]; exact pk_us)))
