theorem flX5_draw_7 : FL wsX5_draw RX5 7 5 0 := ⟨RX5, TX5, 18, rfl, by decide, by decide +kernel, by decide +kernel⟩
set_option maxRecDepth 20000 in
theorem cwX5_draw_X5_in : CWd wsX5_draw (wsS RX5 47 yX5_in wsX5_in) yX5_in wsX5_in cX5_in 3 (some .boolean) 3 := ⟨gX5_draw_X5_in, ⟨_, rfl⟩, by decide +kernel, by decide, by decide⟩
set_option maxRecDepth 20000 in
theorem cwX5_draw_X5_record : CWd wsX5_draw (wsV RX5 67 RX5 yX5_record wsX5_record) yX5_record wsX5_record cX5_record 2 none 0 := ⟨gX5_draw_X5_record, ⟨_, rfl⟩, by decide +kernel, by decide, by decide⟩
set_option maxRecDepth 20000 in
theorem cwX5_draw_X5_sum : CWd wsX5_draw (wsV RX5 106 RX5 yX5_sum wsX5_sum) yX5_sum wsX5_sum cX5_sum 4 (some .int) 1 := ⟨gX5_draw_X5_sum, ⟨_, rfl⟩, by decide +kernel, by decide, by decide⟩
set_option maxRecDepth 20000 in
theorem cwX5_draw_X5_bits : CWd wsX5_draw (wsS RX5 116 yX5_bits wsX5_bits) yX5_bits wsX5_bits cX5_bits 3 (some .int) 1 := ⟨gX5_draw_X5_bits, ⟨_, rfl⟩, by decide +kernel, by decide, by decide⟩
set_option maxRecDepth 20000 in
theorem cwX5_draw_X5_pick : CWd wsX5_draw (wsS RX5 119 yX5_pick wsX5_pick) yX5_pick wsX5_pick cX5_pick 5 (some .int) 2 := ⟨gX5_draw_X5_pick, ⟨_, rfl⟩, by decide +kernel, by decide, by decide⟩
set_option maxRecDepth 20000 in
theorem cwX5_draw_X5_makeStep : CWd wsX5_draw (wsV RX5 103 RX5 yX5_makeStep wsX5_makeStep) yX5_makeStep wsX5_makeStep cX5_makeStep 4 none 1 := ⟨gX5_draw_X5_makeStep, ⟨_, rfl⟩, by decide +kernel, by decide, by decide⟩
set_option maxHeartbeats 8000000 in
set_option maxRecDepth 100000 in
theorem kX5_draw (G : Gx) (h0 : Nat) (q : Nat → Nat) (st : Nat) (hst : st ≤ 4) (ik ln sT fm bo bt : Int32) (z p : Zf) (x n : Int32) (hG : okD x n = true → DrOk z x (ix n)) : MC G yX5_draw wsX5_draw ({ frames := 3, cells := 0, slots := 0, locals := 69 } : Room) [.ref h0, .int x, .int n] [(h0, .inr (5, mO q (nI st) ik ln sT fm bo bt)), ((q 0), aI G 86 z), ((q 2), aI G 344 p)] (fun v' u' => v' = some (.int (drawA z x n)) ∧ u' = [(h0, .inr (5, mO q (nI (nxN (okD x n) st)) ik ln sT fm bo bt)), ((q 0), aI G 86 (nxZ (okD x n) z (drZ z x (ix n)))), ((q 2), aI G 344 (nxP (okD x n) p z st))]) 0 0 := by
  refine mc_of (cc := cX5_draw) (maxL := 5) (ret := (some .int)) (by decide) rfl (Nat.le_of_ble_eq_true rfl) (fun X h hR hL hRT => ?_)
  refine u_eql (lv' := [(0, .ref h0), (1, .int x), (2, .int n)]) rfl ?_
  refine u_iload_n h dX5_draw_0 rfl 1 rfl rfl ?_
  refine u_iconst (v := 1) h dX5_draw_1 (by decide) rfl ?_
  refine u_bipush (v := 63) h dX5_draw_2 (by decide) rfl ?_
  refine u_callS h (As := [.int x, .int 1, .int 63]) (wc := []) (wr := [(h0, .inr (5, mO q (nI st) ik ln sT fm bo bt)), ((q 0), aI G 86 z), ((q 2), aI G 344 p)]) (kX5_in G x 1 63) cwX5_draw_X5_in rfl rfl hR ⟨⟨rfl, rfl⟩, by decide, by decide⟩ ⟨Nat.le_of_ble_eq_true rfl, Nat.le_of_ble_eq_true rfl⟩ [] [0, 1, 2] rfl rfl rfl rfl (by decide) (Nat.le_of_ble_eq_true rfl) rfl dX5_draw_4 rfl (fun v9 u9 hp9 => ?_)
  obtain ⟨rfl, rfl⟩ := hp9
  refine u_wp (ws' := [(h0, .inr (5, mO q (nI st) ik ln sT fm bo bt)), ((q 0), aI G 86 z), ((q 2), aI G 344 p)]) [0, 1, 2] rfl rfl ?_
  refine u_eqs (st' := [.int (bI (inB x 1 63))]) rfl ?_
  refine u_if_eq_B (tgt := 21) h dX5_draw_7 (by decide) rfl (fun c1 => ?_) (fun c1 => ?_)
  · refine u_bipush (v := (-2)) h dX5_draw_21 (by decide) rfl ?_
    exact u_iret h hRT dX5_draw_23 (by omega) (by omega) (by first | (simp [nxN, nxZ, nxP, okD, drawA, c1]; done) | (exfalso; simp_all; done) | (simp_all [nxN, nxZ, nxP, okD, drawA, c1]; done))
  · refine u_iload_n h dX5_draw_10 rfl 2 rfl rfl ?_
    refine u_iconst (v := 1) h dX5_draw_11 (by decide) rfl ?_
    refine u_sipush (v := 200) h dX5_draw_12 (by decide) rfl ?_
    refine u_callS h (As := [.int n, .int 1, .int 200]) (wc := []) (wr := [(h0, .inr (5, mO q (nI st) ik ln sT fm bo bt)), ((q 0), aI G 86 z), ((q 2), aI G 344 p)]) (kX5_in G n 1 200) cwX5_draw_X5_in rfl rfl hR ⟨⟨rfl, rfl⟩, by decide, by decide⟩ ⟨Nat.le_of_ble_eq_true rfl, Nat.le_of_ble_eq_true rfl⟩ [] [0, 1, 2] rfl rfl rfl rfl (by decide) (Nat.le_of_ble_eq_true rfl) rfl dX5_draw_15 rfl (fun v9 u9 hp9 => ?_)
    obtain ⟨rfl, rfl⟩ := hp9
    refine u_wp (ws' := [(h0, .inr (5, mO q (nI st) ik ln sT fm bo bt)), ((q 0), aI G 86 z), ((q 2), aI G 344 p)]) [0, 1, 2] rfl rfl ?_
    refine u_eqs (st' := [.int (bI (inB n 1 200))]) rfl ?_
    refine u_if_ne_B (tgt := 24) h dX5_draw_18 (by decide) rfl (fun c2 => ?_) (fun c2 => ?_)
    · have hD := hG (by simp [okD, c1, c2])
      obtain ⟨nn, hnn, rfl⟩ : ∃ j : Nat, j ≤ 200 ∧ n = nI j := nI_of2 (M := 200) (by decide) (fun q9 => by have h9 := c2; simp [inB] at h9; exact absurd (Int32.le_trans (show (0 : Int32) ≤ 1 by decide) h9.1) (Int32.not_le.mpr q9)) (by have h9 := c2; simp [inB] at h9; exact h9.2)
      rw [ix_nI (show nn < 2 ^ 31 by omega)] at hD
      refine u_aload_n h dX5_draw_24 rfl 0 rfl rfl ?_
      refine u_callV h (As := []) (wc := [(h0, .inr (5, mO q (nI st) ik ln sT fm bo bt)), ((q 0), aI G 86 z), ((q 2), aI G 344 p)]) (wr := []) (kX5_record G h0 q st hst ik ln sT fm bo bt z p) cwX5_draw_X5_record rfl rfl hR ⟨⟨rfl, rfl⟩, by decide, by decide⟩ ⟨Nat.le_of_ble_eq_true rfl, Nat.le_of_ble_eq_true rfl⟩ (ci := 5) (qr := 0) rfl rfl [0, 1, 2] [] rfl rfl rfl rfl (by decide) (Nat.le_of_ble_eq_true rfl) rfl dX5_draw_25 rfl (fun v9 u9 hp9 => ?_)
      obtain ⟨rfl, rfl⟩ := hp9
      refine u_wp (ws' := [(h0, .inr (5, mO q (nI (recN st)) ik ln sT fm bo bt)), ((q 0), aI G 86 z), ((q 2), aI G 344 (recP p z st))]) [0, 1, 2] rfl rfl ?_
      refine u_eqs (st' := []) rfl ?_
      refine u_aload_n h dX5_draw_28 rfl 0 rfl rfl ?_
      refine u_bipush (v := 74) h dX5_draw_29 (by decide) rfl ?_
      refine u_callV h (As := [.int 74]) (wc := [(h0, .inr (5, mO q (nI (recN st)) ik ln sT fm bo bt)), ((q 0), aI G 86 z)]) (wr := [((q 2), aI G 344 (recP p z st))]) (kX5_sum G h0 (q 0) (mO q (nI (recN st)) ik ln sT fm bo bt) rfl z 74 (by omega)) cwX5_draw_X5_sum rfl rfl hR ⟨⟨rfl, rfl⟩, by decide, by decide⟩ ⟨Nat.le_of_ble_eq_true rfl, Nat.le_of_ble_eq_true rfl⟩ (ci := 5) (qr := 0) rfl rfl [0, 1] [2] rfl rfl rfl rfl (by decide) (Nat.le_of_ble_eq_true rfl) rfl dX5_draw_31 rfl (fun v9 u9 hp9 => ?_)
      obtain ⟨rfl, rfl⟩ := hp9
      refine u_wp (ws' := [(h0, .inr (5, mO q (nI (recN st)) ik ln sT fm bo bt)), ((q 0), aI G 86 z), ((q 2), aI G 344 (recP p z st))]) [1, 2, 0] rfl rfl ?_
      refine u_eqs (st' := [.int (sumZ z 74 6)]) rfl ?_
      refine u_istore_n (lv' := [(3, .int (sumZ z 74 6)), (0, .ref h0), (1, .int x), (2, .int (nI nn))]) h dX5_draw_34 rfl (by rw [hL]; decide) rfl rfl ?_
      refine u_iconst (v := 0) h dX5_draw_35 (by decide) rfl ?_
      refine u_istore (lv' := [(4, .int 0), (3, .int (sumZ z 74 6)), (0, .ref h0), (1, .int x), (2, .int (nI nn))]) h dX5_draw_36 (by rw [hL]; decide) rfl rfl ?_
      have LL : ∀ (k9 : Nat) (k : Nat) (w : Zf), nn - k = k9 → (k ≤ nn) → (w = drZ z x k) → U G X 0 0 [(h0, .inr (5, mO q (nI (recN st)) ik ln sT fm bo bt)), ((q 0), aI G 86 w), ((q 2), aI G 344 (recP p z st))] 38 [(4, .int (nI k)), (3, .int (sumZ z 74 6)), (0, .ref h0), (1, .int x), (2, .int (nI nn))] [] := by
        intro k9
        induction k9 using Nat.strongRecOn with
        | _ k9 ihL =>
          intro k w hk9 hk hw
          subst hk9
          refine u_iload h dX5_draw_38 0 rfl rfl ?_
          refine u_iload_n h dX5_draw_40 rfl 4 rfl rfl ?_
          refine u_icmp_ge_N (a := k) (b := nn) (tgt := 101) h dX5_draw_41 (by decide) (by omega) (by omega) rfl (fun c3 => ?_) (fun c3 => ?_)
          · refine u_aload_n h dX5_draw_101 rfl 2 rfl rfl ?_
            refine u_bipush (v := 74) h dX5_draw_102 (by decide) rfl ?_
            refine u_callV h (As := [.int 74]) (wc := [(h0, .inr (5, mO q (nI (recN st)) ik ln sT fm bo bt)), ((q 0), aI G 86 w)]) (wr := [((q 2), aI G 344 (recP p z st))]) (kX5_sum G h0 (q 0) (mO q (nI (recN st)) ik ln sT fm bo bt) rfl w 74 (by omega)) cwX5_draw_X5_sum rfl rfl hR ⟨⟨rfl, rfl⟩, by decide, by decide⟩ ⟨Nat.le_of_ble_eq_true rfl, Nat.le_of_ble_eq_true rfl⟩ (ci := 5) (qr := 0) rfl rfl [0, 1] [2] rfl rfl rfl rfl (by decide) (Nat.le_of_ble_eq_true rfl) rfl dX5_draw_104 rfl (fun v9 u9 hp9 => ?_)
            obtain ⟨rfl, rfl⟩ := hp9
            refine u_wp (ws' := [(h0, .inr (5, mO q (nI (recN st)) ik ln sT fm bo bt)), ((q 0), aI G 86 w), ((q 2), aI G 344 (recP p z st))]) [1, 2, 0] rfl rfl ?_
            refine u_eqs (st' := [.int (sumZ w 74 6)]) rfl ?_
            refine u_iload_n h dX5_draw_107 rfl 1 rfl rfl ?_
            refine u_isub (v := ((sumZ w 74 6) - (sumZ z 74 6))) h dX5_draw_108 rfl rfl ?_
            exact u_iret h hRT dX5_draw_109 (by omega) (by omega) (by refine ⟨?_, ?_⟩ <;> simp [nxN, nxZ, nxP, okD, drawA, c1, c2, hw, ix_nI (show nn < 2 ^ 31 by omega), show k = nn by omega])
          · obtain ⟨hWk, v, hv, ev⟩ := hD.2 k (by omega)
            refine u_aload_n h dX5_draw_44 rfl 2 rfl rfl ?_
            refine u_get h flX5_draw_7 0 (v := .ref (q 0)) rfl rfl dX5_draw_45 rfl ?_
            refine u_bipush (v := 61) h dX5_draw_48 (by decide) rfl ?_
            refine u_aload_n h dX5_draw_50 rfl 2 rfl rfl ?_
            refine u_get h flX5_draw_7 0 (v := .ref (q 0)) rfl rfl dX5_draw_51 rfl ?_
            refine u_bipush (v := 61) h dX5_draw_54 (by decide) rfl ?_
            refine u_iald h (n := 61) 1 rfl (by omega) (by omega) dX5_draw_56 rfl ?_
            refine u_i2l h dX5_draw_57 rfl rfl ?_
            refine u_ldc2 (v := 1103515245) h dX5_draw_58 (by decide +kernel) rfl ?_
            refine u_lmul h dX5_draw_61 rfl rfl ?_
            refine u_ldc2 (v := 12345) h dX5_draw_62 (by decide +kernel) rfl ?_
            refine u_ladd h dX5_draw_65 rfl rfl ?_
            refine u_ldc2 (v := 2147483648) h dX5_draw_66 (by decide +kernel) rfl ?_
            refine u_lrem h dX5_draw_69 (by decide) rfl rfl ?_
            refine u_l2i h dX5_draw_70 rfl rfl ?_
            refine u_iast h (n := 61) (v := (((((((w 61)).toInt64) * (1103515245 : Int64)) + (12345 : Int64)) - (((((w 61)).toInt64) * (1103515245 : Int64)) + (12345 : Int64)) / (2147483648 : Int64) * (2147483648 : Int64)).toInt32)) 1 rfl (by omega) (by omega) rfl (ws' := [(h0, .inr (5, mO q (nI (recN st)) ik ln sT fm bo bt)), ((q 0), aI G 86 (upd w 61 (((((((w 61)).toInt64) * (1103515245 : Int64)) + (12345 : Int64)) - (((((w 61)).toInt64) * (1103515245 : Int64)) + (12345 : Int64)) / (2147483648 : Int64) * (2147483648 : Int64)).toInt32))), ((q 2), aI G 344 (recP p z st))]) rfl dX5_draw_71 rfl ?_
            refine u_eqw (ws' := [(h0, .inr (5, mO q (nI (recN st)) ik ln sT fm bo bt)), ((q 0), aI G 86 (upd w 61 (lcg (w 61)))), ((q 2), aI G 344 (recP p z st))]) rfl ?_
            refine u_aload_n h dX5_draw_72 rfl 2 rfl rfl ?_
            refine u_iload_n h dX5_draw_73 rfl 3 rfl rfl ?_
            refine u_aload_n h dX5_draw_74 rfl 2 rfl rfl ?_
            refine u_get h flX5_draw_7 0 (v := .ref (q 0)) rfl rfl dX5_draw_75 rfl ?_
            refine u_bipush (v := 61) h dX5_draw_78 (by decide) rfl ?_
            refine u_iald h (n := 61) 1 rfl (by omega) (by omega) dX5_draw_80 rfl ?_
            refine u_top (y := lcg (w 61)) pk_us ?_
            refine u_ldc (v := 65536) h dX5_draw_81 (by decide +kernel) rfl ?_
            refine u_idiv h dX5_draw_83 (by decide) rfl rfl ?_
            refine u_iload_n h dX5_draw_84 rfl 3 rfl rfl ?_
            refine u_callS h (As := [.int x]) (wc := []) (wr := [(h0, .inr (5, mO q (nI (recN st)) ik ln sT fm bo bt)), ((q 0), aI G 86 (upd w 61 (lcg (w 61)))), ((q 2), aI G 344 (recP p z st))]) (kX5_bits G x) cwX5_draw_X5_bits rfl rfl hR ⟨⟨rfl, rfl⟩, by decide, by decide⟩ ⟨Nat.le_of_ble_eq_true rfl, Nat.le_of_ble_eq_true rfl⟩ [] [0, 1, 2] rfl rfl rfl rfl (by decide) (Nat.le_of_ble_eq_true rfl) rfl dX5_draw_85 rfl (fun v9 u9 hp9 => ?_)
            obtain ⟨rfl, rfl⟩ := hp9
            refine u_wp (ws' := [(h0, .inr (5, mO q (nI (recN st)) ik ln sT fm bo bt)), ((q 0), aI G 86 (upd w 61 (lcg (w 61)))), ((q 2), aI G 344 (recP p z st))]) [0, 1, 2] rfl rfl ?_
            refine u_eqs (st' := [.int (bitsM x 6), .int ((lcg (w 61)) / 65536), .int x, .ref h0]) rfl ?_
            refine u_irem h dX5_draw_88 hD.1 rfl rfl ?_
            refine u_callS h (As := [.int x, .int (((lcg (w 61)) / 65536) - ((lcg (w 61)) / 65536) / (bitsM x 6) * (bitsM x 6))]) (wc := []) (wr := [(h0, .inr (5, mO q (nI (recN st)) ik ln sT fm bo bt)), ((q 0), aI G 86 (upd w 61 (lcg (w 61)))), ((q 2), aI G 344 (recP p z st))]) (kX5_pick G x (((lcg (w 61)) / 65536) - ((lcg (w 61)) / 65536) / (bitsM x 6) * (bitsM x 6))) cwX5_draw_X5_pick rfl rfl hR ⟨⟨rfl, rfl⟩, by decide, by decide⟩ ⟨Nat.le_of_ble_eq_true rfl, Nat.le_of_ble_eq_true rfl⟩ [] [0, 1, 2] rfl rfl rfl rfl (by decide) (Nat.le_of_ble_eq_true rfl) rfl dX5_draw_89 rfl (fun v9 u9 hp9 => ?_)
            obtain ⟨rfl, rfl⟩ := hp9
            refine u_wp (ws' := [(h0, .inr (5, mO q (nI (recN st)) ik ln sT fm bo bt)), ((q 0), aI G 86 (upd w 61 (lcg (w 61)))), ((q 2), aI G 344 (recP p z st))]) [0, 1, 2] rfl rfl ?_
            refine u_eqs (st' := [.int (pickM x (((lcg (w 61)) / 65536) - ((lcg (w 61)) / 65536) / (bitsM x 6) * (bitsM x 6)) 6), .ref h0]) rfl ?_
            have hWw : Wf (upd w 61 (lcg (w 61))) := (by rw [hw]; exact hWk.far (by omega) _)
            refine u_top (y := nI v) (by rw [hw]; exact ev) ?_
            refine u_callV h (As := [.int (nI v)]) (wc := [(h0, .inr (5, mO q (nI (recN st)) ik ln sT fm bo bt)), ((q 0), aI G 86 (upd w 61 (lcg (w 61))))]) (wr := [((q 2), aI G 344 (recP p z st))]) (kX5_makeStep G h0 (q 0) (mO q (nI (recN st)) ik ln sT fm bo bt) rfl (upd w 61 (lcg (w 61))) v hv hWw) cwX5_draw_X5_makeStep rfl rfl hR ⟨⟨rfl, rfl⟩, by decide, by decide⟩ ⟨Nat.le_of_ble_eq_true rfl, Nat.le_of_ble_eq_true rfl⟩ (ci := 5) (qr := 0) rfl rfl [0, 1] [2] rfl rfl rfl rfl (by decide) (Nat.le_of_ble_eq_true rfl) rfl dX5_draw_92 rfl (fun v9 u9 hp9 => ?_)
            obtain ⟨rfl, rfl⟩ := hp9
            refine u_wp (ws' := [(h0, .inr (5, mO q (nI (recN st)) ik ln sT fm bo bt)), ((q 0), aI G 86 (stM (upd w 61 (lcg (w 61))) v)), ((q 2), aI G 344 (recP p z st))]) [1, 2, 0] rfl rfl ?_
            refine u_eqs (st' := []) rfl ?_
            refine u_iinc (k := 0) (v := (nI (k + 1))) (lv' := [(4, .int (nI (k + 1))), (3, .int (sumZ z 74 6)), (0, .ref h0), (1, .int x), (2, .int (nI nn))]) h dX5_draw_95 rfl (nI_add k 1) (by rw [hL]; decide) rfl rfl ?_
            refine u_goto (tgt := 38) h dX5_draw_98 (by decide) ?_
            exact ihL _ (by omega) (k + 1) (stM (upd w 61 (lcg (w 61))) v) rfl (by omega) (by simp only [drZ]; rw [← hw, show lotM x (w 61) = nI v by rw [hw]; exact ev, ix_nI (by omega)])
      exact LL _ 0 z rfl (Nat.zero_le _) rfl
    · refine u_bipush (v := (-2)) h dX5_draw_21 (by decide) rfl ?_
      exact u_iret h hRT dX5_draw_23 (by omega) (by omega) (by first | (simp [nxN, nxZ, nxP, okD, drawA, c1, c2]; done) | (exfalso; simp_all; done) | (simp_all [nxN, nxZ, nxP, okD, drawA, c1, c2]; done))

theorem flX5_inLine_7 : FL wsX5_inLine RX5 7 5 0 := ⟨RX5, TX5, 18, rfl, by decide, by decide +kernel, by decide +kernel⟩
set_option maxHeartbeats 8000000 in
set_option maxRecDepth 100000 in
theorem kX5_inLine (G : Gx) (h0 qz : Nat) (fs : List Value) (hfz : fs[0]? = some (.ref qz)) (z : Zf) (x : Int32) (hW : Wf z) : MC G yX5_inLine wsX5_inLine ({ frames := 0, cells := 0, slots := 0, locals := 0 } : Room) [.ref h0, .int x] [(h0, .inr (5, fs)), (qz, aI G 86 z)] (fun v' u' => v' = some (.int (lineA z x)) ∧ u' = [(h0, .inr (5, fs)), (qz, aI G 86 z)]) 0 0 := by
  refine mc_of (cc := cX5_inLine) (maxL := 2) (ret := (some .int)) (by decide) rfl (Nat.le_of_ble_eq_true rfl) (fun X h hR hL hRT => ?_)
  refine u_eql (lv' := [(0, .ref h0), (1, .int x)]) rfl ?_
  refine u_iload_n h dX5_inLine_0 rfl 1 rfl rfl ?_
  refine u_if_ge (tgt := 7) h dX5_inLine_1 (by decide) rfl (fun c1 => ?_) (fun c1 => ?_)
  · obtain ⟨m, hm, h53⟩ := hW.m
    obtain ⟨j, hj, rfl⟩ := nI_of (x := x) (Int32.not_lt.mpr c1)
    refine u_iload_n h dX5_inLine_7 rfl 1 rfl rfl ?_
    refine u_aload_n h dX5_inLine_8 rfl 0 rfl rfl ?_
    refine u_get h flX5_inLine_7 0 (v := .ref qz) rfl hfz dX5_inLine_9 rfl ?_
    refine u_bipush (v := 53) h dX5_inLine_12 (by decide) rfl ?_
    refine u_iald h (n := 53) 1 rfl (by omega) (by omega) dX5_inLine_14 rfl ?_
    refine u_top (y := nI m) (h53) ?_
    refine u_icmp_ge_N (a := j) (b := m) (tgt := 30) h dX5_inLine_15 (by decide) (by omega) (by omega) rfl (fun c2 => ?_) (fun c2 => ?_)
    · refine u_bipush (v := (-5)) h dX5_inLine_30 (by decide) rfl ?_
      exact u_iret h hRT dX5_inLine_32 (by omega) (by omega) (by first | (simp [lineA, c1, Int32.not_lt.mpr c1, c2, h53, ix_nI (show j < 2 ^ 31 by omega), nI_ltI (show j < 2 ^ 31 by omega) (show m < 2 ^ 31 by omega), show (¬ j < m) by omega, show ¬ nI j < 0 from Int32.not_lt.mpr c1]; done) | (exfalso; simp_all; done) | (simp_all [lineA, c1, Int32.not_lt.mpr c1, c2, h53, ix_nI (show j < 2 ^ 31 by omega), nI_ltI (show j < 2 ^ 31 by omega) (show m < 2 ^ 31 by omega), show (¬ j < m) by omega, show ¬ nI j < 0 from Int32.not_lt.mpr c1]; done))
    · refine u_aload_n h dX5_inLine_18 rfl 0 rfl rfl ?_
      refine u_get h flX5_inLine_7 0 (v := .ref qz) rfl hfz dX5_inLine_19 rfl ?_
      refine u_bipush (v := 54) h dX5_inLine_22 (by decide) rfl ?_
      refine u_iload_n h dX5_inLine_24 rfl 1 rfl rfl ?_
      refine u_iadd (v := (nI (54 + j))) h dX5_inLine_25 (nI_add 54 j) rfl ?_
      refine u_iald h (n := (54 + j)) 1 rfl (by omega) (by omega) dX5_inLine_26 rfl ?_
      refine u_goto (tgt := 32) h dX5_inLine_27 (by decide) ?_
      exact u_iret h hRT dX5_inLine_32 (by omega) (by omega) (by first | (simp [lineA, c1, Int32.not_lt.mpr c1, c2, h53, ix_nI (show j < 2 ^ 31 by omega), nI_ltI (show j < 2 ^ 31 by omega) (show m < 2 ^ 31 by omega), show (j < m) by omega, show ¬ nI j < 0 from Int32.not_lt.mpr c1]; done) | (exfalso; simp_all; done) | (simp_all [lineA, c1, Int32.not_lt.mpr c1, c2, h53, ix_nI (show j < 2 ^ 31 by omega), nI_ltI (show j < 2 ^ 31 by omega) (show m < 2 ^ 31 by omega), show (j < m) by omega, show ¬ nI j < 0 from Int32.not_lt.mpr c1]; done))
  · refine u_bipush (v := (-2)) h dX5_inLine_4 (by decide) rfl ?_
    exact u_iret h hRT dX5_inLine_6 (by omega) (by omega) (by first | (simp [lineA, c1, Int32.not_le.mp c1]; done) | (exfalso; simp_all; done) | (simp_all [lineA, c1, Int32.not_le.mp c1]; done))

theorem flX5_card_7 : FL wsX5_card RX5 7 5 0 := ⟨RX5, TX5, 18, rfl, by decide, by decide +kernel, by decide +kernel⟩
set_option maxRecDepth 20000 in
theorem cwX5_card_X5_in : CWd wsX5_card (wsS RX5 47 yX5_in wsX5_in) yX5_in wsX5_in cX5_in 3 (some .boolean) 3 := ⟨gX5_card_X5_in, ⟨_, rfl⟩, by decide +kernel, by decide, by decide⟩
set_option maxHeartbeats 8000000 in
set_option maxRecDepth 100000 in
theorem kX5_card (G : Gx) (h0 qz : Nat) (fs : List Value) (hfz : fs[0]? = some (.ref qz)) (z : Zf) (x : Int32) : MC G yX5_card wsX5_card ({ frames := 1, cells := 0, slots := 0, locals := 22 } : Room) [.ref h0, .int x] [(h0, .inr (5, fs)), (qz, aI G 86 z)] (fun v' u' => v' = some (.int (cardA z x)) ∧ u' = [(h0, .inr (5, fs)), (qz, aI G 86 z)]) 0 0 := by
  refine mc_of (cc := cX5_card) (maxL := 2) (ret := (some .int)) (by decide) rfl (Nat.le_of_ble_eq_true rfl) (fun X h hR hL hRT => ?_)
  refine u_eql (lv' := [(0, .ref h0), (1, .int x)]) rfl ?_
  refine u_iload_n h dX5_card_0 rfl 1 rfl rfl ?_
  refine u_iconst (v := 0) h dX5_card_1 (by decide) rfl ?_
  refine u_bipush (v := 6) h dX5_card_2 (by decide) rfl ?_
  refine u_callS h (As := [.int x, .int 0, .int 6]) (wc := []) (wr := [(h0, .inr (5, fs)), (qz, aI G 86 z)]) (kX5_in G x 0 6) cwX5_card_X5_in rfl rfl hR ⟨⟨rfl, rfl⟩, by decide, by decide⟩ ⟨Nat.le_of_ble_eq_true rfl, Nat.le_of_ble_eq_true rfl⟩ [] [0, 1] rfl rfl rfl rfl (by decide) (Nat.le_of_ble_eq_true rfl) rfl dX5_card_4 rfl (fun v9 u9 hp9 => ?_)
  obtain ⟨rfl, rfl⟩ := hp9
  refine u_wp (ws' := [(h0, .inr (5, fs)), (qz, aI G 86 z)]) [0, 1] rfl rfl ?_
  refine u_eqs (st' := [.int (bI (inB x 0 6))]) rfl ?_
  refine u_if_ne_B (tgt := 12) h dX5_card_7 (by decide) rfl (fun c1 => ?_) (fun c1 => ?_)
  · obtain ⟨c, hc, rfl⟩ : ∃ j : Nat, j ≤ 6 ∧ x = nI j := nI_of2 (M := 6) (by decide) (fun q9 => by have h9 := c1; simp [inB] at h9; exact absurd h9.1 (Int32.not_le.mpr q9)) (by have h9 := c1; simp [inB] at h9; exact h9.2)
    refine u_aload_n h dX5_card_12 rfl 0 rfl rfl ?_
    refine u_get h flX5_card_7 0 (v := .ref qz) rfl hfz dX5_card_13 rfl ?_
    refine u_bipush (v := 60) h dX5_card_16 (by decide) rfl ?_
    refine u_iald h (n := 60) 1 rfl (by omega) (by omega) dX5_card_18 rfl ?_
    refine u_iconst (v := 1) h dX5_card_19 (by decide) rfl ?_
    refine u_icmp_ne (tgt := 35) h dX5_card_20 (by decide) rfl (fun c2 => ?_) (fun c2 => ?_)
    · refine u_bipush (v := (-5)) h dX5_card_35 (by decide) rfl ?_
      exact u_iret h hRT dX5_card_37 (by omega) (by omega) (by first | (simp [cardA, c1, c2, ix_nI (show c < 2 ^ 31 by omega)]; done) | (exfalso; simp_all; done) | (simp_all [cardA, c1, c2, ix_nI (show c < 2 ^ 31 by omega)]; done))
    · refine u_aload_n h dX5_card_23 rfl 0 rfl rfl ?_
      refine u_get h flX5_card_7 0 (v := .ref qz) rfl hfz dX5_card_24 rfl ?_
      refine u_bipush (v := 42) h dX5_card_27 (by decide) rfl ?_
      refine u_iload_n h dX5_card_29 rfl 1 rfl rfl ?_
      refine u_iadd (v := (nI (42 + c))) h dX5_card_30 (nI_add 42 c) rfl ?_
      refine u_iald h (n := (42 + c)) 1 rfl (by omega) (by omega) dX5_card_31 rfl ?_
      refine u_goto (tgt := 37) h dX5_card_32 (by decide) ?_
      exact u_iret h hRT dX5_card_37 (by omega) (by omega) (by first | (simp [cardA, c1, c2, ix_nI (show c < 2 ^ 31 by omega)]; done) | (exfalso; simp_all; done) | (simp_all [cardA, c1, c2, ix_nI (show c < 2 ^ 31 by omega)]; done))
  · refine u_iconst (v := (-1)) h dX5_card_10 (by decide) rfl ?_
    exact u_iret h hRT dX5_card_11 (by omega) (by omega) (by first | (simp [cardA, c1]; done) | (exfalso; simp_all; done) | (simp_all [cardA, c1]; done))

set_option maxRecDepth 20000 in
theorem cwX5_wouldLook_X5_isVisitor : CWd wsX5_wouldLook (wsS RX5 100 yX5_isVisitor wsX5_isVisitor) yX5_isVisitor wsX5_isVisitor cX5_isVisitor 1 (some .boolean) 1 := ⟨gX5_wouldLook_X5_isVisitor, ⟨_, rfl⟩, by decide +kernel, by decide, by decide⟩
set_option maxRecDepth 20000 in
theorem cwX5_wouldLook_X5_isLook : CWd wsX5_wouldLook (wsV RX5 86 RX5 yX5_isLook wsX5_isLook) yX5_isLook wsX5_isLook cX5_isLook 3 (some .boolean) 1 := ⟨gX5_wouldLook_X5_isLook, ⟨_, rfl⟩, by decide +kernel, by decide, by decide⟩
set_option maxHeartbeats 8000000 in
set_option maxRecDepth 100000 in
theorem kX5_wouldLook (G : Gx) (h0 qz : Nat) (fs : List Value) (hfz : fs[0]? = some (.ref qz)) (z : Zf) (x : Int32) (hW : Wf z) : MC G yX5_wouldLook wsX5_wouldLook ({ frames := 2, cells := 0, slots := 0, locals := 42 } : Room) [.ref h0, .int x] [(h0, .inr (5, fs)), (qz, aI G 86 z)] (fun v' u' => v' = some (.int (lookA z x)) ∧ u' = [(h0, .inr (5, fs)), (qz, aI G 86 z)]) 0 0 := by
  refine mc_of (cc := cX5_wouldLook) (maxL := 2) (ret := (some .int)) (by decide) rfl (Nat.le_of_ble_eq_true rfl) (fun X h hR hL hRT => ?_)
  refine u_eql (lv' := [(0, .ref h0), (1, .int x)]) rfl ?_
  refine u_iload_n h dX5_wouldLook_0 rfl 1 rfl rfl ?_
  refine u_callS h (As := [.int x]) (wc := []) (wr := [(h0, .inr (5, fs)), (qz, aI G 86 z)]) (kX5_isVisitor G x) cwX5_wouldLook_X5_isVisitor rfl rfl hR ⟨⟨rfl, rfl⟩, by decide, by decide⟩ ⟨Nat.le_of_ble_eq_true rfl, Nat.le_of_ble_eq_true rfl⟩ [] [0, 1] rfl rfl rfl rfl (by decide) (Nat.le_of_ble_eq_true rfl) rfl dX5_wouldLook_1 rfl (fun v9 u9 hp9 => ?_)
  obtain ⟨rfl, rfl⟩ := hp9
  refine u_wp (ws' := [(h0, .inr (5, fs)), (qz, aI G 86 z)]) [0, 1] rfl rfl ?_
  refine u_eqs (st' := [.int (bI (isV x))]) rfl ?_
  refine u_if_ne_B (tgt := 11) h dX5_wouldLook_4 (by decide) rfl (fun c1 => ?_) (fun c1 => ?_)
  · obtain ⟨v, hv, rfl⟩ := isV_nat c1
    refine u_aload_n h dX5_wouldLook_11 rfl 0 rfl rfl ?_
    refine u_iload_n h dX5_wouldLook_12 rfl 1 rfl rfl ?_
    refine u_callV h (As := [.int (nI v)]) (wc := [(h0, .inr (5, fs)), (qz, aI G 86 z)]) (wr := []) (kX5_isLook G h0 qz fs hfz z v hv hW) cwX5_wouldLook_X5_isLook rfl rfl hR ⟨⟨rfl, rfl⟩, by decide, by decide⟩ ⟨Nat.le_of_ble_eq_true rfl, Nat.le_of_ble_eq_true rfl⟩ (ci := 5) (qr := 0) rfl rfl [0, 1] [] rfl rfl rfl rfl (by decide) (Nat.le_of_ble_eq_true rfl) rfl dX5_wouldLook_13 rfl (fun v9 u9 hp9 => ?_)
    obtain ⟨rfl, rfl⟩ := hp9
    refine u_wp (ws' := [(h0, .inr (5, fs)), (qz, aI G 86 z)]) [0, 1] rfl rfl ?_
    refine u_eqs (st' := [.int (bI (isLook z v))]) rfl ?_
    refine u_if_eq_B (tgt := 23) h dX5_wouldLook_16 (by decide) rfl (fun c2 => ?_) (fun c2 => ?_)
    · refine u_iconst (v := 0) h dX5_wouldLook_23 (by decide) rfl ?_
      exact u_iret h hRT dX5_wouldLook_24 (by omega) (by omega) (by first | (simp [lookA, bI, c1, c2, isV_nI hv, ix_nI (show v < 2 ^ 31 by omega)]; done) | (exfalso; simp_all; done) | (simp_all [lookA, bI, c1, c2, isV_nI hv, ix_nI (show v < 2 ^ 31 by omega)]; done))
    · refine u_iconst (v := 1) h dX5_wouldLook_19 (by decide) rfl ?_
      refine u_goto (tgt := 24) h dX5_wouldLook_20 (by decide) ?_
      exact u_iret h hRT dX5_wouldLook_24 (by omega) (by omega) (by first | (simp [lookA, bI, c1, c2, isV_nI hv, ix_nI (show v < 2 ^ 31 by omega)]; done) | (exfalso; simp_all; done) | (simp_all [lookA, bI, c1, c2, isV_nI hv, ix_nI (show v < 2 ^ 31 by omega)]; done))
  · refine u_iconst (v := (-1)) h dX5_wouldLook_7 (by decide) rfl ?_
    refine u_goto (tgt := 24) h dX5_wouldLook_8 (by decide) ?_
    exact u_iret h hRT dX5_wouldLook_24 (by omega) (by omega) (by first | (simp [lookA, bI, c1]; done) | (exfalso; simp_all; done) | (simp_all [lookA, bI, c1]; done))

theorem flX5_wouldTouch_7 : FL wsX5_wouldTouch RX5 7 5 0 := ⟨RX5, TX5, 18, rfl, by decide, by decide +kernel, by decide +kernel⟩
set_option maxRecDepth 20000 in
theorem cwX5_wouldTouch_X5_isVisitor : CWd wsX5_wouldTouch (wsS RX5 100 yX5_isVisitor wsX5_isVisitor) yX5_isVisitor wsX5_isVisitor cX5_isVisitor 1 (some .boolean) 1 := ⟨gX5_wouldTouch_X5_isVisitor, ⟨_, rfl⟩, by decide +kernel, by decide, by decide⟩
set_option maxRecDepth 20000 in
theorem cwX5_wouldTouch_X5_cost : CWd wsX5_wouldTouch (wsS RX5 90 yX5_cost wsX5_cost) yX5_cost wsX5_cost cX5_cost 2 (some .int) 2 := ⟨gX5_wouldTouch_X5_cost, ⟨_, rfl⟩, by decide +kernel, by decide, by decide⟩
set_option maxHeartbeats 8000000 in
set_option maxRecDepth 100000 in
theorem kX5_wouldTouch (G : Gx) (h0 qz : Nat) (fs : List Value) (hfz : fs[0]? = some (.ref qz)) (z : Zf) (x : Int32) : MC G yX5_wouldTouch wsX5_wouldTouch ({ frames := 2, cells := 0, slots := 0, locals := 42 } : Room) [.ref h0, .int x] [(h0, .inr (5, fs)), (qz, aI G 86 z)] (fun v' u' => v' = some (.int (touchA z x)) ∧ u' = [(h0, .inr (5, fs)), (qz, aI G 86 z)]) 0 0 := by
  refine mc_of (cc := cX5_wouldTouch) (maxL := 2) (ret := (some .int)) (by decide) rfl (Nat.le_of_ble_eq_true rfl) (fun X h hR hL hRT => ?_)
  refine u_eql (lv' := [(0, .ref h0), (1, .int x)]) rfl ?_
  refine u_iload_n h dX5_wouldTouch_0 rfl 1 rfl rfl ?_
  refine u_callS h (As := [.int x]) (wc := []) (wr := [(h0, .inr (5, fs)), (qz, aI G 86 z)]) (kX5_isVisitor G x) cwX5_wouldTouch_X5_isVisitor rfl rfl hR ⟨⟨rfl, rfl⟩, by decide, by decide⟩ ⟨Nat.le_of_ble_eq_true rfl, Nat.le_of_ble_eq_true rfl⟩ [] [0, 1] rfl rfl rfl rfl (by decide) (Nat.le_of_ble_eq_true rfl) rfl dX5_wouldTouch_1 rfl (fun v9 u9 hp9 => ?_)
  obtain ⟨rfl, rfl⟩ := hp9
  refine u_wp (ws' := [(h0, .inr (5, fs)), (qz, aI G 86 z)]) [0, 1] rfl rfl ?_
  refine u_eqs (st' := [.int (bI (isV x))]) rfl ?_
  refine u_if_eq_B (tgt := 28) h dX5_wouldTouch_4 (by decide) rfl (fun c1 => ?_) (fun c1 => ?_)
  · refine u_iconst (v := (-1)) h dX5_wouldTouch_28 (by decide) rfl ?_
    exact u_iret h hRT dX5_wouldTouch_29 (by omega) (by omega) (by first | (simp [touchA, c1]; done) | (exfalso; simp_all; done) | (simp_all [touchA, c1]; done))
  · obtain ⟨v, hv, rfl⟩ := isV_nat c1
    refine u_aload_n h dX5_wouldTouch_7 rfl 0 rfl rfl ?_
    refine u_get h flX5_wouldTouch_7 0 (v := .ref qz) rfl hfz dX5_wouldTouch_8 rfl ?_
    refine u_bipush (v := 60) h dX5_wouldTouch_11 (by decide) rfl ?_
    refine u_iald h (n := 60) 1 rfl (by omega) (by omega) dX5_wouldTouch_13 rfl ?_
    refine u_aload_n h dX5_wouldTouch_14 rfl 0 rfl rfl ?_
    refine u_get h flX5_wouldTouch_7 0 (v := .ref qz) rfl hfz dX5_wouldTouch_15 rfl ?_
    refine u_iconst (v := 0) h dX5_wouldTouch_18 (by decide) rfl ?_
    refine u_iload_n h dX5_wouldTouch_19 rfl 1 rfl rfl ?_
    refine u_iadd (v := (nI v)) h dX5_wouldTouch_20 (by have h9 := nI_add 0 v; rw [Nat.zero_add] at h9; exact h9) rfl ?_
    refine u_iald h (n := v) 1 rfl (by omega) (by omega) dX5_wouldTouch_21 rfl ?_
    refine u_callS h (As := [.int (z 60), .int (z v)]) (wc := []) (wr := [(h0, .inr (5, fs)), (qz, aI G 86 z)]) (kX5_cost G (z 60) (z v)) cwX5_wouldTouch_X5_cost rfl rfl hR ⟨⟨rfl, rfl⟩, by decide, by decide⟩ ⟨Nat.le_of_ble_eq_true rfl, Nat.le_of_ble_eq_true rfl⟩ [] [0, 1] rfl rfl rfl rfl (by decide) (Nat.le_of_ble_eq_true rfl) rfl dX5_wouldTouch_22 rfl (fun v9 u9 hp9 => ?_)
    obtain ⟨rfl, rfl⟩ := hp9
    refine u_wp (ws' := [(h0, .inr (5, fs)), (qz, aI G 86 z)]) [0, 1] rfl rfl ?_
    refine u_eqs (st' := [.int (costM (z 60) (z v))]) rfl ?_
    refine u_goto (tgt := 29) h dX5_wouldTouch_25 (by decide) ?_
    exact u_iret h hRT dX5_wouldTouch_29 (by omega) (by omega) (by first | (simp [touchA, c1, isV_nI hv, ix_nI (show v < 2 ^ 31 by omega)]; done) | (exfalso; simp_all; done) | (simp_all [touchA, c1, isV_nI hv, ix_nI (show v < 2 ^ 31 by omega)]; done))

theorem flX5_visitor_7 : FL wsX5_visitor RX5 7 5 0 := ⟨RX5, TX5, 18, rfl, by decide, by decide +kernel, by decide +kernel⟩
set_option maxRecDepth 20000 in
theorem cwX5_visitor_X5_isVisitor : CWd wsX5_visitor (wsS RX5 100 yX5_isVisitor wsX5_isVisitor) yX5_isVisitor wsX5_isVisitor cX5_isVisitor 1 (some .boolean) 1 := ⟨gX5_visitor_X5_isVisitor, ⟨_, rfl⟩, by decide +kernel, by decide, by decide⟩
set_option maxRecDepth 20000 in
theorem cwX5_visitor_X5_in : CWd wsX5_visitor (wsS RX5 47 yX5_in wsX5_in) yX5_in wsX5_in cX5_in 3 (some .boolean) 3 := ⟨gX5_visitor_X5_in, ⟨_, rfl⟩, by decide +kernel, by decide, by decide⟩
set_option maxRecDepth 20000 in
theorem cwX5_visitor_X5_placeOf : CWd wsX5_visitor (wsV RX5 82 RX5 yX5_placeOf wsX5_placeOf) yX5_placeOf wsX5_placeOf cX5_placeOf 4 (some .int) 1 := ⟨gX5_visitor_X5_placeOf, ⟨_, rfl⟩, by decide +kernel, by decide, by decide⟩
set_option maxHeartbeats 8000000 in
set_option maxRecDepth 100000 in
theorem kX5_visitor (G : Gx) (h0 qz : Nat) (fs : List Value) (hfz : fs[0]? = some (.ref qz)) (z : Zf) (x w : Int32) (hW : Wf z) : MC G yX5_visitor wsX5_visitor ({ frames := 2, cells := 0, slots := 0, locals := 42 } : Room) [.ref h0, .int x, .int w] [(h0, .inr (5, fs)), (qz, aI G 86 z)] (fun v' u' => v' = some (.int (visA z x w)) ∧ u' = [(h0, .inr (5, fs)), (qz, aI G 86 z)]) 0 0 := by
  refine mc_of (cc := cX5_visitor) (maxL := 5) (ret := (some .int)) (by decide) rfl (Nat.le_of_ble_eq_true rfl) (fun X h hR hL hRT => ?_)
  refine u_eql (lv' := [(0, .ref h0), (1, .int x), (2, .int w)]) rfl ?_
  refine u_iload_n h dX5_visitor_0 rfl 1 rfl rfl ?_
  refine u_callS h (As := [.int x]) (wc := []) (wr := [(h0, .inr (5, fs)), (qz, aI G 86 z)]) (kX5_isVisitor G x) cwX5_visitor_X5_isVisitor rfl rfl hR ⟨⟨rfl, rfl⟩, by decide, by decide⟩ ⟨Nat.le_of_ble_eq_true rfl, Nat.le_of_ble_eq_true rfl⟩ [] [0, 1] rfl rfl rfl rfl (by decide) (Nat.le_of_ble_eq_true rfl) rfl dX5_visitor_1 rfl (fun v9 u9 hp9 => ?_)
  obtain ⟨rfl, rfl⟩ := hp9
  refine u_wp (ws' := [(h0, .inr (5, fs)), (qz, aI G 86 z)]) [0, 1] rfl rfl ?_
  refine u_eqs (st' := [.int (bI (isV x))]) rfl ?_
  refine u_if_ne_B (tgt := 9) h dX5_visitor_4 (by decide) rfl (fun c1 => ?_) (fun c1 => ?_)
  · obtain ⟨v, hv, rfl⟩ := isV_nat c1
    refine u_aload_n h dX5_visitor_9 rfl 0 rfl rfl ?_
    refine u_get h flX5_visitor_7 0 (v := .ref qz) rfl hfz dX5_visitor_10 rfl ?_
    refine u_bipush (v := 60) h dX5_visitor_13 (by decide) rfl ?_
    refine u_iald h (n := 60) 1 rfl (by omega) (by omega) dX5_visitor_15 rfl ?_
    refine u_istore_n (lv' := [(3, .int (z 60)), (0, .ref h0), (1, .int (nI v)), (2, .int w)]) h dX5_visitor_16 rfl (by rw [hL]; decide) rfl rfl ?_
    refine u_aload_n h dX5_visitor_17 rfl 1 rfl rfl ?_
    refine u_get h flX5_visitor_7 0 (v := .ref qz) rfl hfz dX5_visitor_18 rfl ?_
    refine u_iconst (v := 0) h dX5_visitor_21 (by decide) rfl ?_
    refine u_iload_n h dX5_visitor_22 rfl 2 rfl rfl ?_
    refine u_iadd (v := (nI v)) h dX5_visitor_23 (by have h9 := nI_add 0 v; rw [Nat.zero_add] at h9; exact h9) rfl ?_
    refine u_iald h (n := v) 1 rfl (by omega) (by omega) dX5_visitor_24 rfl ?_
    refine u_istore (lv' := [(4, .int (z v)), (3, .int (z 60)), (0, .ref h0), (1, .int (nI v)), (2, .int w)]) h dX5_visitor_25 (by rw [hL]; decide) rfl rfl ?_
    refine u_iload_n h dX5_visitor_27 rfl 4 rfl rfl ?_
    by_cases k2 : w = 0
    · refine u_tableIn (off := 60) (tgt := 88) h dX5_visitor_28 (by rw [k2]; decide) (by rw [k2]; decide) (by rw [k2]; rfl) (by decide) ?_
      refine u_iload h dX5_visitor_88 0 rfl rfl ?_
      exact u_iret h hRT dX5_visitor_90 (by omega) (by omega) (by first | (simp [visA, c1, k2, isV_nI hv, ix_nI (show v < 2 ^ 31 by omega)]; done) | (exfalso; simp_all; done) | (simp_all [visA, c1, k2, isV_nI hv, ix_nI (show v < 2 ^ 31 by omega)]; done))
    by_cases k3 : w = 1
    · refine u_tableIn (off := 63) (tgt := 91) h dX5_visitor_28 (by rw [k3]; decide) (by rw [k3]; decide) (by rw [k3]; rfl) (by decide) ?_
      refine u_aload_n h dX5_visitor_91 rfl 2 rfl rfl ?_
      refine u_get h flX5_visitor_7 0 (v := .ref qz) rfl hfz dX5_visitor_92 rfl ?_
      refine u_bipush (v := 62) h dX5_visitor_95 (by decide) rfl ?_
      refine u_iload_n h dX5_visitor_97 rfl 3 rfl rfl ?_
      refine u_iadd (v := (nI (62 + v))) h dX5_visitor_98 (nI_add 62 v) rfl ?_
      refine u_iald h (n := (62 + v)) 1 rfl (by omega) (by omega) dX5_visitor_99 rfl ?_
      exact u_iret h hRT dX5_visitor_100 (by omega) (by omega) (by first | (simp [visA, c1, k3, isV_nI hv, ix_nI (show v < 2 ^ 31 by omega)]; done) | (exfalso; simp_all; done) | (simp_all [visA, c1, k3, isV_nI hv, ix_nI (show v < 2 ^ 31 by omega)]; done))
    by_cases k4 : w = 2
    · refine u_tableIn (off := 73) (tgt := 101) h dX5_visitor_28 (by rw [k4]; decide) (by rw [k4]; decide) (by rw [k4]; rfl) (by decide) ?_
      refine u_aload_n h dX5_visitor_101 rfl 2 rfl rfl ?_
      refine u_get h flX5_visitor_7 0 (v := .ref qz) rfl hfz dX5_visitor_102 rfl ?_
      refine u_bipush (v := 68) h dX5_visitor_105 (by decide) rfl ?_
      refine u_iload_n h dX5_visitor_107 rfl 3 rfl rfl ?_
      refine u_iadd (v := (nI (68 + v))) h dX5_visitor_108 (nI_add 68 v) rfl ?_
      refine u_iald h (n := (68 + v)) 1 rfl (by omega) (by omega) dX5_visitor_109 rfl ?_
      exact u_iret h hRT dX5_visitor_110 (by omega) (by omega) (by first | (simp [visA, c1, k4, isV_nI hv, ix_nI (show v < 2 ^ 31 by omega)]; done) | (exfalso; simp_all; done) | (simp_all [visA, c1, k4, isV_nI hv, ix_nI (show v < 2 ^ 31 by omega)]; done))
    by_cases k5 : w = 3
    · refine u_tableIn (off := 83) (tgt := 111) h dX5_visitor_28 (by rw [k5]; decide) (by rw [k5]; decide) (by rw [k5]; rfl) (by decide) ?_
      refine u_aload_n h dX5_visitor_111 rfl 2 rfl rfl ?_
      refine u_get h flX5_visitor_7 0 (v := .ref qz) rfl hfz dX5_visitor_112 rfl ?_
      refine u_bipush (v := 74) h dX5_visitor_115 (by decide) rfl ?_
      refine u_iload_n h dX5_visitor_117 rfl 3 rfl rfl ?_
      refine u_iadd (v := (nI (74 + v))) h dX5_visitor_118 (nI_add 74 v) rfl ?_
      refine u_iald h (n := (74 + v)) 1 rfl (by omega) (by omega) dX5_visitor_119 rfl ?_
      exact u_iret h hRT dX5_visitor_120 (by omega) (by omega) (by first | (simp [visA, c1, k5, isV_nI hv, ix_nI (show v < 2 ^ 31 by omega)]; done) | (exfalso; simp_all; done) | (simp_all [visA, c1, k5, isV_nI hv, ix_nI (show v < 2 ^ 31 by omega)]; done))
    by_cases k6 : w = 4
    · refine u_tableIn (off := 93) (tgt := 121) h dX5_visitor_28 (by rw [k6]; decide) (by rw [k6]; decide) (by rw [k6]; rfl) (by decide) ?_
      refine u_aload_n h dX5_visitor_121 rfl 2 rfl rfl ?_
      refine u_get h flX5_visitor_7 0 (v := .ref qz) rfl hfz dX5_visitor_122 rfl ?_
      refine u_bipush (v := 80) h dX5_visitor_125 (by decide) rfl ?_
      refine u_iload_n h dX5_visitor_127 rfl 3 rfl rfl ?_
      refine u_iadd (v := (nI (80 + v))) h dX5_visitor_128 (nI_add 80 v) rfl ?_
      refine u_iald h (n := (80 + v)) 1 rfl (by omega) (by omega) dX5_visitor_129 rfl ?_
      exact u_iret h hRT dX5_visitor_130 (by omega) (by omega) (by first | (simp [visA, c1, k6, isV_nI hv, ix_nI (show v < 2 ^ 31 by omega)]; done) | (exfalso; simp_all; done) | (simp_all [visA, c1, k6, isV_nI hv, ix_nI (show v < 2 ^ 31 by omega)]; done))
    by_cases k7 : w = 5
    · refine u_tableIn (off := 103) (tgt := 131) h dX5_visitor_28 (by rw [k7]; decide) (by rw [k7]; decide) (by rw [k7]; rfl) (by decide) ?_
      refine u_iload_n h dX5_visitor_131 rfl 1 rfl rfl ?_
      refine u_if_ne (tgt := 148) h dX5_visitor_132 (by decide) rfl (fun c8 => ?_) (fun c8 => ?_)
      · refine u_bipush (v := (-5)) h dX5_visitor_148 (by decide) rfl ?_
        refine u_goto (tgt := 162) h dX5_visitor_150 (by decide) ?_
        exact u_iret h hRT dX5_visitor_162 (by omega) (by omega) (by first | (simp [visA, c1, k7, c8, isV_nI hv, ix_nI (show v < 2 ^ 31 by omega)]; done) | (exfalso; simp_all; done) | (simp_all [visA, c1, k7, c8, isV_nI hv, ix_nI (show v < 2 ^ 31 by omega)]; done))
      · refine u_aload_n h dX5_visitor_135 rfl 2 rfl rfl ?_
        refine u_get h flX5_visitor_7 0 (v := .ref qz) rfl hfz dX5_visitor_136 rfl ?_
        refine u_bipush (v := 6) h dX5_visitor_139 (by decide) rfl ?_
        refine u_iload_n h dX5_visitor_141 rfl 3 rfl rfl ?_
        refine u_iadd (v := (nI (6 + v))) h dX5_visitor_142 (nI_add 6 v) rfl ?_
        refine u_iald h (n := (6 + v)) 1 rfl (by omega) (by omega) dX5_visitor_143 rfl ?_
        refine u_iconst (v := (-1)) h dX5_visitor_144 (by decide) rfl ?_
        refine u_icmp_ne (tgt := 153) h dX5_visitor_145 (by decide) rfl (fun c9 => ?_) (fun c9 => ?_)
        · refine u_aload_n h dX5_visitor_153 rfl 2 rfl rfl ?_
          refine u_get h flX5_visitor_7 0 (v := .ref qz) rfl hfz dX5_visitor_154 rfl ?_
          refine u_bipush (v := 6) h dX5_visitor_157 (by decide) rfl ?_
          refine u_iload_n h dX5_visitor_159 rfl 3 rfl rfl ?_
          refine u_iadd (v := (nI (6 + v))) h dX5_visitor_160 (nI_add 6 v) rfl ?_
          refine u_iald h (n := (6 + v)) 1 rfl (by omega) (by omega) dX5_visitor_161 rfl ?_
          exact u_iret h hRT dX5_visitor_162 (by omega) (by omega) (by first | (simp [visA, c1, k7, c8, c9, isV_nI hv, ix_nI (show v < 2 ^ 31 by omega)]; done) | (exfalso; simp_all; done) | (simp_all [visA, c1, k7, c8, c9, isV_nI hv, ix_nI (show v < 2 ^ 31 by omega)]; done))
        · refine u_bipush (v := (-5)) h dX5_visitor_148 (by decide) rfl ?_
          refine u_goto (tgt := 162) h dX5_visitor_150 (by decide) ?_
          exact u_iret h hRT dX5_visitor_162 (by omega) (by omega) (by first | (simp [visA, c1, k7, c8, c9, isV_nI hv, ix_nI (show v < 2 ^ 31 by omega)]; done) | (exfalso; simp_all; done) | (simp_all [visA, c1, k7, c8, c9, isV_nI hv, ix_nI (show v < 2 ^ 31 by omega)]; done))
    by_cases k10 : w = 6
    · refine u_tableIn (off := 135) (tgt := 163) h dX5_visitor_28 (by rw [k10]; decide) (by rw [k10]; decide) (by rw [k10]; rfl) (by decide) ?_
      refine u_iload_n h dX5_visitor_163 rfl 1 rfl rfl ?_
      refine u_if_ne (tgt := 189) h dX5_visitor_164 (by decide) rfl (fun c11 => ?_) (fun c11 => ?_)
      · refine u_iload_n h dX5_visitor_189 rfl 1 rfl rfl ?_
        refine u_iconst (v := 1) h dX5_visitor_190 (by decide) rfl ?_
        refine u_icmp_ne (tgt := 212) h dX5_visitor_191 (by decide) rfl (fun c12 => ?_) (fun c12 => ?_)
        · refine u_bipush (v := (-5)) h dX5_visitor_212 (by decide) rfl ?_
          exact u_iret h hRT dX5_visitor_214 (by omega) (by omega) (by first | (simp [visA, c1, k10, c11, c12, isV_nI hv, ix_nI (show v < 2 ^ 31 by omega)]; done) | (exfalso; simp_all; done) | (simp_all [visA, c1, k10, c11, c12, isV_nI hv, ix_nI (show v < 2 ^ 31 by omega)]; done))
        · refine u_iload h dX5_visitor_194 0 rfl rfl ?_
          refine u_iconst (v := 3) h dX5_visitor_196 (by decide) rfl ?_
          refine u_icmp_lt (tgt := 212) h dX5_visitor_197 (by decide) rfl (fun c13 => ?_) (fun c13 => ?_)
          · refine u_bipush (v := (-5)) h dX5_visitor_212 (by decide) rfl ?_
            exact u_iret h hRT dX5_visitor_214 (by omega) (by omega) (by first | (simp [visA, c1, k10, c11, c12, c13, Int32.not_le.mpr c13, isV_nI hv, ix_nI (show v < 2 ^ 31 by omega)]; done) | (exfalso; simp_all; done) | (simp_all [visA, c1, k10, c11, c12, c13, Int32.not_le.mpr c13, isV_nI hv, ix_nI (show v < 2 ^ 31 by omega)]; done))
          · refine u_aload_n h dX5_visitor_200 rfl 2 rfl rfl ?_
            refine u_get h flX5_visitor_7 0 (v := .ref qz) rfl hfz dX5_visitor_201 rfl ?_
            refine u_bipush (v := 30) h dX5_visitor_204 (by decide) rfl ?_
            refine u_iload_n h dX5_visitor_206 rfl 3 rfl rfl ?_
            refine u_iadd (v := (nI (30 + v))) h dX5_visitor_207 (nI_add 30 v) rfl ?_
            refine u_iald h (n := (30 + v)) 1 rfl (by omega) (by omega) dX5_visitor_208 rfl ?_
            refine u_goto (tgt := 214) h dX5_visitor_209 (by decide) ?_
            exact u_iret h hRT dX5_visitor_214 (by omega) (by omega) (by first | (simp [visA, c1, k10, c11, c12, c13, Int32.not_lt.mp c13, isV_nI hv, ix_nI (show v < 2 ^ 31 by omega)]; done) | (exfalso; simp_all; done) | (simp_all [visA, c1, k10, c11, c12, c13, Int32.not_lt.mp c13, isV_nI hv, ix_nI (show v < 2 ^ 31 by omega)]; done))
      · refine u_iload h dX5_visitor_167 0 rfl rfl ?_
        refine u_iconst (v := 2) h dX5_visitor_169 (by decide) rfl ?_
        refine u_iconst (v := 3) h dX5_visitor_170 (by decide) rfl ?_
        refine u_callS h (As := [.int (z v), .int 2, .int 3]) (wc := []) (wr := [(h0, .inr (5, fs)), (qz, aI G 86 z)]) (kX5_in G (z v) 2 3) cwX5_visitor_X5_in rfl rfl hR ⟨⟨rfl, rfl⟩, by decide, by decide⟩ ⟨Nat.le_of_ble_eq_true rfl, Nat.le_of_ble_eq_true rfl⟩ [] [0, 1] rfl rfl rfl rfl (by decide) (Nat.le_of_ble_eq_true rfl) rfl dX5_visitor_171 rfl (fun v9 u9 hp9 => ?_)
        obtain ⟨rfl, rfl⟩ := hp9
        refine u_wp (ws' := [(h0, .inr (5, fs)), (qz, aI G 86 z)]) [0, 1] rfl rfl ?_
        refine u_eqs (st' := [.int (bI (inB (z v) 2 3))]) rfl ?_
        refine u_if_eq_B (tgt := 189) h dX5_visitor_174 (by decide) rfl (fun c14 => ?_) (fun c14 => ?_)
        · refine u_iload_n h dX5_visitor_189 rfl 1 rfl rfl ?_
          refine u_iconst (v := 1) h dX5_visitor_190 (by decide) rfl ?_
          refine u_icmp_ne (tgt := 212) h dX5_visitor_191 (by decide) rfl (fun c15 => ?_) (fun c15 => ?_)
          · refine u_bipush (v := (-5)) h dX5_visitor_212 (by decide) rfl ?_
            exact u_iret h hRT dX5_visitor_214 (by omega) (by omega) (by first | (simp [visA, c1, k10, c11, c14, c15, isV_nI hv, ix_nI (show v < 2 ^ 31 by omega)]; done) | (exfalso; simp_all; done) | (simp_all [visA, c1, k10, c11, c14, c15, isV_nI hv, ix_nI (show v < 2 ^ 31 by omega)]; done))
          · refine u_iload h dX5_visitor_194 0 rfl rfl ?_
            refine u_iconst (v := 3) h dX5_visitor_196 (by decide) rfl ?_
            refine u_icmp_lt (tgt := 212) h dX5_visitor_197 (by decide) rfl (fun c16 => ?_) (fun c16 => ?_)
            · refine u_bipush (v := (-5)) h dX5_visitor_212 (by decide) rfl ?_
              exact u_iret h hRT dX5_visitor_214 (by omega) (by omega) (by first | (simp [visA, c1, k10, c11, c14, c15, c16, Int32.not_le.mpr c16, isV_nI hv, ix_nI (show v < 2 ^ 31 by omega)]; done) | (exfalso; simp_all; done) | (simp_all [visA, c1, k10, c11, c14, c15, c16, Int32.not_le.mpr c16, isV_nI hv, ix_nI (show v < 2 ^ 31 by omega)]; done))
            · refine u_aload_n h dX5_visitor_200 rfl 2 rfl rfl ?_
              refine u_get h flX5_visitor_7 0 (v := .ref qz) rfl hfz dX5_visitor_201 rfl ?_
              refine u_bipush (v := 30) h dX5_visitor_204 (by decide) rfl ?_
              refine u_iload_n h dX5_visitor_206 rfl 3 rfl rfl ?_
              refine u_iadd (v := (nI (30 + v))) h dX5_visitor_207 (nI_add 30 v) rfl ?_
              refine u_iald h (n := (30 + v)) 1 rfl (by omega) (by omega) dX5_visitor_208 rfl ?_
              refine u_goto (tgt := 214) h dX5_visitor_209 (by decide) ?_
              exact u_iret h hRT dX5_visitor_214 (by omega) (by omega) (by first | (simp [visA, c1, k10, c11, c14, c15, c16, Int32.not_lt.mp c16, isV_nI hv, ix_nI (show v < 2 ^ 31 by omega)]; done) | (exfalso; simp_all; done) | (simp_all [visA, c1, k10, c11, c14, c15, c16, Int32.not_lt.mp c16, isV_nI hv, ix_nI (show v < 2 ^ 31 by omega)]; done))
        · refine u_aload_n h dX5_visitor_177 rfl 2 rfl rfl ?_
          refine u_get h flX5_visitor_7 0 (v := .ref qz) rfl hfz dX5_visitor_178 rfl ?_
          refine u_bipush (v := 18) h dX5_visitor_181 (by decide) rfl ?_
          refine u_iload_n h dX5_visitor_183 rfl 3 rfl rfl ?_
          refine u_iadd (v := (nI (18 + v))) h dX5_visitor_184 (nI_add 18 v) rfl ?_
          refine u_iald h (n := (18 + v)) 1 rfl (by omega) (by omega) dX5_visitor_185 rfl ?_
          refine u_goto (tgt := 214) h dX5_visitor_186 (by decide) ?_
          exact u_iret h hRT dX5_visitor_214 (by omega) (by omega) (by first | (simp [visA, c1, k10, c11, c14, isV_nI hv, ix_nI (show v < 2 ^ 31 by omega)]; done) | (exfalso; simp_all; done) | (simp_all [visA, c1, k10, c11, c14, isV_nI hv, ix_nI (show v < 2 ^ 31 by omega)]; done))
    by_cases k17 : w = 7
    · refine u_tableIn (off := 187) (tgt := 215) h dX5_visitor_28 (by rw [k17]; decide) (by rw [k17]; decide) (by rw [k17]; rfl) (by decide) ?_
      refine u_iload_n h dX5_visitor_215 rfl 1 rfl rfl ?_
      refine u_iconst (v := 1) h dX5_visitor_216 (by decide) rfl ?_
      refine u_icmp_ne (tgt := 232) h dX5_visitor_217 (by decide) rfl (fun c18 => ?_) (fun c18 => ?_)
      · refine u_bipush (v := (-5)) h dX5_visitor_232 (by decide) rfl ?_
        exact u_iret h hRT dX5_visitor_234 (by omega) (by omega) (by first | (simp [visA, c1, k17, c18, isV_nI hv, ix_nI (show v < 2 ^ 31 by omega)]; done) | (exfalso; simp_all; done) | (simp_all [visA, c1, k17, c18, isV_nI hv, ix_nI (show v < 2 ^ 31 by omega)]; done))
      · refine u_aload_n h dX5_visitor_220 rfl 2 rfl rfl ?_
        refine u_get h flX5_visitor_7 0 (v := .ref qz) rfl hfz dX5_visitor_221 rfl ?_
        refine u_bipush (v := 24) h dX5_visitor_224 (by decide) rfl ?_
        refine u_iload_n h dX5_visitor_226 rfl 3 rfl rfl ?_
        refine u_iadd (v := (nI (24 + v))) h dX5_visitor_227 (nI_add 24 v) rfl ?_
        refine u_iald h (n := (24 + v)) 1 rfl (by omega) (by omega) dX5_visitor_228 rfl ?_
        refine u_goto (tgt := 234) h dX5_visitor_229 (by decide) ?_
        exact u_iret h hRT dX5_visitor_234 (by omega) (by omega) (by first | (simp [visA, c1, k17, c18, isV_nI hv, ix_nI (show v < 2 ^ 31 by omega)]; done) | (exfalso; simp_all; done) | (simp_all [visA, c1, k17, c18, isV_nI hv, ix_nI (show v < 2 ^ 31 by omega)]; done))
    by_cases k19 : w = 8
    · refine u_tableIn (off := 207) (tgt := 235) h dX5_visitor_28 (by rw [k19]; decide) (by rw [k19]; decide) (by rw [k19]; rfl) (by decide) ?_
      refine u_iload_n h dX5_visitor_235 rfl 1 rfl rfl ?_
      refine u_iconst (v := 2) h dX5_visitor_236 (by decide) rfl ?_
      refine u_icmp_ne (tgt := 257) h dX5_visitor_237 (by decide) rfl (fun c20 => ?_) (fun c20 => ?_)
      · refine u_bipush (v := (-5)) h dX5_visitor_257 (by decide) rfl ?_
        exact u_iret h hRT dX5_visitor_259 (by omega) (by omega) (by first | (simp [visA, c1, k19, c20, isV_nI hv, ix_nI (show v < 2 ^ 31 by omega)]; done) | (exfalso; simp_all; done) | (simp_all [visA, c1, k19, c20, isV_nI hv, ix_nI (show v < 2 ^ 31 by omega)]; done))
      · refine u_iload h dX5_visitor_240 0 rfl rfl ?_
        refine u_if_le (tgt := 257) h dX5_visitor_242 (by decide) rfl (fun c21 => ?_) (fun c21 => ?_)
        · refine u_bipush (v := (-5)) h dX5_visitor_257 (by decide) rfl ?_
          exact u_iret h hRT dX5_visitor_259 (by omega) (by omega) (by first | (simp [visA, c1, k19, c20, c21, Int32.not_lt.mpr c21, isV_nI hv, ix_nI (show v < 2 ^ 31 by omega)]; done) | (exfalso; simp_all; done) | (simp_all [visA, c1, k19, c20, c21, Int32.not_lt.mpr c21, isV_nI hv, ix_nI (show v < 2 ^ 31 by omega)]; done))
        · refine u_aload_n h dX5_visitor_245 rfl 2 rfl rfl ?_
          refine u_get h flX5_visitor_7 0 (v := .ref qz) rfl hfz dX5_visitor_246 rfl ?_
          refine u_bipush (v := 36) h dX5_visitor_249 (by decide) rfl ?_
          refine u_iload_n h dX5_visitor_251 rfl 3 rfl rfl ?_
          refine u_iadd (v := (nI (36 + v))) h dX5_visitor_252 (nI_add 36 v) rfl ?_
          refine u_iald h (n := (36 + v)) 1 rfl (by omega) (by omega) dX5_visitor_253 rfl ?_
          refine u_goto (tgt := 259) h dX5_visitor_254 (by decide) ?_
          exact u_iret h hRT dX5_visitor_259 (by omega) (by omega) (by first | (simp [visA, c1, k19, c20, c21, Int32.not_le.mp c21, isV_nI hv, ix_nI (show v < 2 ^ 31 by omega)]; done) | (exfalso; simp_all; done) | (simp_all [visA, c1, k19, c20, c21, Int32.not_le.mp c21, isV_nI hv, ix_nI (show v < 2 ^ 31 by omega)]; done))
    by_cases k22 : w = 9
    · refine u_tableIn (off := 232) (tgt := 260) h dX5_visitor_28 (by rw [k22]; decide) (by rw [k22]; decide) (by rw [k22]; rfl) (by decide) ?_
      refine u_iload_n h dX5_visitor_260 rfl 1 rfl rfl ?_
      refine u_if_ne (tgt := 276) h dX5_visitor_261 (by decide) rfl (fun c23 => ?_) (fun c23 => ?_)
      · refine u_bipush (v := (-5)) h dX5_visitor_276 (by decide) rfl ?_
        exact u_iret h hRT dX5_visitor_278 (by omega) (by omega) (by first | (simp [visA, c1, k22, c23, isV_nI hv, ix_nI (show v < 2 ^ 31 by omega)]; done) | (exfalso; simp_all; done) | (simp_all [visA, c1, k22, c23, isV_nI hv, ix_nI (show v < 2 ^ 31 by omega)]; done))
      · refine u_aload_n h dX5_visitor_264 rfl 2 rfl rfl ?_
        refine u_get h flX5_visitor_7 0 (v := .ref qz) rfl hfz dX5_visitor_265 rfl ?_
        refine u_bipush (v := 12) h dX5_visitor_268 (by decide) rfl ?_
        refine u_iload_n h dX5_visitor_270 rfl 3 rfl rfl ?_
        refine u_iadd (v := (nI (12 + v))) h dX5_visitor_271 (nI_add 12 v) rfl ?_
        refine u_iald h (n := (12 + v)) 1 rfl (by omega) (by omega) dX5_visitor_272 rfl ?_
        refine u_goto (tgt := 278) h dX5_visitor_273 (by decide) ?_
        exact u_iret h hRT dX5_visitor_278 (by omega) (by omega) (by first | (simp [visA, c1, k22, c23, isV_nI hv, ix_nI (show v < 2 ^ 31 by omega)]; done) | (exfalso; simp_all; done) | (simp_all [visA, c1, k22, c23, isV_nI hv, ix_nI (show v < 2 ^ 31 by omega)]; done))
    by_cases k24 : w = 10
    · refine u_tableIn (off := 251) (tgt := 279) h dX5_visitor_28 (by rw [k24]; decide) (by rw [k24]; decide) (by rw [k24]; rfl) (by decide) ?_
      refine u_aload_n h dX5_visitor_279 rfl 2 rfl rfl ?_
      refine u_iload_n h dX5_visitor_280 rfl 3 rfl rfl ?_
      obtain ⟨m, hm, h53⟩ := hW.m
      refine u_callV h (As := [.int (nI v)]) (wc := [(h0, .inr (5, fs)), (qz, aI G 86 z)]) (wr := []) (kX5_placeOf G h0 qz fs hfz z v hv m hm h53) cwX5_visitor_X5_placeOf rfl rfl hR ⟨⟨rfl, rfl⟩, by decide, by decide⟩ ⟨Nat.le_of_ble_eq_true rfl, Nat.le_of_ble_eq_true rfl⟩ (ci := 5) (qr := 0) rfl rfl [0, 1] [] rfl rfl rfl rfl (by decide) (Nat.le_of_ble_eq_true rfl) rfl dX5_visitor_281 rfl (fun v9 u9 hp9 => ?_)
      obtain ⟨rfl, rfl⟩ := hp9
      refine u_wp (ws' := [(h0, .inr (5, fs)), (qz, aI G 86 z)]) [0, 1] rfl rfl ?_
      refine u_eqs (st' := [.int (plc z v m)]) rfl ?_
      exact u_iret h hRT dX5_visitor_284 (by omega) (by omega) (by first | (simp [visA, c1, k24, isV_nI hv, ix_nI (show v < 2 ^ 31 by omega), h53, ix_nI (show m < 2 ^ 31 by omega)]; done) | (exfalso; simp_all; done) | (simp_all [visA, c1, k24, isV_nI hv, ix_nI (show v < 2 ^ 31 by omega), h53, ix_nI (show m < 2 ^ 31 by omega)]; done))
    refine u_tableOut (tgt := 285) h dX5_visitor_28 (ti_out (n := 11) (by decide) (fun k9 hk9 => by rcases (show k9 = 0 ∨ k9 = 1 ∨ k9 = 2 ∨ k9 = 3 ∨ k9 = 4 ∨ k9 = 5 ∨ k9 = 6 ∨ k9 = 7 ∨ k9 = 8 ∨ k9 = 9 ∨ k9 = 10 by omega) with rfl | rfl | rfl | rfl | rfl | rfl | rfl | rfl | rfl | rfl | rfl <;> assumption)) (by decide) ?_
    refine u_bipush (v := (-2)) h dX5_visitor_285 (by decide) rfl ?_
    exact u_iret h hRT dX5_visitor_287 (by omega) (by omega) (by first | (simp [visA, c1, k2, k3, k4, k5, k6, k7, k10, k17, k19, k22, k24, isV_nI hv, ix_nI (show v < 2 ^ 31 by omega)]; done) | (exfalso; simp_all; done) | (simp_all [visA, c1, k2, k3, k4, k5, k6, k7, k10, k17, k19, k22, k24, isV_nI hv, ix_nI (show v < 2 ^ 31 by omega)]; done))
  · refine u_iconst (v := (-1)) h dX5_visitor_7 (by decide) rfl ?_
    exact u_iret h hRT dX5_visitor_8 (by omega) (by omega) (by first | (simp [visA, c1]; done) | (exfalso; simp_all; done) | (simp_all [visA, c1]; done))

theorem flX5_total_7 : FL wsX5_total RX5 7 5 0 := ⟨RX5, TX5, 18, rfl, by decide, by decide +kernel, by decide +kernel⟩
theorem flX5_total_51 : FL wsX5_total RX5 51 5 3 := ⟨RX5, TX5, 18, rfl, by decide, by decide +kernel, by decide +kernel⟩
theorem flX5_total_125 : FL wsX5_total RX5 125 5 7 := ⟨RX5, TX5, 18, rfl, by decide, by decide +kernel, by decide +kernel⟩
set_option maxRecDepth 20000 in
theorem cwX5_total_X5_inside : CWd wsX5_total (wsV RX5 137 RX5 yX5_inside wsX5_inside) yX5_inside wsX5_inside cX5_inside 3 (some .int) 0 := ⟨gX5_total_X5_inside, ⟨_, rfl⟩, by decide +kernel, by decide, by decide⟩
set_option maxRecDepth 20000 in
theorem cwX5_total_X5_notAway : CWd wsX5_total (wsV RX5 63 RX5 yX5_notAway wsX5_notAway) yX5_notAway wsX5_notAway cX5_notAway 3 (some .int) 0 := ⟨gX5_total_X5_notAway, ⟨_, rfl⟩, by decide +kernel, by decide, by decide⟩
set_option maxRecDepth 20000 in
theorem cwX5_total_X5_atStage : CWd wsX5_total (wsV RX5 140 RX5 yX5_atStage wsX5_atStage) yX5_atStage wsX5_atStage cX5_atStage 4 (some .int) 1 := ⟨gX5_total_X5_atStage, ⟨_, rfl⟩, by decide +kernel, by decide, by decide⟩
set_option maxRecDepth 20000 in
theorem cwX5_total_X5_sum : CWd wsX5_total (wsV RX5 106 RX5 yX5_sum wsX5_sum) yX5_sum wsX5_sum cX5_sum 4 (some .int) 1 := ⟨gX5_total_X5_sum, ⟨_, rfl⟩, by decide +kernel, by decide, by decide⟩
set_option maxHeartbeats 8000000 in
set_option maxRecDepth 100000 in
theorem kX5_total (G : Gx) (h0 : Nat) (q : Nat → Nat) (st ln : Nat) (ik sT fm bo bt : Int32) (z : Zf) (w : Int32) : MC G yX5_total wsX5_total ({ frames := 1, cells := 0, slots := 0, locals := 23 } : Room) [.ref h0, .int w] [(h0, .inr (5, mO q (nI st) ik (nI ln) sT fm bo bt)), ((q 0), aI G 86 z)] (fun v' u' => v' = some (.int (totA z st ln w)) ∧ u' = [(h0, .inr (5, mO q (nI st) ik (nI ln) sT fm bo bt)), ((q 0), aI G 86 z)]) 0 0 := by
  refine mc_of (cc := cX5_total) (maxL := 3) (ret := (some .int)) (by decide) rfl (Nat.le_of_ble_eq_true rfl) (fun X h hR hL hRT => ?_)
  refine u_eql (lv' := [(0, .ref h0), (1, .int w)]) rfl ?_
  refine u_aload_n h dX5_total_0 rfl 0 rfl rfl ?_
  refine u_get h flX5_total_7 0 (v := .ref (q 0)) rfl rfl dX5_total_1 rfl ?_
  refine u_bipush (v := 60) h dX5_total_4 (by decide) rfl ?_
  refine u_iald h (n := 60) 1 rfl (by omega) (by omega) dX5_total_6 rfl ?_
  refine u_istore_n (lv' := [(2, .int (z 60)), (0, .ref h0), (1, .int w)]) h dX5_total_7 rfl (by rw [hL]; decide) rfl rfl ?_
  refine u_iload_n h dX5_total_8 rfl 2 rfl rfl ?_
  by_cases k1 : w = 0
  · refine u_tableIn (off := 75) (tgt := 84) h dX5_total_9 (by rw [k1]; decide) (by rw [k1]; decide) (by rw [k1]; rfl) (by decide) ?_
    refine u_iload_n h dX5_total_84 rfl 0 rfl rfl ?_
    exact u_iret h hRT dX5_total_85 (by omega) (by omega) (by first | (simp [totA, k1]; done) | (exfalso; simp_all; done) | (simp_all [totA, k1]; done))
  by_cases k2 : w = 1
  · refine u_tableIn (off := 77) (tgt := 86) h dX5_total_9 (by rw [k2]; decide) (by rw [k2]; decide) (by rw [k2]; rfl) (by decide) ?_
    refine u_aload_n h dX5_total_86 rfl 1 rfl rfl ?_
    refine u_callV h (As := []) (wc := [(h0, .inr (5, mO q (nI st) ik (nI ln) sT fm bo bt)), ((q 0), aI G 86 z)]) (wr := []) (kX5_inside G h0 (q 0) (mO q (nI st) ik (nI ln) sT fm bo bt) rfl z) cwX5_total_X5_inside rfl rfl hR ⟨⟨rfl, rfl⟩, by decide, by decide⟩ ⟨Nat.le_of_ble_eq_true rfl, Nat.le_of_ble_eq_true rfl⟩ (ci := 5) (qr := 0) rfl rfl [0, 1] [] rfl rfl rfl rfl (by decide) (Nat.le_of_ble_eq_true rfl) rfl dX5_total_87 rfl (fun v9 u9 hp9 => ?_)
    obtain ⟨rfl, rfl⟩ := hp9
    refine u_wp (ws' := [(h0, .inr (5, mO q (nI st) ik (nI ln) sT fm bo bt)), ((q 0), aI G 86 z)]) [0, 1] rfl rfl ?_
    refine u_eqs (st' := [.int (insM z 6)]) rfl ?_
    exact u_iret h hRT dX5_total_90 (by omega) (by omega) (by first | (simp [totA, k2]; done) | (exfalso; simp_all; done) | (simp_all [totA, k2]; done))
  by_cases k3 : w = 2
  · refine u_tableIn (off := 82) (tgt := 91) h dX5_total_9 (by rw [k3]; decide) (by rw [k3]; decide) (by rw [k3]; rfl) (by decide) ?_
    refine u_iload_n h dX5_total_91 rfl 0 rfl rfl ?_
    refine u_iconst (v := 1) h dX5_total_92 (by decide) rfl ?_
    refine u_icmp_gt (tgt := 107) h dX5_total_93 (by decide) rfl (fun c4 => ?_) (fun c4 => ?_)
    · refine u_bipush (v := (-5)) h dX5_total_107 (by decide) rfl ?_
      refine u_goto (tgt := 119) h dX5_total_109 (by decide) ?_
      exact u_iret h hRT dX5_total_119 (by omega) (by omega) (by first | (simp [totA, k3, c4, Int32.not_le.mpr c4]; done) | (exfalso; simp_all; done) | (simp_all [totA, k3, c4, Int32.not_le.mpr c4]; done))
    · refine u_aload_n h dX5_total_96 rfl 1 rfl rfl ?_
      refine u_get h flX5_total_7 0 (v := .ref (q 0)) rfl rfl dX5_total_97 rfl ?_
      refine u_bipush (v := 49) h dX5_total_100 (by decide) rfl ?_
      refine u_iald h (n := 49) 1 rfl (by omega) (by omega) dX5_total_102 rfl ?_
      refine u_iconst (v := (-1)) h dX5_total_103 (by decide) rfl ?_
      refine u_icmp_ne (tgt := 112) h dX5_total_104 (by decide) rfl (fun c5 => ?_) (fun c5 => ?_)
      · refine u_aload_n h dX5_total_112 rfl 1 rfl rfl ?_
        refine u_get h flX5_total_7 0 (v := .ref (q 0)) rfl rfl dX5_total_113 rfl ?_
        refine u_bipush (v := 49) h dX5_total_116 (by decide) rfl ?_
        refine u_iald h (n := 49) 1 rfl (by omega) (by omega) dX5_total_118 rfl ?_
        exact u_iret h hRT dX5_total_119 (by omega) (by omega) (by first | (simp [totA, k3, c4, Int32.not_lt.mp c4, c5]; done) | (exfalso; simp_all; done) | (simp_all [totA, k3, c4, Int32.not_lt.mp c4, c5]; done))
      · refine u_bipush (v := (-5)) h dX5_total_107 (by decide) rfl ?_
        refine u_goto (tgt := 119) h dX5_total_109 (by decide) ?_
        exact u_iret h hRT dX5_total_119 (by omega) (by omega) (by first | (simp [totA, k3, c4, Int32.not_lt.mp c4, c5]; done) | (exfalso; simp_all; done) | (simp_all [totA, k3, c4, Int32.not_lt.mp c4, c5]; done))
  by_cases k6 : w = 3
  · refine u_tableIn (off := 111) (tgt := 120) h dX5_total_9 (by rw [k6]; decide) (by rw [k6]; decide) (by rw [k6]; rfl) (by decide) ?_
    refine u_aload_n h dX5_total_120 rfl 1 rfl rfl ?_
    refine u_callV h (As := []) (wc := [(h0, .inr (5, mO q (nI st) ik (nI ln) sT fm bo bt)), ((q 0), aI G 86 z)]) (wr := []) (kX5_notAway G h0 (q 0) (mO q (nI st) ik (nI ln) sT fm bo bt) rfl z) cwX5_total_X5_notAway rfl rfl hR ⟨⟨rfl, rfl⟩, by decide, by decide⟩ ⟨Nat.le_of_ble_eq_true rfl, Nat.le_of_ble_eq_true rfl⟩ (ci := 5) (qr := 0) rfl rfl [0, 1] [] rfl rfl rfl rfl (by decide) (Nat.le_of_ble_eq_true rfl) rfl dX5_total_121 rfl (fun v9 u9 hp9 => ?_)
    obtain ⟨rfl, rfl⟩ := hp9
    refine u_wp (ws' := [(h0, .inr (5, mO q (nI st) ik (nI ln) sT fm bo bt)), ((q 0), aI G 86 z)]) [0, 1] rfl rfl ?_
    refine u_eqs (st' := [.int (cntZ z 6)]) rfl ?_
    exact u_iret h hRT dX5_total_124 (by omega) (by omega) (by first | (simp [totA, k6]; done) | (exfalso; simp_all; done) | (simp_all [totA, k6]; done))
  by_cases k7 : w = 4
  · refine u_tableIn (off := 116) (tgt := 125) h dX5_total_9 (by rw [k7]; decide) (by rw [k7]; decide) (by rw [k7]; rfl) (by decide) ?_
    refine u_aload_n h dX5_total_125 rfl 1 rfl rfl ?_
    refine u_iconst (v := 2) h dX5_total_126 (by decide) rfl ?_
    refine u_callV h (As := [.int 2]) (wc := [(h0, .inr (5, mO q (nI st) ik (nI ln) sT fm bo bt)), ((q 0), aI G 86 z)]) (wr := []) (kX5_atStage G h0 (q 0) (mO q (nI st) ik (nI ln) sT fm bo bt) rfl z 2) cwX5_total_X5_atStage rfl rfl hR ⟨⟨rfl, rfl⟩, by decide, by decide⟩ ⟨Nat.le_of_ble_eq_true rfl, Nat.le_of_ble_eq_true rfl⟩ (ci := 5) (qr := 0) rfl rfl [0, 1] [] rfl rfl rfl rfl (by decide) (Nat.le_of_ble_eq_true rfl) rfl dX5_total_127 rfl (fun v9 u9 hp9 => ?_)
    obtain ⟨rfl, rfl⟩ := hp9
    refine u_wp (ws' := [(h0, .inr (5, mO q (nI st) ik (nI ln) sT fm bo bt)), ((q 0), aI G 86 z)]) [0, 1] rfl rfl ?_
    refine u_eqs (st' := [.int (atM z 2 6)]) rfl ?_
    exact u_iret h hRT dX5_total_130 (by omega) (by omega) (by first | (simp [totA, k7]; done) | (exfalso; simp_all; done) | (simp_all [totA, k7]; done))
  by_cases k8 : w = 5
  · refine u_tableIn (off := 122) (tgt := 131) h dX5_total_9 (by rw [k8]; decide) (by rw [k8]; decide) (by rw [k8]; rfl) (by decide) ?_
    refine u_aload_n h dX5_total_131 rfl 1 rfl rfl ?_
    refine u_bipush (v := 62) h dX5_total_132 (by decide) rfl ?_
    refine u_callV h (As := [.int 62]) (wc := [(h0, .inr (5, mO q (nI st) ik (nI ln) sT fm bo bt)), ((q 0), aI G 86 z)]) (wr := []) (kX5_sum G h0 (q 0) (mO q (nI st) ik (nI ln) sT fm bo bt) rfl z 62 (by omega)) cwX5_total_X5_sum rfl rfl hR ⟨⟨rfl, rfl⟩, by decide, by decide⟩ ⟨Nat.le_of_ble_eq_true rfl, Nat.le_of_ble_eq_true rfl⟩ (ci := 5) (qr := 0) rfl rfl [0, 1] [] rfl rfl rfl rfl (by decide) (Nat.le_of_ble_eq_true rfl) rfl dX5_total_134 rfl (fun v9 u9 hp9 => ?_)
    obtain ⟨rfl, rfl⟩ := hp9
    refine u_wp (ws' := [(h0, .inr (5, mO q (nI st) ik (nI ln) sT fm bo bt)), ((q 0), aI G 86 z)]) [0, 1] rfl rfl ?_
    refine u_eqs (st' := [.int (sumZ z 62 6)]) rfl ?_
    exact u_iret h hRT dX5_total_137 (by omega) (by omega) (by first | (simp [totA, k8]; done) | (exfalso; simp_all; done) | (simp_all [totA, k8]; done))
  by_cases k9 : w = 6
  · refine u_tableIn (off := 129) (tgt := 138) h dX5_total_9 (by rw [k9]; decide) (by rw [k9]; decide) (by rw [k9]; rfl) (by decide) ?_
    refine u_aload_n h dX5_total_138 rfl 1 rfl rfl ?_
    refine u_bipush (v := 68) h dX5_total_139 (by decide) rfl ?_
    refine u_callV h (As := [.int 68]) (wc := [(h0, .inr (5, mO q (nI st) ik (nI ln) sT fm bo bt)), ((q 0), aI G 86 z)]) (wr := []) (kX5_sum G h0 (q 0) (mO q (nI st) ik (nI ln) sT fm bo bt) rfl z 68 (by omega)) cwX5_total_X5_sum rfl rfl hR ⟨⟨rfl, rfl⟩, by decide, by decide⟩ ⟨Nat.le_of_ble_eq_true rfl, Nat.le_of_ble_eq_true rfl⟩ (ci := 5) (qr := 0) rfl rfl [0, 1] [] rfl rfl rfl rfl (by decide) (Nat.le_of_ble_eq_true rfl) rfl dX5_total_141 rfl (fun v9 u9 hp9 => ?_)
    obtain ⟨rfl, rfl⟩ := hp9
    refine u_wp (ws' := [(h0, .inr (5, mO q (nI st) ik (nI ln) sT fm bo bt)), ((q 0), aI G 86 z)]) [0, 1] rfl rfl ?_
    refine u_eqs (st' := [.int (sumZ z 68 6)]) rfl ?_
    exact u_iret h hRT dX5_total_144 (by omega) (by omega) (by first | (simp [totA, k9]; done) | (exfalso; simp_all; done) | (simp_all [totA, k9]; done))
  by_cases k10 : w = 7
  · refine u_tableIn (off := 136) (tgt := 145) h dX5_total_9 (by rw [k10]; decide) (by rw [k10]; decide) (by rw [k10]; rfl) (by decide) ?_
    refine u_aload_n h dX5_total_145 rfl 1 rfl rfl ?_
    refine u_bipush (v := 74) h dX5_total_146 (by decide) rfl ?_
    refine u_callV h (As := [.int 74]) (wc := [(h0, .inr (5, mO q (nI st) ik (nI ln) sT fm bo bt)), ((q 0), aI G 86 z)]) (wr := []) (kX5_sum G h0 (q 0) (mO q (nI st) ik (nI ln) sT fm bo bt) rfl z 74 (by omega)) cwX5_total_X5_sum rfl rfl hR ⟨⟨rfl, rfl⟩, by decide, by decide⟩ ⟨Nat.le_of_ble_eq_true rfl, Nat.le_of_ble_eq_true rfl⟩ (ci := 5) (qr := 0) rfl rfl [0, 1] [] rfl rfl rfl rfl (by decide) (Nat.le_of_ble_eq_true rfl) rfl dX5_total_148 rfl (fun v9 u9 hp9 => ?_)
    obtain ⟨rfl, rfl⟩ := hp9
    refine u_wp (ws' := [(h0, .inr (5, mO q (nI st) ik (nI ln) sT fm bo bt)), ((q 0), aI G 86 z)]) [0, 1] rfl rfl ?_
    refine u_eqs (st' := [.int (sumZ z 74 6)]) rfl ?_
    exact u_iret h hRT dX5_total_151 (by omega) (by omega) (by first | (simp [totA, k10]; done) | (exfalso; simp_all; done) | (simp_all [totA, k10]; done))
  by_cases k11 : w = 8
  · refine u_tableIn (off := 143) (tgt := 152) h dX5_total_9 (by rw [k11]; decide) (by rw [k11]; decide) (by rw [k11]; rfl) (by decide) ?_
    refine u_aload_n h dX5_total_152 rfl 1 rfl rfl ?_
    refine u_bipush (v := 80) h dX5_total_153 (by decide) rfl ?_
    refine u_callV h (As := [.int 80]) (wc := [(h0, .inr (5, mO q (nI st) ik (nI ln) sT fm bo bt)), ((q 0), aI G 86 z)]) (wr := []) (kX5_sum G h0 (q 0) (mO q (nI st) ik (nI ln) sT fm bo bt) rfl z 80 (by omega)) cwX5_total_X5_sum rfl rfl hR ⟨⟨rfl, rfl⟩, by decide, by decide⟩ ⟨Nat.le_of_ble_eq_true rfl, Nat.le_of_ble_eq_true rfl⟩ (ci := 5) (qr := 0) rfl rfl [0, 1] [] rfl rfl rfl rfl (by decide) (Nat.le_of_ble_eq_true rfl) rfl dX5_total_155 rfl (fun v9 u9 hp9 => ?_)
    obtain ⟨rfl, rfl⟩ := hp9
    refine u_wp (ws' := [(h0, .inr (5, mO q (nI st) ik (nI ln) sT fm bo bt)), ((q 0), aI G 86 z)]) [0, 1] rfl rfl ?_
    refine u_eqs (st' := [.int (sumZ z 80 6)]) rfl ?_
    exact u_iret h hRT dX5_total_158 (by omega) (by omega) (by first | (simp [totA, k11]; done) | (exfalso; simp_all; done) | (simp_all [totA, k11]; done))
  by_cases k12 : w = 9
  · refine u_tableIn (off := 150) (tgt := 159) h dX5_total_9 (by rw [k12]; decide) (by rw [k12]; decide) (by rw [k12]; rfl) (by decide) ?_
    refine u_iload_n h dX5_total_159 rfl 0 rfl rfl ?_
    refine u_iconst (v := 2) h dX5_total_160 (by decide) rfl ?_
    refine u_icmp_ne (tgt := 174) h dX5_total_161 (by decide) rfl (fun c13 => ?_) (fun c13 => ?_)
    · refine u_bipush (v := (-5)) h dX5_total_174 (by decide) rfl ?_
      exact u_iret h hRT dX5_total_176 (by omega) (by omega) (by first | (simp [totA, k12, c13]; done) | (exfalso; simp_all; done) | (simp_all [totA, k12, c13]; done))
    · refine u_aload_n h dX5_total_164 rfl 1 rfl rfl ?_
      refine u_get h flX5_total_7 0 (v := .ref (q 0)) rfl rfl dX5_total_165 rfl ?_
      refine u_bipush (v := 50) h dX5_total_168 (by decide) rfl ?_
      refine u_iald h (n := 50) 1 rfl (by omega) (by omega) dX5_total_170 rfl ?_
      refine u_goto (tgt := 176) h dX5_total_171 (by decide) ?_
      exact u_iret h hRT dX5_total_176 (by omega) (by omega) (by first | (simp [totA, k12, c13]; done) | (exfalso; simp_all; done) | (simp_all [totA, k12, c13]; done))
  by_cases k14 : w = 10
  · refine u_tableIn (off := 168) (tgt := 177) h dX5_total_9 (by rw [k14]; decide) (by rw [k14]; decide) (by rw [k14]; rfl) (by decide) ?_
    refine u_iload_n h dX5_total_177 rfl 0 rfl rfl ?_
    refine u_iconst (v := 2) h dX5_total_178 (by decide) rfl ?_
    refine u_icmp_ne (tgt := 192) h dX5_total_179 (by decide) rfl (fun c15 => ?_) (fun c15 => ?_)
    · refine u_bipush (v := (-5)) h dX5_total_192 (by decide) rfl ?_
      exact u_iret h hRT dX5_total_194 (by omega) (by omega) (by first | (simp [totA, k14, c15]; done) | (exfalso; simp_all; done) | (simp_all [totA, k14, c15]; done))
    · refine u_aload_n h dX5_total_182 rfl 1 rfl rfl ?_
      refine u_get h flX5_total_7 0 (v := .ref (q 0)) rfl rfl dX5_total_183 rfl ?_
      refine u_bipush (v := 51) h dX5_total_186 (by decide) rfl ?_
      refine u_iald h (n := 51) 1 rfl (by omega) (by omega) dX5_total_188 rfl ?_
      refine u_goto (tgt := 194) h dX5_total_189 (by decide) ?_
      exact u_iret h hRT dX5_total_194 (by omega) (by omega) (by first | (simp [totA, k14, c15]; done) | (exfalso; simp_all; done) | (simp_all [totA, k14, c15]; done))
  by_cases k16 : w = 11
  · refine u_tableIn (off := 186) (tgt := 195) h dX5_total_9 (by rw [k16]; decide) (by rw [k16]; decide) (by rw [k16]; rfl) (by decide) ?_
    refine u_iload_n h dX5_total_195 rfl 0 rfl rfl ?_
    refine u_iconst (v := 3) h dX5_total_196 (by decide) rfl ?_
    refine u_icmp_ne (tgt := 210) h dX5_total_197 (by decide) rfl (fun c17 => ?_) (fun c17 => ?_)
    · refine u_bipush (v := (-5)) h dX5_total_210 (by decide) rfl ?_
      exact u_iret h hRT dX5_total_212 (by omega) (by omega) (by first | (simp [totA, k16, c17]; done) | (exfalso; simp_all; done) | (simp_all [totA, k16, c17]; done))
    · refine u_aload_n h dX5_total_200 rfl 1 rfl rfl ?_
      refine u_get h flX5_total_7 0 (v := .ref (q 0)) rfl rfl dX5_total_201 rfl ?_
      refine u_bipush (v := 52) h dX5_total_204 (by decide) rfl ?_
      refine u_iald h (n := 52) 1 rfl (by omega) (by omega) dX5_total_206 rfl ?_
      refine u_goto (tgt := 212) h dX5_total_207 (by decide) ?_
      exact u_iret h hRT dX5_total_212 (by omega) (by omega) (by first | (simp [totA, k16, c17]; done) | (exfalso; simp_all; done) | (simp_all [totA, k16, c17]; done))
  by_cases k18 : w = 12
  · refine u_tableIn (off := 204) (tgt := 213) h dX5_total_9 (by rw [k18]; decide) (by rw [k18]; decide) (by rw [k18]; rfl) (by decide) ?_
    refine u_aload_n h dX5_total_213 rfl 1 rfl rfl ?_
    refine u_get h flX5_total_7 0 (v := .ref (q 0)) rfl rfl dX5_total_214 rfl ?_
    refine u_bipush (v := 61) h dX5_total_217 (by decide) rfl ?_
    refine u_iald h (n := 61) 1 rfl (by omega) (by omega) dX5_total_219 rfl ?_
    exact u_iret h hRT dX5_total_220 (by omega) (by omega) (by first | (simp [totA, k18]; done) | (exfalso; simp_all; done) | (simp_all [totA, k18]; done))
  by_cases k19 : w = 13
  · refine u_tableIn (off := 212) (tgt := 221) h dX5_total_9 (by rw [k19]; decide) (by rw [k19]; decide) (by rw [k19]; rfl) (by decide) ?_
    refine u_aload_n h dX5_total_221 rfl 1 rfl rfl ?_
    refine u_get h flX5_total_51 0 (v := .int (nI st)) rfl rfl dX5_total_222 rfl ?_
    exact u_iret h hRT dX5_total_225 (by omega) (by omega) (by first | (simp [totA, k19]; done) | (exfalso; simp_all; done) | (simp_all [totA, k19]; done))
  by_cases k20 : w = 14
  · refine u_tableIn (off := 217) (tgt := 226) h dX5_total_9 (by rw [k20]; decide) (by rw [k20]; decide) (by rw [k20]; rfl) (by decide) ?_
    refine u_aload_n h dX5_total_226 rfl 1 rfl rfl ?_
    refine u_get h flX5_total_125 0 (v := .int (nI ln)) rfl rfl dX5_total_227 rfl ?_
    exact u_iret h hRT dX5_total_230 (by omega) (by omega) (by first | (simp [totA, k20]; done) | (exfalso; simp_all; done) | (simp_all [totA, k20]; done))
  refine u_tableOut (tgt := 231) h dX5_total_9 (ti_out (n := 15) (by decide) (fun k9 hk9 => by rcases (show k9 = 0 ∨ k9 = 1 ∨ k9 = 2 ∨ k9 = 3 ∨ k9 = 4 ∨ k9 = 5 ∨ k9 = 6 ∨ k9 = 7 ∨ k9 = 8 ∨ k9 = 9 ∨ k9 = 10 ∨ k9 = 11 ∨ k9 = 12 ∨ k9 = 13 ∨ k9 = 14 by omega) with rfl | rfl | rfl | rfl | rfl | rfl | rfl | rfl | rfl | rfl | rfl | rfl | rfl | rfl | rfl <;> assumption)) (by decide) ?_
  refine u_bipush (v := (-2)) h dX5_total_231 (by decide) rfl ?_
  exact u_iret h hRT dX5_total_233 (by omega) (by omega) (by first | (simp [totA, k1, k2, k3, k6, k7, k8, k9, k10, k11, k12, k14, k16, k18, k19, k20]; done) | (exfalso; simp_all; done) | (simp_all [totA, k1, k2, k3, k6, k7, k8, k9, k10, k11, k12, k14, k16, k18, k19, k20]; done))
