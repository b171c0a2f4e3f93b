theorem flX1_moveTo_11 : FL wsX1_moveTo RX1 11 1 0 := ⟨RX1, TX1, 1, rfl, by decide, by decide +kernel, by decide +kernel⟩
set_option maxHeartbeats 8000000 in
set_option maxRecDepth 100000 in
theorem kX1_moveTo (G : Gx) (h0 qc : Nat) (c : Zf) (v : Nat) (hv : v < 6) (s : Int32) : MC G yX1_moveTo wsX1_moveTo ({ frames := 0, cells := 0, slots := 0, locals := 0 } : Room) [.ref h0, .int (nI v), .int s] [(h0, .inr (1, [.ref qc])), (qc, aI G 54 c)] (fun v' u' => v' = none ∧ u' = [(h0, .inr (1, [.ref qc])), (qc, aI G 54 (upd c v s))]) 0 0 := by
  refine mc_of (cc := cX1_moveTo) (maxL := 3) (ret := none) (by decide) rfl (Nat.le_of_ble_eq_true rfl) (fun X h hR hL hRT => ?_)
  refine u_eql (lv' := [(0, .ref h0), (1, .int (nI v)), (2, .int s)]) rfl ?_
  refine u_aload_n h dX1_moveTo_0 rfl 0 rfl rfl ?_
  refine u_get h flX1_moveTo_11 0 (v := .ref qc) rfl rfl dX1_moveTo_1 rfl ?_
  refine u_iconst (v := 0) h dX1_moveTo_4 (by decide) rfl ?_
  refine u_iload_n h dX1_moveTo_5 rfl 1 rfl rfl ?_
  refine u_iadd (v := (nI v)) h dX1_moveTo_6 (by have h9 := nI_add 0 v; rw [Nat.zero_add] at h9; exact h9) rfl ?_
  refine u_iload_n h dX1_moveTo_7 rfl 2 rfl rfl ?_
  refine u_iast h (n := v) (v := s) 1 rfl (by omega) (by omega) rfl (ws' := [(h0, .inr (1, [.ref qc])), (qc, aI G 54 (upd c v s))]) rfl dX1_moveTo_8 rfl ?_
  exact u_vret h hRT dX1_moveTo_9 (by omega) (by omega) (by exact ⟨rfl, rfl⟩)

theorem flX1_setNext_11 : FL wsX1_setNext RX1 11 1 0 := ⟨RX1, TX1, 1, rfl, by decide, by decide +kernel, by decide +kernel⟩
set_option maxRecDepth 20000 in
theorem cwX1_setNext_X4_isVisitor : CWd wsX1_setNext wsX4_isVisitor yX4_isVisitor wsX4_isVisitor cX4_isVisitor 1 (some .boolean) 1 := ⟨gX1_setNext_X4_isVisitor_n74, ⟨_, rfl⟩, by decide +kernel, by decide, by decide⟩
set_option maxHeartbeats 8000000 in
set_option maxRecDepth 100000 in
theorem kX1_setNext (G : Gx) (h0 qc : Nat) (c : Zf) (a : Nat) (ha : a < 6) (y : Int32) : MC G yX1_setNext wsX1_setNext ({ frames := 1, cells := 0, slots := 0, locals := 20 } : Room) [.ref h0, .int (nI a), .int y] [(h0, .inr (1, [.ref qc])), (qc, aI G 54 c)] (fun v' u' => v' = none ∧ u' = [(h0, .inr (1, [.ref qc])), (qc, aI G 54 (upd c (6 + a) y))]) 0 0 := by
  refine mc_of (cc := cX1_setNext) (maxL := 3) (ret := none) (by decide) rfl (Nat.le_of_ble_eq_true rfl) (fun X h hR hL hRT => ?_)
  refine u_eql (lv' := [(0, .ref h0), (1, .int (nI a)), (2, .int y)]) rfl ?_
  refine u_iload_n h dX1_setNext_0 rfl 1 rfl rfl ?_
  refine u_callN_isVisitor h (As := [.int (nI a)]) (wc := []) (wr := [(h0, .inr (1, [.ref qc])), (qc, aI G 54 c)]) (kX4_isVisitor G (nI a)) cwX1_setNext_X4_isVisitor (by decide +kernel) (by decide +kernel) rfl hR ⟨⟨rfl, rfl⟩, by decide, by decide⟩ ⟨Nat.le_of_ble_eq_true rfl, Nat.le_of_ble_eq_true rfl⟩ [] [0, 1] rfl rfl rfl rfl (by decide) (Nat.le_of_ble_eq_true rfl) rfl dX1_setNext_1 rfl (fun v9 u9 hp9 => ?_)
  obtain ⟨rfl, rfl⟩ := hp9
  refine u_wp (ws' := [(h0, .inr (1, [.ref qc])), (qc, aI G 54 c)]) [0, 1] rfl rfl ?_
  refine u_eqs (st' := [.int (bI (isV (nI a)))]) rfl ?_
  refine u_if_eq_B (tgt := 17) h dX1_setNext_4 (by decide) rfl (fun c1 => ?_) (fun c1 => ?_)
  · exact absurd c1 (by rw [isV_nI ha]; decide)
  · refine u_aload_n h dX1_setNext_7 rfl 0 rfl rfl ?_
    refine u_get h flX1_setNext_11 0 (v := .ref qc) rfl rfl dX1_setNext_8 rfl ?_
    refine u_bipush (v := 6) h dX1_setNext_11 (by decide) rfl ?_
    refine u_iload_n h dX1_setNext_13 rfl 1 rfl rfl ?_
    refine u_iadd (v := (nI (6 + a))) h dX1_setNext_14 (nI_add 6 a) rfl ?_
    refine u_iload_n h dX1_setNext_15 rfl 2 rfl rfl ?_
    refine u_iast h (n := (6 + a)) (v := y) 1 rfl (by omega) (by omega) rfl (ws' := [(h0, .inr (1, [.ref qc])), (qc, aI G 54 (upd c (6 + a) y))]) rfl dX1_setNext_16 rfl ?_
    exact u_vret h hRT dX1_setNext_17 (by omega) (by omega) (by exact ⟨rfl, rfl⟩)

theorem flX1_lowerFlag_11 : FL wsX1_lowerFlag RX1 11 1 0 := ⟨RX1, TX1, 1, rfl, by decide, by decide +kernel, by decide +kernel⟩
set_option maxRecDepth 20000 in
theorem cwX1_lowerFlag_X4_isVisitor : CWd wsX1_lowerFlag wsX4_isVisitor yX4_isVisitor wsX4_isVisitor cX4_isVisitor 1 (some .boolean) 1 := ⟨gX1_lowerFlag_X4_isVisitor_n74, ⟨_, rfl⟩, by decide +kernel, by decide, by decide⟩
set_option maxHeartbeats 8000000 in
set_option maxRecDepth 100000 in
theorem kX1_lowerFlag (G : Gx) (h0 qc : Nat) (c : Zf) (a : Nat) (ha : a < 6) : MC G yX1_lowerFlag wsX1_lowerFlag ({ frames := 1, cells := 0, slots := 0, locals := 20 } : Room) [.ref h0, .int (nI a)] [(h0, .inr (1, [.ref qc])), (qc, aI G 54 c)] (fun v' u' => v' = none ∧ u' = [(h0, .inr (1, [.ref qc])), (qc, aI G 54 (upd c (12 + a) 0))]) 0 0 := by
  refine mc_of (cc := cX1_lowerFlag) (maxL := 2) (ret := none) (by decide) rfl (Nat.le_of_ble_eq_true rfl) (fun X h hR hL hRT => ?_)
  refine u_eql (lv' := [(0, .ref h0), (1, .int (nI a))]) rfl ?_
  refine u_iload_n h dX1_lowerFlag_0 rfl 1 rfl rfl ?_
  refine u_callN_isVisitor h (As := [.int (nI a)]) (wc := []) (wr := [(h0, .inr (1, [.ref qc])), (qc, aI G 54 c)]) (kX4_isVisitor G (nI a)) cwX1_lowerFlag_X4_isVisitor (by decide +kernel) (by decide +kernel) rfl hR ⟨⟨rfl, rfl⟩, by decide, by decide⟩ ⟨Nat.le_of_ble_eq_true rfl, Nat.le_of_ble_eq_true rfl⟩ [] [0, 1] rfl rfl rfl rfl (by decide) (Nat.le_of_ble_eq_true rfl) rfl dX1_lowerFlag_1 rfl (fun v9 u9 hp9 => ?_)
  obtain ⟨rfl, rfl⟩ := hp9
  refine u_wp (ws' := [(h0, .inr (1, [.ref qc])), (qc, aI G 54 c)]) [0, 1] rfl rfl ?_
  refine u_eqs (st' := [.int (bI (isV (nI a)))]) rfl ?_
  refine u_if_eq_B (tgt := 17) h dX1_lowerFlag_4 (by decide) rfl (fun c1 => ?_) (fun c1 => ?_)
  · exact absurd c1 (by rw [isV_nI ha]; decide)
  · refine u_aload_n h dX1_lowerFlag_7 rfl 0 rfl rfl ?_
    refine u_get h flX1_lowerFlag_11 0 (v := .ref qc) rfl rfl dX1_lowerFlag_8 rfl ?_
    refine u_bipush (v := 12) h dX1_lowerFlag_11 (by decide) rfl ?_
    refine u_iload_n h dX1_lowerFlag_13 rfl 1 rfl rfl ?_
    refine u_iadd (v := (nI (12 + a))) h dX1_lowerFlag_14 (nI_add 12 a) rfl ?_
    refine u_iconst (v := 0) h dX1_lowerFlag_15 (by decide) rfl ?_
    refine u_iast h (n := (12 + a)) (v := 0) 1 rfl (by omega) (by omega) rfl (ws' := [(h0, .inr (1, [.ref qc])), (qc, aI G 54 (upd c (12 + a) 0))]) rfl dX1_lowerFlag_16 rfl ?_
    exact u_vret h hRT dX1_lowerFlag_17 (by omega) (by omega) (by exact ⟨rfl, rfl⟩)

theorem flX1_setCardFlag_11 : FL wsX1_setCardFlag RX1 11 1 0 := ⟨RX1, TX1, 1, rfl, by decide, by decide +kernel, by decide +kernel⟩
set_option maxRecDepth 20000 in
theorem cwX1_setCardFlag_X4_isCard : CWd wsX1_setCardFlag wsX4_isCard yX4_isCard wsX4_isCard cX4_isCard 1 (some .boolean) 1 := ⟨gX1_setCardFlag_X4_isCard_n29, ⟨_, rfl⟩, by decide +kernel, by decide, by decide⟩
set_option maxHeartbeats 8000000 in
set_option maxRecDepth 100000 in
theorem kX1_setCardFlag (G : Gx) (h0 qc : Nat) (c : Zf) (a : Nat) (ha : a < 7) (y : Int32) : MC G yX1_setCardFlag wsX1_setCardFlag ({ frames := 1, cells := 0, slots := 0, locals := 20 } : Room) [.ref h0, .int (nI a), .int y] [(h0, .inr (1, [.ref qc])), (qc, aI G 54 c)] (fun v' u' => v' = none ∧ u' = [(h0, .inr (1, [.ref qc])), (qc, aI G 54 (upd c (42 + a) y))]) 0 0 := by
  refine mc_of (cc := cX1_setCardFlag) (maxL := 3) (ret := none) (by decide) rfl (Nat.le_of_ble_eq_true rfl) (fun X h hR hL hRT => ?_)
  refine u_eql (lv' := [(0, .ref h0), (1, .int (nI a)), (2, .int y)]) rfl ?_
  refine u_iload_n h dX1_setCardFlag_0 rfl 1 rfl rfl ?_
  refine u_callN_isCard h (As := [.int (nI a)]) (wc := []) (wr := [(h0, .inr (1, [.ref qc])), (qc, aI G 54 c)]) (kX4_isCard G (nI a)) cwX1_setCardFlag_X4_isCard (by decide +kernel) (by decide +kernel) rfl hR ⟨⟨rfl, rfl⟩, by decide, by decide⟩ ⟨Nat.le_of_ble_eq_true rfl, Nat.le_of_ble_eq_true rfl⟩ [] [0, 1] rfl rfl rfl rfl (by decide) (Nat.le_of_ble_eq_true rfl) rfl dX1_setCardFlag_1 rfl (fun v9 u9 hp9 => ?_)
  obtain ⟨rfl, rfl⟩ := hp9
  refine u_wp (ws' := [(h0, .inr (1, [.ref qc])), (qc, aI G 54 c)]) [0, 1] rfl rfl ?_
  refine u_eqs (st' := [.int (bI (inB (nI a) 0 6))]) rfl ?_
  refine u_if_eq_B (tgt := 17) h dX1_setCardFlag_4 (by decide) rfl (fun c1 => ?_) (fun c1 => ?_)
  · exact absurd c1 (by rw [isC_nI ha]; decide)
  · refine u_aload_n h dX1_setCardFlag_7 rfl 0 rfl rfl ?_
    refine u_get h flX1_setCardFlag_11 0 (v := .ref qc) rfl rfl dX1_setCardFlag_8 rfl ?_
    refine u_bipush (v := 42) h dX1_setCardFlag_11 (by decide) rfl ?_
    refine u_iload_n h dX1_setCardFlag_13 rfl 1 rfl rfl ?_
    refine u_iadd (v := (nI (42 + a))) h dX1_setCardFlag_14 (nI_add 42 a) rfl ?_
    refine u_iload_n h dX1_setCardFlag_15 rfl 2 rfl rfl ?_
    refine u_iast h (n := (42 + a)) (v := y) 1 rfl (by omega) (by omega) rfl (ws' := [(h0, .inr (1, [.ref qc])), (qc, aI G 54 (upd c (42 + a) y))]) rfl dX1_setCardFlag_16 rfl ?_
    exact u_vret h hRT dX1_setCardFlag_17 (by omega) (by omega) (by exact ⟨rfl, rfl⟩)

theorem flX1_leaveTail_11 : FL wsX1_leaveTail RX1 11 1 0 := ⟨RX1, TX1, 1, rfl, by decide, by decide +kernel, by decide +kernel⟩
set_option maxRecDepth 20000 in
theorem cwX1_leaveTail_X1_moveTo : CWd wsX1_leaveTail (wsV RX1 61 RX1 yX1_moveTo wsX1_moveTo) yX1_moveTo wsX1_moveTo cX1_moveTo 3 none 2 := ⟨gX1_leaveTail_X1_moveTo, ⟨_, rfl⟩, by decide +kernel, by decide, by decide⟩
set_option maxHeartbeats 8000000 in
set_option maxRecDepth 100000 in
theorem kX1_leaveTail (G : Gx) (h0 qc : Nat) (c : Zf) (v : Nat) (hv : v < 6) : MC G yX1_leaveTail wsX1_leaveTail ({ frames := 1, cells := 0, slots := 0, locals := 22 } : Room) [.ref h0, .int (nI v)] [(h0, .inr (1, [.ref qc])), (qc, aI G 54 c)] (fun v' u' => v' = none ∧ u' = [(h0, .inr (1, [.ref qc])), (qc, aI G 54 (tailC c v))]) 0 0 := by
  refine mc_of (cc := cX1_leaveTail) (maxL := 2) (ret := none) (by decide) rfl (Nat.le_of_ble_eq_true rfl) (fun X h hR hL hRT => ?_)
  refine u_eql (lv' := [(0, .ref h0), (1, .int (nI v))]) rfl ?_
  refine u_aload_n h dX1_leaveTail_0 rfl 0 rfl rfl ?_
  refine u_get h flX1_leaveTail_11 0 (v := .ref qc) rfl rfl dX1_leaveTail_1 rfl ?_
  refine u_bipush (v := 49) h dX1_leaveTail_4 (by decide) rfl ?_
  refine u_iald h (n := 49) 1 rfl (by omega) (by omega) dX1_leaveTail_6 rfl ?_
  refine u_iload_n h dX1_leaveTail_7 rfl 1 rfl rfl ?_
  refine u_icmp_ne (tgt := 29) h dX1_leaveTail_8 (by decide) rfl (fun c1 => ?_) (fun c1 => ?_)
  · refine u_aload_n h dX1_leaveTail_29 rfl 0 rfl rfl ?_
    refine u_iload_n h dX1_leaveTail_30 rfl 1 rfl rfl ?_
    refine u_bipush (v := 6) h dX1_leaveTail_31 (by decide) rfl ?_
    refine u_callV h (As := [.int (nI v), .int 6]) (wc := [(h0, .inr (1, [.ref qc])), (qc, aI G 54 c)]) (wr := []) (kX1_moveTo G h0 qc c v hv 6) cwX1_leaveTail_X1_moveTo rfl rfl hR ⟨⟨rfl, rfl⟩, by decide, by decide⟩ ⟨Nat.le_of_ble_eq_true rfl, Nat.le_of_ble_eq_true rfl⟩ (ci := 1) (qr := 0) rfl rfl [0, 1] [] rfl rfl rfl rfl (by decide) (Nat.le_of_ble_eq_true rfl) rfl dX1_leaveTail_33 rfl (fun v9 u9 hp9 => ?_)
    obtain ⟨rfl, rfl⟩ := hp9
    refine u_wp (ws' := [(h0, .inr (1, [.ref qc])), (qc, aI G 54 (upd c v 6))]) [0, 1] rfl rfl ?_
    refine u_eqs (st' := []) rfl ?_
    exact u_vret h hRT dX1_leaveTail_36 (by omega) (by omega) (by first | (simp [tailC, c1]; done) | (exfalso; simp_all; done) | (simp_all [tailC, c1]; done))
  · refine u_aload_n h dX1_leaveTail_11 rfl 0 rfl rfl ?_
    refine u_get h flX1_leaveTail_11 0 (v := .ref qc) rfl rfl dX1_leaveTail_12 rfl ?_
    refine u_bipush (v := 49) h dX1_leaveTail_15 (by decide) rfl ?_
    refine u_bipush (v := (-5)) h dX1_leaveTail_17 (by decide) rfl ?_
    refine u_iast h (n := 49) (v := (-5)) 1 rfl (by omega) (by omega) rfl (ws' := [(h0, .inr (1, [.ref qc])), (qc, aI G 54 (upd c 49 (-5)))]) rfl dX1_leaveTail_19 rfl ?_
    refine u_aload_n h dX1_leaveTail_20 rfl 0 rfl rfl ?_
    refine u_iload_n h dX1_leaveTail_21 rfl 1 rfl rfl ?_
    refine u_iconst (v := 0) h dX1_leaveTail_22 (by decide) rfl ?_
    refine u_callV h (As := [.int (nI v), .int 0]) (wc := [(h0, .inr (1, [.ref qc])), (qc, aI G 54 (upd c 49 (-5)))]) (wr := []) (kX1_moveTo G h0 qc (upd c 49 (-5)) v hv 0) cwX1_leaveTail_X1_moveTo rfl rfl hR ⟨⟨rfl, rfl⟩, by decide, by decide⟩ ⟨Nat.le_of_ble_eq_true rfl, Nat.le_of_ble_eq_true rfl⟩ (ci := 1) (qr := 0) rfl rfl [0, 1] [] rfl rfl rfl rfl (by decide) (Nat.le_of_ble_eq_true rfl) rfl dX1_leaveTail_23 rfl (fun v9 u9 hp9 => ?_)
    obtain ⟨rfl, rfl⟩ := hp9
    refine u_wp (ws' := [(h0, .inr (1, [.ref qc])), (qc, aI G 54 (upd (upd c 49 (-5)) v 0))]) [0, 1] rfl rfl ?_
    refine u_eqs (st' := []) rfl ?_
    refine u_goto (tgt := 36) h dX1_leaveTail_26 (by decide) ?_
    exact u_vret h hRT dX1_leaveTail_36 (by omega) (by omega) (by first | (simp [tailC, c1]; done) | (exfalso; simp_all; done) | (simp_all [tailC, c1]; done))

theorem flX1_advanceNudges_11 : FL wsX1_advanceNudges RX1 11 1 0 := ⟨RX1, TX1, 1, rfl, by decide, by decide +kernel, by decide +kernel⟩
set_option maxRecDepth 20000 in
theorem cwX1_advanceNudges_X1_stage : CWd wsX1_advanceNudges (wsV RX1 33 RX1 yX1_stage wsX1_stage) yX1_stage wsX1_stage cX1_stage 2 (some .int) 1 := ⟨gX1_advanceNudges_X1_stage, ⟨_, rfl⟩, by decide +kernel, by decide, by decide⟩
set_option maxRecDepth 20000 in
theorem cwX1_advanceNudges_X1_moveTo : CWd wsX1_advanceNudges (wsV RX1 61 RX1 yX1_moveTo wsX1_moveTo) yX1_moveTo wsX1_moveTo cX1_moveTo 3 none 2 := ⟨gX1_advanceNudges_X1_moveTo, ⟨_, rfl⟩, by decide +kernel, by decide, by decide⟩
set_option maxRecDepth 20000 in
theorem cwX1_advanceNudges_X1_setNext : CWd wsX1_advanceNudges (wsV RX1 65 RX1 yX1_setNext wsX1_setNext) yX1_setNext wsX1_setNext cX1_setNext 3 none 2 := ⟨gX1_advanceNudges_X1_setNext, ⟨_, rfl⟩, by decide +kernel, by decide, by decide⟩
set_option maxRecDepth 20000 in
theorem cwX1_advanceNudges_X1_leaveTail : CWd wsX1_advanceNudges (wsV RX1 68 RX1 yX1_leaveTail wsX1_leaveTail) yX1_leaveTail wsX1_leaveTail cX1_leaveTail 2 none 1 := ⟨gX1_advanceNudges_X1_leaveTail, ⟨_, rfl⟩, by decide +kernel, by decide, by decide⟩
set_option maxRecDepth 20000 in
theorem cwX1_advanceNudges_X1_lowerFlag : CWd wsX1_advanceNudges (wsV RX1 71 RX1 yX1_lowerFlag wsX1_lowerFlag) yX1_lowerFlag wsX1_lowerFlag cX1_lowerFlag 2 none 1 := ⟨gX1_advanceNudges_X1_lowerFlag, ⟨_, rfl⟩, by decide +kernel, by decide, by decide⟩
set_option maxHeartbeats 8000000 in
set_option maxRecDepth 100000 in
theorem kX1_advanceNudges (G : Gx) (h0 qc : Nat) (z : Zf) (v : Nat) (hv : v < 6) (hW : Wc z) (hk : z 60 = 0) : MC G yX1_advanceNudges wsX1_advanceNudges ({ frames := 2, cells := 0, slots := 0, locals := 43 } : Room) [.ref h0, .int (nI v)] [(h0, .inr (1, [.ref qc])), (qc, aI G 54 (encC z))] (fun v' u' => v' = none ∧ u' = [(h0, .inr (1, [.ref qc])), (qc, aI G 54 (encC (chN z v)))]) 0 0 := by
  refine mc_of (cc := cX1_advanceNudges) (maxL := 2) (ret := none) (by decide) rfl (Nat.le_of_ble_eq_true rfl) (fun X h hR hL hRT => ?_)
  refine u_eql (lv' := [(0, .ref h0), (1, .int (nI v))]) rfl ?_
  refine u_aload_n h dX1_advanceNudges_0 rfl 0 rfl rfl ?_
  refine u_iload_n h dX1_advanceNudges_1 rfl 1 rfl rfl ?_
  refine u_callV h (As := [.int (nI v)]) (wc := [(h0, .inr (1, [.ref qc])), (qc, aI G 54 (encC z))]) (wr := []) (kX1_stage G h0 qc (encC z) v hv) cwX1_advanceNudges_X1_stage rfl rfl hR ⟨⟨rfl, rfl⟩, by decide, by decide⟩ ⟨Nat.le_of_ble_eq_true rfl, Nat.le_of_ble_eq_true rfl⟩ (ci := 1) (qr := 0) rfl rfl [0, 1] [] rfl rfl rfl rfl (by decide) (Nat.le_of_ble_eq_true rfl) rfl dX1_advanceNudges_2 rfl (fun v9 u9 hp9 => ?_)
  obtain ⟨rfl, rfl⟩ := hp9
  refine u_wp (ws' := [(h0, .inr (1, [.ref qc])), (qc, aI G 54 (encC z))]) [0, 1] rfl rfl ?_
  refine u_eqs (st' := [.int ((encC z) v)]) rfl ?_
  refine u_top (y := (z v)) (e_st hv) ?_
  by_cases k1 : (z v) = 0
  · refine u_tableIn (off := 43) (tgt := 48) h dX1_advanceNudges_5 (by rw [k1]; decide) (by rw [k1]; decide) (by rw [k1]; rfl) (by decide) ?_
    refine u_aload_n h dX1_advanceNudges_48 rfl 0 rfl rfl ?_
    refine u_get h flX1_advanceNudges_11 0 (v := .ref qc) rfl rfl dX1_advanceNudges_49 rfl ?_
    refine u_bipush (v := 6) h dX1_advanceNudges_52 (by decide) rfl ?_
    refine u_iload_n h dX1_advanceNudges_54 rfl 1 rfl rfl ?_
    refine u_iadd (v := (nI (6 + v))) h dX1_advanceNudges_55 (nI_add 6 v) rfl ?_
    refine u_bipush (v := (-5)) h dX1_advanceNudges_56 (by decide) rfl ?_
    refine u_iast h (n := (6 + v)) (v := (-5)) 1 rfl (by omega) (by omega) rfl (ws' := [(h0, .inr (1, [.ref qc])), (qc, aI G 54 (upd (encC z) (6 + v) (-5)))]) rfl dX1_advanceNudges_58 rfl ?_
    refine u_aload_n h dX1_advanceNudges_59 rfl 0 rfl rfl ?_
    refine u_get h flX1_advanceNudges_11 0 (v := .ref qc) rfl rfl dX1_advanceNudges_60 rfl ?_
    refine u_bipush (v := 12) h dX1_advanceNudges_63 (by decide) rfl ?_
    refine u_iload_n h dX1_advanceNudges_65 rfl 1 rfl rfl ?_
    refine u_iadd (v := (nI (12 + v))) h dX1_advanceNudges_66 (nI_add 12 v) rfl ?_
    refine u_iconst (v := 1) h dX1_advanceNudges_67 (by decide) rfl ?_
    refine u_iast h (n := (12 + v)) (v := 1) 1 rfl (by omega) (by omega) rfl (ws' := [(h0, .inr (1, [.ref qc])), (qc, aI G 54 (upd (upd (encC z) (6 + v) (-5)) (12 + v) 1))]) rfl dX1_advanceNudges_68 rfl ?_
    refine u_aload_n h dX1_advanceNudges_69 rfl 0 rfl rfl ?_
    refine u_iload_n h dX1_advanceNudges_70 rfl 1 rfl rfl ?_
    refine u_iconst (v := 1) h dX1_advanceNudges_71 (by decide) rfl ?_
    refine u_callV h (As := [.int (nI v), .int 1]) (wc := [(h0, .inr (1, [.ref qc])), (qc, aI G 54 (upd (upd (encC z) (6 + v) (-5)) (12 + v) 1))]) (wr := []) (kX1_moveTo G h0 qc (upd (upd (encC z) (6 + v) (-5)) (12 + v) 1) v hv 1) cwX1_advanceNudges_X1_moveTo rfl rfl hR ⟨⟨rfl, rfl⟩, by decide, by decide⟩ ⟨Nat.le_of_ble_eq_true rfl, Nat.le_of_ble_eq_true rfl⟩ (ci := 1) (qr := 0) rfl rfl [0, 1] [] rfl rfl rfl rfl (by decide) (Nat.le_of_ble_eq_true rfl) rfl dX1_advanceNudges_72 rfl (fun v9 u9 hp9 => ?_)
    obtain ⟨rfl, rfl⟩ := hp9
    refine u_wp (ws' := [(h0, .inr (1, [.ref qc])), (qc, aI G 54 (upd (upd (upd (encC z) (6 + v) (-5)) (12 + v) 1) v 1))]) [0, 1] rfl rfl ?_
    refine u_eqs (st' := []) rfl ?_
    refine u_goto (tgt := 237) h dX1_advanceNudges_75 (by decide) ?_
    exact u_vret h hRT dX1_advanceNudges_237 (by omega) (by omega) (by refine ⟨rfl, congrArg (fun f => [(h0, .inr (1, [.ref qc])), (qc, aI G 54 f)]) ?_⟩; have e49 : encC z 49 = tN (z 49) := (e_ta z).trans (if_pos hk); first | (simp [chN, tailC, e_ta, tN_eq (hW.ta hk) hv, k1, hk, E_nx _ hv, E_fl _ hv, E_ah _ hv, E_ow _ hv, E_wa _ hv, E_ti _ hv, E_ta, E_gi, E_se, E_gr, tN_m1, E_st _ hv, u60o _ _ (show v < 7 by omega) (show 6 ≤ 42 by omega), u60o _ _ (show v < 7 by omega) (show 12 ≤ 42 by omega), u60o _ _ (show v < 7 by omega) (show 18 ≤ 42 by omega), u60o _ _ (show v < 7 by omega) (show 24 ≤ 42 by omega), u60o _ _ (show v < 7 by omega) (show 30 ≤ 42 by omega), u60o _ _ (show v < 7 by omega) (show 36 ≤ 42 by omega), u60z _ _ (show v < 7 by omega), u60_49, u60_50, u60_51, u60_52, nI_m1, tN_nI (show v < 2 ^ 31 by omega)]; done) | (simp [chN, tailC, e_ta, tN_eq (hW.ta hk) hv, k1, hk, E_nx _ hv, E_fl _ hv, E_ah _ hv, E_ow _ hv, E_wa _ hv, E_ti _ hv, E_ta, E_gi, E_se, E_gr, tN_m1, E_st _ hv, u60o _ _ (show v < 7 by omega) (show 6 ≤ 42 by omega), u60o _ _ (show v < 7 by omega) (show 12 ≤ 42 by omega), u60o _ _ (show v < 7 by omega) (show 18 ≤ 42 by omega), u60o _ _ (show v < 7 by omega) (show 24 ≤ 42 by omega), u60o _ _ (show v < 7 by omega) (show 30 ≤ 42 by omega), u60o _ _ (show v < 7 by omega) (show 36 ≤ 42 by omega), u60z _ _ (show v < 7 by omega), u60_49, u60_50, u60_51, u60_52, nI_m1, tN_nI (show v < 2 ^ 31 by omega)]; clear h hR hL hRT hW; funext j; simp only [upd]; grind))
  by_cases k2 : (z v) = 1
  · refine u_tableIn (off := 73) (tgt := 78) h dX1_advanceNudges_5 (by rw [k2]; decide) (by rw [k2]; decide) (by rw [k2]; rfl) (by decide) ?_
    refine u_aload_n h dX1_advanceNudges_78 rfl 0 rfl rfl ?_
    refine u_get h flX1_advanceNudges_11 0 (v := .ref qc) rfl rfl dX1_advanceNudges_79 rfl ?_
    refine u_bipush (v := 18) h dX1_advanceNudges_82 (by decide) rfl ?_
    refine u_iload_n h dX1_advanceNudges_84 rfl 1 rfl rfl ?_
    refine u_iadd (v := (nI (18 + v))) h dX1_advanceNudges_85 (nI_add 18 v) rfl ?_
    refine u_aload_n h dX1_advanceNudges_86 rfl 0 rfl rfl ?_
    refine u_get h flX1_advanceNudges_11 0 (v := .ref qc) rfl rfl dX1_advanceNudges_87 rfl ?_
    refine u_bipush (v := 49) h dX1_advanceNudges_90 (by decide) rfl ?_
    refine u_iald h (n := 49) 1 rfl (by omega) (by omega) dX1_advanceNudges_92 rfl ?_
    refine u_top (y := (tN (z 49))) ((e_ta _).trans (if_pos hk)) ?_
    refine u_iast h (n := (18 + v)) (v := (tN (z 49))) 1 rfl (by omega) (by omega) rfl (ws' := [(h0, .inr (1, [.ref qc])), (qc, aI G 54 (upd (encC z) (18 + v) (tN (z 49))))]) rfl dX1_advanceNudges_93 rfl ?_
    refine u_aload_n h dX1_advanceNudges_94 rfl 0 rfl rfl ?_
    refine u_get h flX1_advanceNudges_11 0 (v := .ref qc) rfl rfl dX1_advanceNudges_95 rfl ?_
    refine u_bipush (v := 49) h dX1_advanceNudges_98 (by decide) rfl ?_
    refine u_iload_n h dX1_advanceNudges_100 rfl 1 rfl rfl ?_
    refine u_iast h (n := 49) (v := (nI v)) 1 rfl (by omega) (by omega) rfl (ws' := [(h0, .inr (1, [.ref qc])), (qc, aI G 54 (upd (upd (encC z) (18 + v) (tN (z 49))) 49 (nI v)))]) rfl dX1_advanceNudges_101 rfl ?_
    refine u_aload_n h dX1_advanceNudges_102 rfl 0 rfl rfl ?_
    refine u_iload_n h dX1_advanceNudges_103 rfl 1 rfl rfl ?_
    refine u_aload_n h dX1_advanceNudges_104 rfl 0 rfl rfl ?_
    refine u_get h flX1_advanceNudges_11 0 (v := .ref qc) rfl rfl dX1_advanceNudges_105 rfl ?_
    refine u_bipush (v := 18) h dX1_advanceNudges_108 (by decide) rfl ?_
    refine u_iload_n h dX1_advanceNudges_110 rfl 1 rfl rfl ?_
    refine u_iadd (v := (nI (18 + v))) h dX1_advanceNudges_111 (nI_add 18 v) rfl ?_
    refine u_iald h (n := (18 + v)) 1 rfl (by omega) (by omega) dX1_advanceNudges_112 rfl ?_
    refine u_top (y := (tN (z 49))) (by rw [pk_un (by omega), pk_us]) ?_
    refine u_bipush (v := (-5)) h dX1_advanceNudges_113 (by decide) rfl ?_
    refine u_icmp_ne (tgt := 122) h dX1_advanceNudges_115 (by decide) rfl (fun c3 => ?_) (fun c3 => ?_)
    · refine u_iconst (v := 2) h dX1_advanceNudges_122 (by decide) rfl ?_
      refine u_callV h (As := [.int (nI v), .int 2]) (wc := [(h0, .inr (1, [.ref qc])), (qc, aI G 54 (upd (upd (encC z) (18 + v) (tN (z 49))) 49 (nI v)))]) (wr := []) (kX1_moveTo G h0 qc (upd (upd (encC z) (18 + v) (tN (z 49))) 49 (nI v)) v hv 2) cwX1_advanceNudges_X1_moveTo rfl rfl hR ⟨⟨rfl, rfl⟩, by decide, by decide⟩ ⟨Nat.le_of_ble_eq_true rfl, Nat.le_of_ble_eq_true rfl⟩ (ci := 1) (qr := 0) rfl rfl [0, 1] [] rfl rfl rfl rfl (by decide) (Nat.le_of_ble_eq_true rfl) rfl dX1_advanceNudges_123 rfl (fun v9 u9 hp9 => ?_)
      obtain ⟨rfl, rfl⟩ := hp9
      refine u_wp (ws' := [(h0, .inr (1, [.ref qc])), (qc, aI G 54 (upd (upd (upd (encC z) (18 + v) (tN (z 49))) 49 (nI v)) v 2))]) [0, 1] rfl rfl ?_
      refine u_eqs (st' := []) rfl ?_
      refine u_goto (tgt := 237) h dX1_advanceNudges_126 (by decide) ?_
      exact u_vret h hRT dX1_advanceNudges_237 (by omega) (by omega) (by refine ⟨rfl, congrArg (fun f => [(h0, .inr (1, [.ref qc])), (qc, aI G 54 f)]) ?_⟩; have e49 : encC z 49 = tN (z 49) := (e_ta z).trans (if_pos hk); first | (simp [chN, tailC, e_ta, tN_eq (hW.ta hk) hv, k2, c3, hk, E_nx _ hv, E_fl _ hv, E_ah _ hv, E_ow _ hv, E_wa _ hv, E_ti _ hv, E_ta, E_gi, E_se, E_gr, tN_m1, E_st _ hv, u60o _ _ (show v < 7 by omega) (show 6 ≤ 42 by omega), u60o _ _ (show v < 7 by omega) (show 12 ≤ 42 by omega), u60o _ _ (show v < 7 by omega) (show 18 ≤ 42 by omega), u60o _ _ (show v < 7 by omega) (show 24 ≤ 42 by omega), u60o _ _ (show v < 7 by omega) (show 30 ≤ 42 by omega), u60o _ _ (show v < 7 by omega) (show 36 ≤ 42 by omega), u60z _ _ (show v < 7 by omega), u60_49, u60_50, u60_51, u60_52, mt (tN_iff (hW.ta hk)).mpr c3, nI_m1, tN_nI (show v < 2 ^ 31 by omega)]; done) | (simp [chN, tailC, e_ta, tN_eq (hW.ta hk) hv, k2, c3, hk, E_nx _ hv, E_fl _ hv, E_ah _ hv, E_ow _ hv, E_wa _ hv, E_ti _ hv, E_ta, E_gi, E_se, E_gr, tN_m1, E_st _ hv, u60o _ _ (show v < 7 by omega) (show 6 ≤ 42 by omega), u60o _ _ (show v < 7 by omega) (show 12 ≤ 42 by omega), u60o _ _ (show v < 7 by omega) (show 18 ≤ 42 by omega), u60o _ _ (show v < 7 by omega) (show 24 ≤ 42 by omega), u60o _ _ (show v < 7 by omega) (show 30 ≤ 42 by omega), u60o _ _ (show v < 7 by omega) (show 36 ≤ 42 by omega), u60z _ _ (show v < 7 by omega), u60_49, u60_50, u60_51, u60_52, mt (tN_iff (hW.ta hk)).mpr c3, nI_m1, tN_nI (show v < 2 ^ 31 by omega)]; clear h hR hL hRT hW; funext j; simp only [upd]; grind))
    · refine u_iconst (v := 4) h dX1_advanceNudges_118 (by decide) rfl ?_
      refine u_goto (tgt := 123) h dX1_advanceNudges_119 (by decide) ?_
      refine u_callV h (As := [.int (nI v), .int 4]) (wc := [(h0, .inr (1, [.ref qc])), (qc, aI G 54 (upd (upd (encC z) (18 + v) (tN (z 49))) 49 (nI v)))]) (wr := []) (kX1_moveTo G h0 qc (upd (upd (encC z) (18 + v) (tN (z 49))) 49 (nI v)) v hv 4) cwX1_advanceNudges_X1_moveTo rfl rfl hR ⟨⟨rfl, rfl⟩, by decide, by decide⟩ ⟨Nat.le_of_ble_eq_true rfl, Nat.le_of_ble_eq_true rfl⟩ (ci := 1) (qr := 0) rfl rfl [0, 1] [] rfl rfl rfl rfl (by decide) (Nat.le_of_ble_eq_true rfl) rfl dX1_advanceNudges_123 rfl (fun v9 u9 hp9 => ?_)
      obtain ⟨rfl, rfl⟩ := hp9
      refine u_wp (ws' := [(h0, .inr (1, [.ref qc])), (qc, aI G 54 (upd (upd (upd (encC z) (18 + v) (tN (z 49))) 49 (nI v)) v 4))]) [0, 1] rfl rfl ?_
      refine u_eqs (st' := []) rfl ?_
      refine u_goto (tgt := 237) h dX1_advanceNudges_126 (by decide) ?_
      exact u_vret h hRT dX1_advanceNudges_237 (by omega) (by omega) (by refine ⟨rfl, congrArg (fun f => [(h0, .inr (1, [.ref qc])), (qc, aI G 54 f)]) ?_⟩; have e49 : encC z 49 = tN (z 49) := (e_ta z).trans (if_pos hk); first | (simp [chN, tailC, e_ta, tN_eq (hW.ta hk) hv, k2, c3, hk, E_nx _ hv, E_fl _ hv, E_ah _ hv, E_ow _ hv, E_wa _ hv, E_ti _ hv, E_ta, E_gi, E_se, E_gr, tN_m1, E_st _ hv, u60o _ _ (show v < 7 by omega) (show 6 ≤ 42 by omega), u60o _ _ (show v < 7 by omega) (show 12 ≤ 42 by omega), u60o _ _ (show v < 7 by omega) (show 18 ≤ 42 by omega), u60o _ _ (show v < 7 by omega) (show 24 ≤ 42 by omega), u60o _ _ (show v < 7 by omega) (show 30 ≤ 42 by omega), u60o _ _ (show v < 7 by omega) (show 36 ≤ 42 by omega), u60z _ _ (show v < 7 by omega), u60_49, u60_50, u60_51, u60_52, (tN_iff (hW.ta hk)).mp c3, nI_m1, tN_nI (show v < 2 ^ 31 by omega)]; done) | (simp [chN, tailC, e_ta, tN_eq (hW.ta hk) hv, k2, c3, hk, E_nx _ hv, E_fl _ hv, E_ah _ hv, E_ow _ hv, E_wa _ hv, E_ti _ hv, E_ta, E_gi, E_se, E_gr, tN_m1, E_st _ hv, u60o _ _ (show v < 7 by omega) (show 6 ≤ 42 by omega), u60o _ _ (show v < 7 by omega) (show 12 ≤ 42 by omega), u60o _ _ (show v < 7 by omega) (show 18 ≤ 42 by omega), u60o _ _ (show v < 7 by omega) (show 24 ≤ 42 by omega), u60o _ _ (show v < 7 by omega) (show 30 ≤ 42 by omega), u60o _ _ (show v < 7 by omega) (show 36 ≤ 42 by omega), u60z _ _ (show v < 7 by omega), u60_49, u60_50, u60_51, u60_52, (tN_iff (hW.ta hk)).mp c3, nI_m1, tN_nI (show v < 2 ^ 31 by omega)]; clear h hR hL hRT hW; funext j; simp only [upd]; grind))
  by_cases k4 : (z v) = 2
  · refine u_tableIn (off := 124) (tgt := 129) h dX1_advanceNudges_5 (by rw [k4]; decide) (by rw [k4]; decide) (by rw [k4]; rfl) (by decide) ?_
    refine u_aload_n h dX1_advanceNudges_129 rfl 0 rfl rfl ?_
    refine u_aload_n h dX1_advanceNudges_130 rfl 0 rfl rfl ?_
    refine u_get h flX1_advanceNudges_11 0 (v := .ref qc) rfl rfl dX1_advanceNudges_131 rfl ?_
    refine u_bipush (v := 18) h dX1_advanceNudges_134 (by decide) rfl ?_
    refine u_iload_n h dX1_advanceNudges_136 rfl 1 rfl rfl ?_
    refine u_iadd (v := (nI (18 + v))) h dX1_advanceNudges_137 (nI_add 18 v) rfl ?_
    refine u_iald h (n := (18 + v)) 1 rfl (by omega) (by omega) dX1_advanceNudges_138 rfl ?_
    refine u_top (y := (tN (z (18 + v)))) (e_ah hv) ?_
    obtain ⟨a5, ha5, ea5⟩ := hW.1.a hk hv k4
    refine u_top (y := nI a5) (by rw [ea5]; exact tN_nI (by omega)) ?_
    refine u_iload_n h dX1_advanceNudges_139 rfl 1 rfl rfl ?_
    refine u_callV h (As := [.int (nI a5), .int (nI v)]) (wc := [(h0, .inr (1, [.ref qc])), (qc, aI G 54 (encC z))]) (wr := []) (kX1_setNext G h0 qc (encC z) a5 ha5 (nI v)) cwX1_advanceNudges_X1_setNext rfl rfl hR ⟨⟨rfl, rfl⟩, by decide, by decide⟩ ⟨Nat.le_of_ble_eq_true rfl, Nat.le_of_ble_eq_true rfl⟩ (ci := 1) (qr := 0) rfl rfl [0, 1] [] rfl rfl rfl rfl (by decide) (Nat.le_of_ble_eq_true rfl) rfl dX1_advanceNudges_140 rfl (fun v9 u9 hp9 => ?_)
    obtain ⟨rfl, rfl⟩ := hp9
    refine u_wp (ws' := [(h0, .inr (1, [.ref qc])), (qc, aI G 54 (upd (encC z) (6 + a5) (nI v)))]) [0, 1] rfl rfl ?_
    refine u_eqs (st' := []) rfl ?_
    refine u_aload_n h dX1_advanceNudges_143 rfl 0 rfl rfl ?_
    refine u_iload_n h dX1_advanceNudges_144 rfl 1 rfl rfl ?_
    refine u_iconst (v := 3) h dX1_advanceNudges_145 (by decide) rfl ?_
    refine u_callV h (As := [.int (nI v), .int 3]) (wc := [(h0, .inr (1, [.ref qc])), (qc, aI G 54 (upd (encC z) (6 + a5) (nI v)))]) (wr := []) (kX1_moveTo G h0 qc (upd (encC z) (6 + a5) (nI v)) v hv 3) cwX1_advanceNudges_X1_moveTo rfl rfl hR ⟨⟨rfl, rfl⟩, by decide, by decide⟩ ⟨Nat.le_of_ble_eq_true rfl, Nat.le_of_ble_eq_true rfl⟩ (ci := 1) (qr := 0) rfl rfl [0, 1] [] rfl rfl rfl rfl (by decide) (Nat.le_of_ble_eq_true rfl) rfl dX1_advanceNudges_146 rfl (fun v9 u9 hp9 => ?_)
    obtain ⟨rfl, rfl⟩ := hp9
    refine u_wp (ws' := [(h0, .inr (1, [.ref qc])), (qc, aI G 54 (upd (upd (encC z) (6 + a5) (nI v)) v 3))]) [0, 1] rfl rfl ?_
    refine u_eqs (st' := []) rfl ?_
    refine u_goto (tgt := 237) h dX1_advanceNudges_149 (by decide) ?_
    exact u_vret h hRT dX1_advanceNudges_237 (by omega) (by omega) (by refine ⟨rfl, congrArg (fun f => [(h0, .inr (1, [.ref qc])), (qc, aI G 54 f)]) ?_⟩; have e49 : encC z 49 = tN (z 49) := (e_ta z).trans (if_pos hk); first | (simp [chN, tailC, e_ta, tN_eq (hW.ta hk) hv, k4, ea5, hk, E_nx _ hv, E_fl _ hv, E_ah _ hv, E_ow _ hv, E_wa _ hv, E_ti _ hv, E_ta, E_gi, E_se, E_gr, tN_m1, E_st _ hv, u60o _ _ (show v < 7 by omega) (show 6 ≤ 42 by omega), u60o _ _ (show v < 7 by omega) (show 12 ≤ 42 by omega), u60o _ _ (show v < 7 by omega) (show 18 ≤ 42 by omega), u60o _ _ (show v < 7 by omega) (show 24 ≤ 42 by omega), u60o _ _ (show v < 7 by omega) (show 30 ≤ 42 by omega), u60o _ _ (show v < 7 by omega) (show 36 ≤ 42 by omega), u60z _ _ (show v < 7 by omega), u60_49, u60_50, u60_51, u60_52, ix_nI (show a5 < 2 ^ 31 by omega), tN_nI (show a5 < 2 ^ 31 by omega), u60o _ _ (show a5 < 7 by omega) (show 6 ≤ 42 by omega), u60o _ _ (show a5 < 7 by omega) (show 12 ≤ 42 by omega), u60o _ _ (show a5 < 7 by omega) (show 42 ≤ 42 by omega), E_nx _ ha5, E_fl _ ha5, nI_m1, tN_nI (show v < 2 ^ 31 by omega)]; done) | (simp [chN, tailC, e_ta, tN_eq (hW.ta hk) hv, k4, ea5, hk, E_nx _ hv, E_fl _ hv, E_ah _ hv, E_ow _ hv, E_wa _ hv, E_ti _ hv, E_ta, E_gi, E_se, E_gr, tN_m1, E_st _ hv, u60o _ _ (show v < 7 by omega) (show 6 ≤ 42 by omega), u60o _ _ (show v < 7 by omega) (show 12 ≤ 42 by omega), u60o _ _ (show v < 7 by omega) (show 18 ≤ 42 by omega), u60o _ _ (show v < 7 by omega) (show 24 ≤ 42 by omega), u60o _ _ (show v < 7 by omega) (show 30 ≤ 42 by omega), u60o _ _ (show v < 7 by omega) (show 36 ≤ 42 by omega), u60z _ _ (show v < 7 by omega), u60_49, u60_50, u60_51, u60_52, ix_nI (show a5 < 2 ^ 31 by omega), tN_nI (show a5 < 2 ^ 31 by omega), u60o _ _ (show a5 < 7 by omega) (show 6 ≤ 42 by omega), u60o _ _ (show a5 < 7 by omega) (show 12 ≤ 42 by omega), u60o _ _ (show a5 < 7 by omega) (show 42 ≤ 42 by omega), E_nx _ ha5, E_fl _ ha5, nI_m1, tN_nI (show v < 2 ^ 31 by omega)]; clear h hR hL hRT hW; funext j; simp only [upd]; grind))
  by_cases k6 : (z v) = 3
  · refine u_tableIn (off := 147) (tgt := 152) h dX1_advanceNudges_5 (by rw [k6]; decide) (by rw [k6]; decide) (by rw [k6]; rfl) (by decide) ?_
    refine u_aload_n h dX1_advanceNudges_152 rfl 0 rfl rfl ?_
    refine u_get h flX1_advanceNudges_11 0 (v := .ref qc) rfl rfl dX1_advanceNudges_153 rfl ?_
    refine u_bipush (v := 18) h dX1_advanceNudges_156 (by decide) rfl ?_
    refine u_iload_n h dX1_advanceNudges_158 rfl 1 rfl rfl ?_
    refine u_iadd (v := (nI (18 + v))) h dX1_advanceNudges_159 (nI_add 18 v) rfl ?_
    refine u_bipush (v := (-5)) h dX1_advanceNudges_160 (by decide) rfl ?_
    refine u_iast h (n := (18 + v)) (v := (-5)) 1 rfl (by omega) (by omega) rfl (ws' := [(h0, .inr (1, [.ref qc])), (qc, aI G 54 (upd (encC z) (18 + v) (-5)))]) rfl dX1_advanceNudges_162 rfl ?_
    refine u_aload_n h dX1_advanceNudges_163 rfl 0 rfl rfl ?_
    refine u_iload_n h dX1_advanceNudges_164 rfl 1 rfl rfl ?_
    refine u_iconst (v := 4) h dX1_advanceNudges_165 (by decide) rfl ?_
    refine u_callV h (As := [.int (nI v), .int 4]) (wc := [(h0, .inr (1, [.ref qc])), (qc, aI G 54 (upd (encC z) (18 + v) (-5)))]) (wr := []) (kX1_moveTo G h0 qc (upd (encC z) (18 + v) (-5)) v hv 4) cwX1_advanceNudges_X1_moveTo rfl rfl hR ⟨⟨rfl, rfl⟩, by decide, by decide⟩ ⟨Nat.le_of_ble_eq_true rfl, Nat.le_of_ble_eq_true rfl⟩ (ci := 1) (qr := 0) rfl rfl [0, 1] [] rfl rfl rfl rfl (by decide) (Nat.le_of_ble_eq_true rfl) rfl dX1_advanceNudges_166 rfl (fun v9 u9 hp9 => ?_)
    obtain ⟨rfl, rfl⟩ := hp9
    refine u_wp (ws' := [(h0, .inr (1, [.ref qc])), (qc, aI G 54 (upd (upd (encC z) (18 + v) (-5)) v 4))]) [0, 1] rfl rfl ?_
    refine u_eqs (st' := []) rfl ?_
    refine u_goto (tgt := 237) h dX1_advanceNudges_169 (by decide) ?_
    exact u_vret h hRT dX1_advanceNudges_237 (by omega) (by omega) (by refine ⟨rfl, congrArg (fun f => [(h0, .inr (1, [.ref qc])), (qc, aI G 54 f)]) ?_⟩; have e49 : encC z 49 = tN (z 49) := (e_ta z).trans (if_pos hk); first | (simp [chN, tailC, e_ta, tN_eq (hW.ta hk) hv, k6, hk, E_nx _ hv, E_fl _ hv, E_ah _ hv, E_ow _ hv, E_wa _ hv, E_ti _ hv, E_ta, E_gi, E_se, E_gr, tN_m1, E_st _ hv, u60o _ _ (show v < 7 by omega) (show 6 ≤ 42 by omega), u60o _ _ (show v < 7 by omega) (show 12 ≤ 42 by omega), u60o _ _ (show v < 7 by omega) (show 18 ≤ 42 by omega), u60o _ _ (show v < 7 by omega) (show 24 ≤ 42 by omega), u60o _ _ (show v < 7 by omega) (show 30 ≤ 42 by omega), u60o _ _ (show v < 7 by omega) (show 36 ≤ 42 by omega), u60z _ _ (show v < 7 by omega), u60_49, u60_50, u60_51, u60_52, nI_m1, tN_nI (show v < 2 ^ 31 by omega)]; done) | (simp [chN, tailC, e_ta, tN_eq (hW.ta hk) hv, k6, hk, E_nx _ hv, E_fl _ hv, E_ah _ hv, E_ow _ hv, E_wa _ hv, E_ti _ hv, E_ta, E_gi, E_se, E_gr, tN_m1, E_st _ hv, u60o _ _ (show v < 7 by omega) (show 6 ≤ 42 by omega), u60o _ _ (show v < 7 by omega) (show 12 ≤ 42 by omega), u60o _ _ (show v < 7 by omega) (show 18 ≤ 42 by omega), u60o _ _ (show v < 7 by omega) (show 24 ≤ 42 by omega), u60o _ _ (show v < 7 by omega) (show 30 ≤ 42 by omega), u60o _ _ (show v < 7 by omega) (show 36 ≤ 42 by omega), u60z _ _ (show v < 7 by omega), u60_49, u60_50, u60_51, u60_52, nI_m1, tN_nI (show v < 2 ^ 31 by omega)]; clear h hR hL hRT hW; funext j; simp only [upd]; grind))
  by_cases k7 : (z v) = 4
  · refine u_tableIn (off := 167) (tgt := 172) h dX1_advanceNudges_5 (by rw [k7]; decide) (by rw [k7]; decide) (by rw [k7]; rfl) (by decide) ?_
    refine u_aload_n h dX1_advanceNudges_172 rfl 0 rfl rfl ?_
    refine u_iload_n h dX1_advanceNudges_173 rfl 1 rfl rfl ?_
    refine u_aload_n h dX1_advanceNudges_174 rfl 0 rfl rfl ?_
    refine u_get h flX1_advanceNudges_11 0 (v := .ref qc) rfl rfl dX1_advanceNudges_175 rfl ?_
    refine u_bipush (v := 6) h dX1_advanceNudges_178 (by decide) rfl ?_
    refine u_iload_n h dX1_advanceNudges_180 rfl 1 rfl rfl ?_
    refine u_iadd (v := (nI (6 + v))) h dX1_advanceNudges_181 (nI_add 6 v) rfl ?_
    refine u_iald h (n := (6 + v)) 1 rfl (by omega) (by omega) dX1_advanceNudges_182 rfl ?_
    refine u_top (y := (tN (z (6 + v)))) (e_nx hv) ?_
    refine u_bipush (v := (-5)) h dX1_advanceNudges_183 (by decide) rfl ?_
    refine u_icmp_ne (tgt := 192) h dX1_advanceNudges_185 (by decide) rfl (fun c8 => ?_) (fun c8 => ?_)
    · refine u_bipush (v := 7) h dX1_advanceNudges_192 (by decide) rfl ?_
      refine u_callV h (As := [.int (nI v), .int 7]) (wc := [(h0, .inr (1, [.ref qc])), (qc, aI G 54 (encC z))]) (wr := []) (kX1_moveTo G h0 qc (encC z) v hv 7) cwX1_advanceNudges_X1_moveTo rfl rfl hR ⟨⟨rfl, rfl⟩, by decide, by decide⟩ ⟨Nat.le_of_ble_eq_true rfl, Nat.le_of_ble_eq_true rfl⟩ (ci := 1) (qr := 0) rfl rfl [0, 1] [] rfl rfl rfl rfl (by decide) (Nat.le_of_ble_eq_true rfl) rfl dX1_advanceNudges_194 rfl (fun v9 u9 hp9 => ?_)
      obtain ⟨rfl, rfl⟩ := hp9
      refine u_wp (ws' := [(h0, .inr (1, [.ref qc])), (qc, aI G 54 (upd (encC z) v 7))]) [0, 1] rfl rfl ?_
      refine u_eqs (st' := []) rfl ?_
      refine u_goto (tgt := 237) h dX1_advanceNudges_197 (by decide) ?_
      exact u_vret h hRT dX1_advanceNudges_237 (by omega) (by omega) (by refine ⟨rfl, congrArg (fun f => [(h0, .inr (1, [.ref qc])), (qc, aI G 54 f)]) ?_⟩; have e49 : encC z 49 = tN (z 49) := (e_ta z).trans (if_pos hk); first | (simp [chN, tailC, e_ta, tN_eq (hW.ta hk) hv, k7, c8, hk, E_nx _ hv, E_fl _ hv, E_ah _ hv, E_ow _ hv, E_wa _ hv, E_ti _ hv, E_ta, E_gi, E_se, E_gr, tN_m1, E_st _ hv, u60o _ _ (show v < 7 by omega) (show 6 ≤ 42 by omega), u60o _ _ (show v < 7 by omega) (show 12 ≤ 42 by omega), u60o _ _ (show v < 7 by omega) (show 18 ≤ 42 by omega), u60o _ _ (show v < 7 by omega) (show 24 ≤ 42 by omega), u60o _ _ (show v < 7 by omega) (show 30 ≤ 42 by omega), u60o _ _ (show v < 7 by omega) (show 36 ≤ 42 by omega), u60z _ _ (show v < 7 by omega), u60_49, u60_50, u60_51, u60_52, mt (tN_iff (hW.nx hv)).mpr c8, nI_m1, tN_nI (show v < 2 ^ 31 by omega)]; done) | (simp [chN, tailC, e_ta, tN_eq (hW.ta hk) hv, k7, c8, hk, E_nx _ hv, E_fl _ hv, E_ah _ hv, E_ow _ hv, E_wa _ hv, E_ti _ hv, E_ta, E_gi, E_se, E_gr, tN_m1, E_st _ hv, u60o _ _ (show v < 7 by omega) (show 6 ≤ 42 by omega), u60o _ _ (show v < 7 by omega) (show 12 ≤ 42 by omega), u60o _ _ (show v < 7 by omega) (show 18 ≤ 42 by omega), u60o _ _ (show v < 7 by omega) (show 24 ≤ 42 by omega), u60o _ _ (show v < 7 by omega) (show 30 ≤ 42 by omega), u60o _ _ (show v < 7 by omega) (show 36 ≤ 42 by omega), u60z _ _ (show v < 7 by omega), u60_49, u60_50, u60_51, u60_52, mt (tN_iff (hW.nx hv)).mpr c8, nI_m1, tN_nI (show v < 2 ^ 31 by omega)]; clear h hR hL hRT hW; funext j; simp only [upd]; grind))
    · refine u_iconst (v := 5) h dX1_advanceNudges_188 (by decide) rfl ?_
      refine u_goto (tgt := 194) h dX1_advanceNudges_189 (by decide) ?_
      refine u_callV h (As := [.int (nI v), .int 5]) (wc := [(h0, .inr (1, [.ref qc])), (qc, aI G 54 (encC z))]) (wr := []) (kX1_moveTo G h0 qc (encC z) v hv 5) cwX1_advanceNudges_X1_moveTo rfl rfl hR ⟨⟨rfl, rfl⟩, by decide, by decide⟩ ⟨Nat.le_of_ble_eq_true rfl, Nat.le_of_ble_eq_true rfl⟩ (ci := 1) (qr := 0) rfl rfl [0, 1] [] rfl rfl rfl rfl (by decide) (Nat.le_of_ble_eq_true rfl) rfl dX1_advanceNudges_194 rfl (fun v9 u9 hp9 => ?_)
      obtain ⟨rfl, rfl⟩ := hp9
      refine u_wp (ws' := [(h0, .inr (1, [.ref qc])), (qc, aI G 54 (upd (encC z) v 5))]) [0, 1] rfl rfl ?_
      refine u_eqs (st' := []) rfl ?_
      refine u_goto (tgt := 237) h dX1_advanceNudges_197 (by decide) ?_
      exact u_vret h hRT dX1_advanceNudges_237 (by omega) (by omega) (by refine ⟨rfl, congrArg (fun f => [(h0, .inr (1, [.ref qc])), (qc, aI G 54 f)]) ?_⟩; have e49 : encC z 49 = tN (z 49) := (e_ta z).trans (if_pos hk); first | (simp [chN, tailC, e_ta, tN_eq (hW.ta hk) hv, k7, c8, hk, E_nx _ hv, E_fl _ hv, E_ah _ hv, E_ow _ hv, E_wa _ hv, E_ti _ hv, E_ta, E_gi, E_se, E_gr, tN_m1, E_st _ hv, u60o _ _ (show v < 7 by omega) (show 6 ≤ 42 by omega), u60o _ _ (show v < 7 by omega) (show 12 ≤ 42 by omega), u60o _ _ (show v < 7 by omega) (show 18 ≤ 42 by omega), u60o _ _ (show v < 7 by omega) (show 24 ≤ 42 by omega), u60o _ _ (show v < 7 by omega) (show 30 ≤ 42 by omega), u60o _ _ (show v < 7 by omega) (show 36 ≤ 42 by omega), u60z _ _ (show v < 7 by omega), u60_49, u60_50, u60_51, u60_52, (tN_iff (hW.nx hv)).mp c8, nI_m1, tN_nI (show v < 2 ^ 31 by omega)]; done) | (simp [chN, tailC, e_ta, tN_eq (hW.ta hk) hv, k7, c8, hk, E_nx _ hv, E_fl _ hv, E_ah _ hv, E_ow _ hv, E_wa _ hv, E_ti _ hv, E_ta, E_gi, E_se, E_gr, tN_m1, E_st _ hv, u60o _ _ (show v < 7 by omega) (show 6 ≤ 42 by omega), u60o _ _ (show v < 7 by omega) (show 12 ≤ 42 by omega), u60o _ _ (show v < 7 by omega) (show 18 ≤ 42 by omega), u60o _ _ (show v < 7 by omega) (show 24 ≤ 42 by omega), u60o _ _ (show v < 7 by omega) (show 30 ≤ 42 by omega), u60o _ _ (show v < 7 by omega) (show 36 ≤ 42 by omega), u60z _ _ (show v < 7 by omega), u60_49, u60_50, u60_51, u60_52, (tN_iff (hW.nx hv)).mp c8, nI_m1, tN_nI (show v < 2 ^ 31 by omega)]; clear h hR hL hRT hW; funext j; simp only [upd]; grind))
  by_cases k9 : (z v) = 5
  · refine u_tableIn (off := 195) (tgt := 200) h dX1_advanceNudges_5 (by rw [k9]; decide) (by rw [k9]; decide) (by rw [k9]; rfl) (by decide) ?_
    refine u_aload_n h dX1_advanceNudges_200 rfl 0 rfl rfl ?_
    refine u_iload_n h dX1_advanceNudges_201 rfl 1 rfl rfl ?_
    refine u_callV h (As := [.int (nI v)]) (wc := [(h0, .inr (1, [.ref qc])), (qc, aI G 54 (encC z))]) (wr := []) (kX1_leaveTail G h0 qc (encC z) v hv) cwX1_advanceNudges_X1_leaveTail rfl rfl hR ⟨⟨rfl, rfl⟩, by decide, by decide⟩ ⟨Nat.le_of_ble_eq_true rfl, Nat.le_of_ble_eq_true rfl⟩ (ci := 1) (qr := 0) rfl rfl [0, 1] [] rfl rfl rfl rfl (by decide) (Nat.le_of_ble_eq_true rfl) rfl dX1_advanceNudges_202 rfl (fun v9 u9 hp9 => ?_)
    obtain ⟨rfl, rfl⟩ := hp9
    refine u_wp (ws' := [(h0, .inr (1, [.ref qc])), (qc, aI G 54 (tailC (encC z) v))]) [0, 1] rfl rfl ?_
    refine u_eqs (st' := []) rfl ?_
    refine u_goto (tgt := 237) h dX1_advanceNudges_205 (by decide) ?_
    exact u_vret h hRT dX1_advanceNudges_237 (by omega) (by omega) (by refine ⟨rfl, congrArg (fun f => [(h0, .inr (1, [.ref qc])), (qc, aI G 54 f)]) ?_⟩; have e49 : encC z 49 = tN (z 49) := (e_ta z).trans (if_pos hk); rcases Decidable.em (z 49 = nI v) with q5 | q5 <;> (first | (simp [chN, tailC, e_ta, tN_eq (hW.ta hk) hv, k9, hk, E_nx _ hv, E_fl _ hv, E_ah _ hv, E_ow _ hv, E_wa _ hv, E_ti _ hv, E_ta, E_gi, E_se, E_gr, tN_m1, E_st _ hv, u60o _ _ (show v < 7 by omega) (show 6 ≤ 42 by omega), u60o _ _ (show v < 7 by omega) (show 12 ≤ 42 by omega), u60o _ _ (show v < 7 by omega) (show 18 ≤ 42 by omega), u60o _ _ (show v < 7 by omega) (show 24 ≤ 42 by omega), u60o _ _ (show v < 7 by omega) (show 30 ≤ 42 by omega), u60o _ _ (show v < 7 by omega) (show 36 ≤ 42 by omega), u60z _ _ (show v < 7 by omega), u60_49, u60_50, u60_51, u60_52, nI_m1, tN_nI (show v < 2 ^ 31 by omega), q5]; done) | (simp [chN, tailC, e_ta, tN_eq (hW.ta hk) hv, k9, hk, E_nx _ hv, E_fl _ hv, E_ah _ hv, E_ow _ hv, E_wa _ hv, E_ti _ hv, E_ta, E_gi, E_se, E_gr, tN_m1, E_st _ hv, u60o _ _ (show v < 7 by omega) (show 6 ≤ 42 by omega), u60o _ _ (show v < 7 by omega) (show 12 ≤ 42 by omega), u60o _ _ (show v < 7 by omega) (show 18 ≤ 42 by omega), u60o _ _ (show v < 7 by omega) (show 24 ≤ 42 by omega), u60o _ _ (show v < 7 by omega) (show 30 ≤ 42 by omega), u60o _ _ (show v < 7 by omega) (show 36 ≤ 42 by omega), u60z _ _ (show v < 7 by omega), u60_49, u60_50, u60_51, u60_52, nI_m1, tN_nI (show v < 2 ^ 31 by omega), q5]; clear h hR hL hRT hW; funext j; simp only [upd]; grind)))
  by_cases k10 : (z v) = 6
  · refine u_tableIn (off := 203) (tgt := 208) h dX1_advanceNudges_5 (by rw [k10]; decide) (by rw [k10]; decide) (by rw [k10]; rfl) (by decide) ?_
    refine u_aload_n h dX1_advanceNudges_208 rfl 0 rfl rfl ?_
    refine u_iload_n h dX1_advanceNudges_209 rfl 1 rfl rfl ?_
    refine u_bipush (v := 7) h dX1_advanceNudges_210 (by decide) rfl ?_
    refine u_callV h (As := [.int (nI v), .int 7]) (wc := [(h0, .inr (1, [.ref qc])), (qc, aI G 54 (encC z))]) (wr := []) (kX1_moveTo G h0 qc (encC z) v hv 7) cwX1_advanceNudges_X1_moveTo rfl rfl hR ⟨⟨rfl, rfl⟩, by decide, by decide⟩ ⟨Nat.le_of_ble_eq_true rfl, Nat.le_of_ble_eq_true rfl⟩ (ci := 1) (qr := 0) rfl rfl [0, 1] [] rfl rfl rfl rfl (by decide) (Nat.le_of_ble_eq_true rfl) rfl dX1_advanceNudges_212 rfl (fun v9 u9 hp9 => ?_)
    obtain ⟨rfl, rfl⟩ := hp9
    refine u_wp (ws' := [(h0, .inr (1, [.ref qc])), (qc, aI G 54 (upd (encC z) v 7))]) [0, 1] rfl rfl ?_
    refine u_eqs (st' := []) rfl ?_
    refine u_goto (tgt := 237) h dX1_advanceNudges_215 (by decide) ?_
    exact u_vret h hRT dX1_advanceNudges_237 (by omega) (by omega) (by refine ⟨rfl, congrArg (fun f => [(h0, .inr (1, [.ref qc])), (qc, aI G 54 f)]) ?_⟩; have e49 : encC z 49 = tN (z 49) := (e_ta z).trans (if_pos hk); first | (simp [chN, tailC, e_ta, tN_eq (hW.ta hk) hv, k10, hk, E_nx _ hv, E_fl _ hv, E_ah _ hv, E_ow _ hv, E_wa _ hv, E_ti _ hv, E_ta, E_gi, E_se, E_gr, tN_m1, E_st _ hv, u60o _ _ (show v < 7 by omega) (show 6 ≤ 42 by omega), u60o _ _ (show v < 7 by omega) (show 12 ≤ 42 by omega), u60o _ _ (show v < 7 by omega) (show 18 ≤ 42 by omega), u60o _ _ (show v < 7 by omega) (show 24 ≤ 42 by omega), u60o _ _ (show v < 7 by omega) (show 30 ≤ 42 by omega), u60o _ _ (show v < 7 by omega) (show 36 ≤ 42 by omega), u60z _ _ (show v < 7 by omega), u60_49, u60_50, u60_51, u60_52, nI_m1, tN_nI (show v < 2 ^ 31 by omega)]; done) | (simp [chN, tailC, e_ta, tN_eq (hW.ta hk) hv, k10, hk, E_nx _ hv, E_fl _ hv, E_ah _ hv, E_ow _ hv, E_wa _ hv, E_ti _ hv, E_ta, E_gi, E_se, E_gr, tN_m1, E_st _ hv, u60o _ _ (show v < 7 by omega) (show 6 ≤ 42 by omega), u60o _ _ (show v < 7 by omega) (show 12 ≤ 42 by omega), u60o _ _ (show v < 7 by omega) (show 18 ≤ 42 by omega), u60o _ _ (show v < 7 by omega) (show 24 ≤ 42 by omega), u60o _ _ (show v < 7 by omega) (show 30 ≤ 42 by omega), u60o _ _ (show v < 7 by omega) (show 36 ≤ 42 by omega), u60z _ _ (show v < 7 by omega), u60_49, u60_50, u60_51, u60_52, nI_m1, tN_nI (show v < 2 ^ 31 by omega)]; clear h hR hL hRT hW; funext j; simp only [upd]; grind))
  refine u_tableOut (tgt := 218) h dX1_advanceNudges_5 (ti_out (n := 7) (by decide) (fun k9 hk9 => by rcases (show k9 = 0 ∨ k9 = 1 ∨ k9 = 2 ∨ k9 = 3 ∨ k9 = 4 ∨ k9 = 5 ∨ k9 = 6 by omega) with rfl | rfl | rfl | rfl | rfl | rfl | rfl <;> assumption)) (by decide) ?_
  refine u_aload_n h dX1_advanceNudges_218 rfl 0 rfl rfl ?_
  refine u_aload_n h dX1_advanceNudges_219 rfl 0 rfl rfl ?_
  refine u_get h flX1_advanceNudges_11 0 (v := .ref qc) rfl rfl dX1_advanceNudges_220 rfl ?_
  refine u_bipush (v := 6) h dX1_advanceNudges_223 (by decide) rfl ?_
  refine u_iload_n h dX1_advanceNudges_225 rfl 1 rfl rfl ?_
  refine u_iadd (v := (nI (6 + v))) h dX1_advanceNudges_226 (nI_add 6 v) rfl ?_
  refine u_iald h (n := (6 + v)) 1 rfl (by omega) (by omega) dX1_advanceNudges_227 rfl ?_
  refine u_top (y := (tN (z (6 + v)))) (e_nx hv) ?_
  obtain ⟨a11, ha11, ea11⟩ := hW.1.n hk hv k1 k2 k4 k6 k7 k9 k10
  refine u_top (y := nI a11) (by rw [ea11]; exact tN_nI (by omega)) ?_
  refine u_callV h (As := [.int (nI a11)]) (wc := [(h0, .inr (1, [.ref qc])), (qc, aI G 54 (encC z))]) (wr := []) (kX1_lowerFlag G h0 qc (encC z) a11 ha11) cwX1_advanceNudges_X1_lowerFlag rfl rfl hR ⟨⟨rfl, rfl⟩, by decide, by decide⟩ ⟨Nat.le_of_ble_eq_true rfl, Nat.le_of_ble_eq_true rfl⟩ (ci := 1) (qr := 0) rfl rfl [0, 1] [] rfl rfl rfl rfl (by decide) (Nat.le_of_ble_eq_true rfl) rfl dX1_advanceNudges_228 rfl (fun v9 u9 hp9 => ?_)
  obtain ⟨rfl, rfl⟩ := hp9
  refine u_wp (ws' := [(h0, .inr (1, [.ref qc])), (qc, aI G 54 (upd (encC z) (12 + a11) 0))]) [0, 1] rfl rfl ?_
  refine u_eqs (st' := []) rfl ?_
  refine u_aload_n h dX1_advanceNudges_231 rfl 0 rfl rfl ?_
  refine u_iload_n h dX1_advanceNudges_232 rfl 1 rfl rfl ?_
  refine u_iconst (v := 0) h dX1_advanceNudges_233 (by decide) rfl ?_
  refine u_callV h (As := [.int (nI v), .int 0]) (wc := [(h0, .inr (1, [.ref qc])), (qc, aI G 54 (upd (encC z) (12 + a11) 0))]) (wr := []) (kX1_moveTo G h0 qc (upd (encC z) (12 + a11) 0) v hv 0) cwX1_advanceNudges_X1_moveTo rfl rfl hR ⟨⟨rfl, rfl⟩, by decide, by decide⟩ ⟨Nat.le_of_ble_eq_true rfl, Nat.le_of_ble_eq_true rfl⟩ (ci := 1) (qr := 0) rfl rfl [0, 1] [] rfl rfl rfl rfl (by decide) (Nat.le_of_ble_eq_true rfl) rfl dX1_advanceNudges_234 rfl (fun v9 u9 hp9 => ?_)
  obtain ⟨rfl, rfl⟩ := hp9
  refine u_wp (ws' := [(h0, .inr (1, [.ref qc])), (qc, aI G 54 (upd (upd (encC z) (12 + a11) 0) v 0))]) [0, 1] rfl rfl ?_
  refine u_eqs (st' := []) rfl ?_
  exact u_vret h hRT dX1_advanceNudges_237 (by omega) (by omega) (by refine ⟨rfl, congrArg (fun f => [(h0, .inr (1, [.ref qc])), (qc, aI G 54 f)]) ?_⟩; have e49 : encC z 49 = tN (z 49) := (e_ta z).trans (if_pos hk); first | (simp [chN, tailC, e_ta, tN_eq (hW.ta hk) hv, ea11, k1, k2, k4, k6, k7, k9, k10, hk, E_nx _ hv, E_fl _ hv, E_ah _ hv, E_ow _ hv, E_wa _ hv, E_ti _ hv, E_ta, E_gi, E_se, E_gr, tN_m1, E_st _ hv, u60o _ _ (show v < 7 by omega) (show 6 ≤ 42 by omega), u60o _ _ (show v < 7 by omega) (show 12 ≤ 42 by omega), u60o _ _ (show v < 7 by omega) (show 18 ≤ 42 by omega), u60o _ _ (show v < 7 by omega) (show 24 ≤ 42 by omega), u60o _ _ (show v < 7 by omega) (show 30 ≤ 42 by omega), u60o _ _ (show v < 7 by omega) (show 36 ≤ 42 by omega), u60z _ _ (show v < 7 by omega), u60_49, u60_50, u60_51, u60_52, ix_nI (show a11 < 2 ^ 31 by omega), tN_nI (show a11 < 2 ^ 31 by omega), u60o _ _ (show a11 < 7 by omega) (show 6 ≤ 42 by omega), u60o _ _ (show a11 < 7 by omega) (show 12 ≤ 42 by omega), u60o _ _ (show a11 < 7 by omega) (show 42 ≤ 42 by omega), E_nx _ ha11, E_fl _ ha11, nI_m1, tN_nI (show v < 2 ^ 31 by omega)]; done) | (simp [chN, tailC, e_ta, tN_eq (hW.ta hk) hv, ea11, k1, k2, k4, k6, k7, k9, k10, hk, E_nx _ hv, E_fl _ hv, E_ah _ hv, E_ow _ hv, E_wa _ hv, E_ti _ hv, E_ta, E_gi, E_se, E_gr, tN_m1, E_st _ hv, u60o _ _ (show v < 7 by omega) (show 6 ≤ 42 by omega), u60o _ _ (show v < 7 by omega) (show 12 ≤ 42 by omega), u60o _ _ (show v < 7 by omega) (show 18 ≤ 42 by omega), u60o _ _ (show v < 7 by omega) (show 24 ≤ 42 by omega), u60o _ _ (show v < 7 by omega) (show 30 ≤ 42 by omega), u60o _ _ (show v < 7 by omega) (show 36 ≤ 42 by omega), u60z _ _ (show v < 7 by omega), u60_49, u60_50, u60_51, u60_52, ix_nI (show a11 < 2 ^ 31 by omega), tN_nI (show a11 < 2 ^ 31 by omega), u60o _ _ (show a11 < 7 by omega) (show 6 ≤ 42 by omega), u60o _ _ (show a11 < 7 by omega) (show 12 ≤ 42 by omega), u60o _ _ (show a11 < 7 by omega) (show 42 ≤ 42 by omega), E_nx _ ha11, E_fl _ ha11, nI_m1, tN_nI (show v < 2 ^ 31 by omega)]; clear h hR hL hRT hW; funext j; simp only [upd]; grind))

theorem flX1_advanceWatching_11 : FL wsX1_advanceWatching RX1 11 1 0 := ⟨RX1, TX1, 1, rfl, by decide, by decide +kernel, by decide +kernel⟩
set_option maxRecDepth 20000 in
theorem cwX1_advanceWatching_X1_stage : CWd wsX1_advanceWatching (wsV RX1 33 RX1 yX1_stage wsX1_stage) yX1_stage wsX1_stage cX1_stage 2 (some .int) 1 := ⟨gX1_advanceWatching_X1_stage, ⟨_, rfl⟩, by decide +kernel, by decide, by decide⟩
set_option maxRecDepth 20000 in
theorem cwX1_advanceWatching_X1_setCardFlag : CWd wsX1_advanceWatching (wsV RX1 77 RX1 yX1_setCardFlag wsX1_setCardFlag) yX1_setCardFlag wsX1_setCardFlag cX1_setCardFlag 3 none 2 := ⟨gX1_advanceWatching_X1_setCardFlag, ⟨_, rfl⟩, by decide +kernel, by decide, by decide⟩
set_option maxRecDepth 20000 in
theorem cwX1_advanceWatching_X1_moveTo : CWd wsX1_advanceWatching (wsV RX1 61 RX1 yX1_moveTo wsX1_moveTo) yX1_moveTo wsX1_moveTo cX1_moveTo 3 none 2 := ⟨gX1_advanceWatching_X1_moveTo, ⟨_, rfl⟩, by decide +kernel, by decide, by decide⟩
set_option maxHeartbeats 8000000 in
set_option maxRecDepth 100000 in
theorem kX1_advanceWatching (G : Gx) (h0 qc : Nat) (z : Zf) (v : Nat) (hv : v < 6) (hW : Wc z) (hk : z 60 = 1) : MC G yX1_advanceWatching wsX1_advanceWatching ({ frames := 2, cells := 0, slots := 0, locals := 42 } : Room) [.ref h0, .int (nI v)] [(h0, .inr (1, [.ref qc])), (qc, aI G 54 (encC z))] (fun v' u' => v' = none ∧ u' = [(h0, .inr (1, [.ref qc])), (qc, aI G 54 (encC (chW z v)))]) 0 0 := by
  refine mc_of (cc := cX1_advanceWatching) (maxL := 2) (ret := none) (by decide) rfl (Nat.le_of_ble_eq_true rfl) (fun X h hR hL hRT => ?_)
  refine u_eql (lv' := [(0, .ref h0), (1, .int (nI v))]) rfl ?_
  refine u_aload_n h dX1_advanceWatching_0 rfl 0 rfl rfl ?_
  refine u_iload_n h dX1_advanceWatching_1 rfl 1 rfl rfl ?_
  refine u_callV h (As := [.int (nI v)]) (wc := [(h0, .inr (1, [.ref qc])), (qc, aI G 54 (encC z))]) (wr := []) (kX1_stage G h0 qc (encC z) v hv) cwX1_advanceWatching_X1_stage rfl rfl hR ⟨⟨rfl, rfl⟩, by decide, by decide⟩ ⟨Nat.le_of_ble_eq_true rfl, Nat.le_of_ble_eq_true rfl⟩ (ci := 1) (qr := 0) rfl rfl [0, 1] [] rfl rfl rfl rfl (by decide) (Nat.le_of_ble_eq_true rfl) rfl dX1_advanceWatching_2 rfl (fun v9 u9 hp9 => ?_)
  obtain ⟨rfl, rfl⟩ := hp9
  refine u_wp (ws' := [(h0, .inr (1, [.ref qc])), (qc, aI G 54 (encC z))]) [0, 1] rfl rfl ?_
  refine u_eqs (st' := [.int ((encC z) v)]) rfl ?_
  refine u_top (y := (z v)) (e_st hv) ?_
  by_cases k1 : (z v) = 0
  · refine u_tableIn (off := 31) (tgt := 36) h dX1_advanceWatching_5 (by rw [k1]; decide) (by rw [k1]; decide) (by rw [k1]; rfl) (by decide) ?_
    refine u_aload_n h dX1_advanceWatching_36 rfl 0 rfl rfl ?_
    refine u_aload_n h dX1_advanceWatching_37 rfl 0 rfl rfl ?_
    refine u_get h flX1_advanceWatching_11 0 (v := .ref qc) rfl rfl dX1_advanceWatching_38 rfl ?_
    refine u_bipush (v := 24) h dX1_advanceWatching_41 (by decide) rfl ?_
    refine u_iload_n h dX1_advanceWatching_43 rfl 1 rfl rfl ?_
    refine u_iadd (v := (nI (24 + v))) h dX1_advanceWatching_44 (nI_add 24 v) rfl ?_
    refine u_iald h (n := (24 + v)) 1 rfl (by omega) (by omega) dX1_advanceWatching_45 rfl ?_
    refine u_top (y := (z (24 + v))) ((e_ow hv).trans (if_pos hk)) ?_
    obtain ⟨a2, ha2, ea2⟩ := hW.1.o hk hv
    refine u_top (y := nI a2) ea2 ?_
    refine u_iconst (v := 1) h dX1_advanceWatching_46 (by decide) rfl ?_
    refine u_callV h (As := [.int (nI a2), .int 1]) (wc := [(h0, .inr (1, [.ref qc])), (qc, aI G 54 (encC z))]) (wr := []) (kX1_setCardFlag G h0 qc (encC z) a2 ha2 1) cwX1_advanceWatching_X1_setCardFlag rfl rfl hR ⟨⟨rfl, rfl⟩, by decide, by decide⟩ ⟨Nat.le_of_ble_eq_true rfl, Nat.le_of_ble_eq_true rfl⟩ (ci := 1) (qr := 0) rfl rfl [0, 1] [] rfl rfl rfl rfl (by decide) (Nat.le_of_ble_eq_true rfl) rfl dX1_advanceWatching_47 rfl (fun v9 u9 hp9 => ?_)
    obtain ⟨rfl, rfl⟩ := hp9
    refine u_wp (ws' := [(h0, .inr (1, [.ref qc])), (qc, aI G 54 (upd (encC z) (42 + a2) 1))]) [0, 1] rfl rfl ?_
    refine u_eqs (st' := []) rfl ?_
    refine u_aload_n h dX1_advanceWatching_50 rfl 0 rfl rfl ?_
    refine u_iload_n h dX1_advanceWatching_51 rfl 1 rfl rfl ?_
    refine u_iconst (v := 1) h dX1_advanceWatching_52 (by decide) rfl ?_
    refine u_callV h (As := [.int (nI v), .int 1]) (wc := [(h0, .inr (1, [.ref qc])), (qc, aI G 54 (upd (encC z) (42 + a2) 1))]) (wr := []) (kX1_moveTo G h0 qc (upd (encC z) (42 + a2) 1) v hv 1) cwX1_advanceWatching_X1_moveTo rfl rfl hR ⟨⟨rfl, rfl⟩, by decide, by decide⟩ ⟨Nat.le_of_ble_eq_true rfl, Nat.le_of_ble_eq_true rfl⟩ (ci := 1) (qr := 0) rfl rfl [0, 1] [] rfl rfl rfl rfl (by decide) (Nat.le_of_ble_eq_true rfl) rfl dX1_advanceWatching_53 rfl (fun v9 u9 hp9 => ?_)
    obtain ⟨rfl, rfl⟩ := hp9
    refine u_wp (ws' := [(h0, .inr (1, [.ref qc])), (qc, aI G 54 (upd (upd (encC z) (42 + a2) 1) v 1))]) [0, 1] rfl rfl ?_
    refine u_eqs (st' := []) rfl ?_
    refine u_goto (tgt := 158) h dX1_advanceWatching_56 (by decide) ?_
    exact u_vret h hRT dX1_advanceWatching_158 (by omega) (by omega) (by refine ⟨rfl, congrArg (fun f => [(h0, .inr (1, [.ref qc])), (qc, aI G 54 f)]) ?_⟩; have e49 : encC z 49 = z 49 := (e_ta z).trans ((if_neg (by rw [hk]; decide)).trans (if_pos hk)); first | (simp [chW, k1, ea2, hk, E_nx _ hv, E_fl _ hv, E_ah _ hv, E_ow _ hv, E_wa _ hv, E_ti _ hv, E_ta, E_gi, E_se, E_gr, tN_m1, E_st _ hv, u60o _ _ (show v < 7 by omega) (show 6 ≤ 42 by omega), u60o _ _ (show v < 7 by omega) (show 12 ≤ 42 by omega), u60o _ _ (show v < 7 by omega) (show 18 ≤ 42 by omega), u60o _ _ (show v < 7 by omega) (show 24 ≤ 42 by omega), u60o _ _ (show v < 7 by omega) (show 30 ≤ 42 by omega), u60o _ _ (show v < 7 by omega) (show 36 ≤ 42 by omega), u60z _ _ (show v < 7 by omega), u60_49, u60_50, u60_51, u60_52, ix_nI (show a2 < 2 ^ 31 by omega), tN_nI (show a2 < 2 ^ 31 by omega), u60o _ _ (show a2 < 7 by omega) (show 6 ≤ 42 by omega), u60o _ _ (show a2 < 7 by omega) (show 12 ≤ 42 by omega), u60o _ _ (show a2 < 7 by omega) (show 42 ≤ 42 by omega), E_ca _ ha2]; done) | (simp [chW, k1, ea2, hk, E_nx _ hv, E_fl _ hv, E_ah _ hv, E_ow _ hv, E_wa _ hv, E_ti _ hv, E_ta, E_gi, E_se, E_gr, tN_m1, E_st _ hv, u60o _ _ (show v < 7 by omega) (show 6 ≤ 42 by omega), u60o _ _ (show v < 7 by omega) (show 12 ≤ 42 by omega), u60o _ _ (show v < 7 by omega) (show 18 ≤ 42 by omega), u60o _ _ (show v < 7 by omega) (show 24 ≤ 42 by omega), u60o _ _ (show v < 7 by omega) (show 30 ≤ 42 by omega), u60o _ _ (show v < 7 by omega) (show 36 ≤ 42 by omega), u60z _ _ (show v < 7 by omega), u60_49, u60_50, u60_51, u60_52, ix_nI (show a2 < 2 ^ 31 by omega), tN_nI (show a2 < 2 ^ 31 by omega), u60o _ _ (show a2 < 7 by omega) (show 6 ≤ 42 by omega), u60o _ _ (show a2 < 7 by omega) (show 12 ≤ 42 by omega), u60o _ _ (show a2 < 7 by omega) (show 42 ≤ 42 by omega), E_ca _ ha2]; clear h hR hL hRT hW; funext j; simp only [upd]; grind))
  by_cases k3 : (z v) = 1
  · refine u_tableIn (off := 54) (tgt := 59) h dX1_advanceWatching_5 (by rw [k3]; decide) (by rw [k3]; decide) (by rw [k3]; rfl) (by decide) ?_
    obtain ⟨a0, ha0, ea0⟩ := hW.tw hk
    refine u_aload_n h dX1_advanceWatching_59 rfl 0 rfl rfl ?_
    refine u_get h flX1_advanceWatching_11 0 (v := .ref qc) rfl rfl dX1_advanceWatching_60 rfl ?_
    refine u_bipush (v := 30) h dX1_advanceWatching_63 (by decide) rfl ?_
    refine u_iload_n h dX1_advanceWatching_65 rfl 1 rfl rfl ?_
    refine u_iadd (v := (nI (30 + v))) h dX1_advanceWatching_66 (nI_add 30 v) rfl ?_
    refine u_aload_n h dX1_advanceWatching_67 rfl 0 rfl rfl ?_
    refine u_get h flX1_advanceWatching_11 0 (v := .ref qc) rfl rfl dX1_advanceWatching_68 rfl ?_
    refine u_bipush (v := 49) h dX1_advanceWatching_71 (by decide) rfl ?_
    refine u_iald h (n := 49) 1 rfl (by omega) (by omega) dX1_advanceWatching_73 rfl ?_
    refine u_top (y := (z 49)) ((e_ta _).trans ((if_neg (by rw [hk]; decide)).trans (if_pos hk))) ?_
    refine u_iast h (n := (30 + v)) (v := (z 49)) 1 rfl (by omega) (by omega) rfl (ws' := [(h0, .inr (1, [.ref qc])), (qc, aI G 54 (upd (encC z) (30 + v) (z 49)))]) rfl dX1_advanceWatching_74 rfl ?_
    refine u_aload_n h dX1_advanceWatching_75 rfl 0 rfl rfl ?_
    refine u_get h flX1_advanceWatching_11 0 (v := .ref qc) rfl rfl dX1_advanceWatching_76 rfl ?_
    refine u_bipush (v := 49) h dX1_advanceWatching_79 (by decide) rfl ?_
    refine u_aload_n h dX1_advanceWatching_81 rfl 0 rfl rfl ?_
    refine u_get h flX1_advanceWatching_11 0 (v := .ref qc) rfl rfl dX1_advanceWatching_82 rfl ?_
    refine u_bipush (v := 24) h dX1_advanceWatching_85 (by decide) rfl ?_
    refine u_iload_n h dX1_advanceWatching_87 rfl 1 rfl rfl ?_
    refine u_iadd (v := (nI (24 + v))) h dX1_advanceWatching_88 (nI_add 24 v) rfl ?_
    refine u_iald h (n := (24 + v)) 1 rfl (by omega) (by omega) dX1_advanceWatching_89 rfl ?_
    refine u_top (y := ((encC z) (24 + v))) (by rw [pk_un (by omega)]) ?_
    refine u_top (y := (z (24 + v))) ((e_ow hv).trans (if_pos hk)) ?_
    refine u_iast h (n := 49) (v := (z (24 + v))) 1 rfl (by omega) (by omega) rfl (ws' := [(h0, .inr (1, [.ref qc])), (qc, aI G 54 (upd (upd (encC z) (30 + v) (z 49)) 49 (z (24 + v))))]) rfl dX1_advanceWatching_90 rfl ?_
    refine u_aload_n h dX1_advanceWatching_91 rfl 0 rfl rfl ?_
    refine u_iload_n h dX1_advanceWatching_92 rfl 1 rfl rfl ?_
    refine u_iconst (v := 3) h dX1_advanceWatching_93 (by decide) rfl ?_
    refine u_callV h (As := [.int (nI v), .int 3]) (wc := [(h0, .inr (1, [.ref qc])), (qc, aI G 54 (upd (upd (encC z) (30 + v) (z 49)) 49 (z (24 + v))))]) (wr := []) (kX1_moveTo G h0 qc (upd (upd (encC z) (30 + v) (z 49)) 49 (z (24 + v))) v hv 3) cwX1_advanceWatching_X1_moveTo rfl rfl hR ⟨⟨rfl, rfl⟩, by decide, by decide⟩ ⟨Nat.le_of_ble_eq_true rfl, Nat.le_of_ble_eq_true rfl⟩ (ci := 1) (qr := 0) rfl rfl [0, 1] [] rfl rfl rfl rfl (by decide) (Nat.le_of_ble_eq_true rfl) rfl dX1_advanceWatching_94 rfl (fun v9 u9 hp9 => ?_)
    obtain ⟨rfl, rfl⟩ := hp9
    refine u_wp (ws' := [(h0, .inr (1, [.ref qc])), (qc, aI G 54 (upd (upd (upd (encC z) (30 + v) (z 49)) 49 (z (24 + v))) v 3))]) [0, 1] rfl rfl ?_
    refine u_eqs (st' := []) rfl ?_
    refine u_goto (tgt := 158) h dX1_advanceWatching_97 (by decide) ?_
    exact u_vret h hRT dX1_advanceWatching_158 (by omega) (by omega) (by refine ⟨rfl, congrArg (fun f => [(h0, .inr (1, [.ref qc])), (qc, aI G 54 f)]) ?_⟩; have e49 : encC z 49 = z 49 := (e_ta z).trans ((if_neg (by rw [hk]; decide)).trans (if_pos hk)); first | (simp [chW, k3, ea0, hk, E_nx _ hv, E_fl _ hv, E_ah _ hv, E_ow _ hv, E_wa _ hv, E_ti _ hv, E_ta, E_gi, E_se, E_gr, tN_m1, E_st _ hv, u60o _ _ (show v < 7 by omega) (show 6 ≤ 42 by omega), u60o _ _ (show v < 7 by omega) (show 12 ≤ 42 by omega), u60o _ _ (show v < 7 by omega) (show 18 ≤ 42 by omega), u60o _ _ (show v < 7 by omega) (show 24 ≤ 42 by omega), u60o _ _ (show v < 7 by omega) (show 30 ≤ 42 by omega), u60o _ _ (show v < 7 by omega) (show 36 ≤ 42 by omega), u60z _ _ (show v < 7 by omega), u60_49, u60_50, u60_51, u60_52, ix_nI (show a0 < 2 ^ 31 by omega), tN_nI (show a0 < 2 ^ 31 by omega), u60o _ _ (show a0 < 7 by omega) (show 6 ≤ 42 by omega), u60o _ _ (show a0 < 7 by omega) (show 12 ≤ 42 by omega), u60o _ _ (show a0 < 7 by omega) (show 42 ≤ 42 by omega), E_ca _ ha0]; done) | (simp [chW, k3, ea0, hk, E_nx _ hv, E_fl _ hv, E_ah _ hv, E_ow _ hv, E_wa _ hv, E_ti _ hv, E_ta, E_gi, E_se, E_gr, tN_m1, E_st _ hv, u60o _ _ (show v < 7 by omega) (show 6 ≤ 42 by omega), u60o _ _ (show v < 7 by omega) (show 12 ≤ 42 by omega), u60o _ _ (show v < 7 by omega) (show 18 ≤ 42 by omega), u60o _ _ (show v < 7 by omega) (show 24 ≤ 42 by omega), u60o _ _ (show v < 7 by omega) (show 30 ≤ 42 by omega), u60o _ _ (show v < 7 by omega) (show 36 ≤ 42 by omega), u60z _ _ (show v < 7 by omega), u60_49, u60_50, u60_51, u60_52, ix_nI (show a0 < 2 ^ 31 by omega), tN_nI (show a0 < 2 ^ 31 by omega), u60o _ _ (show a0 < 7 by omega) (show 6 ≤ 42 by omega), u60o _ _ (show a0 < 7 by omega) (show 12 ≤ 42 by omega), u60o _ _ (show a0 < 7 by omega) (show 42 ≤ 42 by omega), E_ca _ ha0]; clear h hR hL hRT hW; funext j; simp only [upd]; grind))
  by_cases k4 : (z v) = 2
  · refine u_tableIn (off := 104) (tgt := 109) h dX1_advanceWatching_5 (by rw [k4]; decide) (by rw [k4]; decide) (by rw [k4]; rfl) (by decide) ?_
    obtain ⟨a9, ha9, ea9⟩ := hW.w4 hk hv (by rw [k4]; decide) (by rw [k4]; decide)
    refine u_aload_n h dX1_advanceWatching_109 rfl 0 rfl rfl ?_
    refine u_aload_n h dX1_advanceWatching_110 rfl 0 rfl rfl ?_
    refine u_get h flX1_advanceWatching_11 0 (v := .ref qc) rfl rfl dX1_advanceWatching_111 rfl ?_
    refine u_bipush (v := 24) h dX1_advanceWatching_114 (by decide) rfl ?_
    refine u_iload_n h dX1_advanceWatching_116 rfl 1 rfl rfl ?_
    refine u_iadd (v := (nI (24 + v))) h dX1_advanceWatching_117 (nI_add 24 v) rfl ?_
    refine u_iald h (n := (24 + v)) 1 rfl (by omega) (by omega) dX1_advanceWatching_118 rfl ?_
    refine u_top (y := (z (24 + v))) ((e_ow hv).trans (if_pos hk)) ?_
    obtain ⟨a5, ha5, ea5⟩ := hW.1.o hk hv
    refine u_top (y := nI a5) ea5 ?_
    refine u_iconst (v := 0) h dX1_advanceWatching_119 (by decide) rfl ?_
    refine u_callV h (As := [.int (nI a5), .int 0]) (wc := [(h0, .inr (1, [.ref qc])), (qc, aI G 54 (encC z))]) (wr := []) (kX1_setCardFlag G h0 qc (encC z) a5 ha5 0) cwX1_advanceWatching_X1_setCardFlag rfl rfl hR ⟨⟨rfl, rfl⟩, by decide, by decide⟩ ⟨Nat.le_of_ble_eq_true rfl, Nat.le_of_ble_eq_true rfl⟩ (ci := 1) (qr := 0) rfl rfl [0, 1] [] rfl rfl rfl rfl (by decide) (Nat.le_of_ble_eq_true rfl) rfl dX1_advanceWatching_120 rfl (fun v9 u9 hp9 => ?_)
    obtain ⟨rfl, rfl⟩ := hp9
    refine u_wp (ws' := [(h0, .inr (1, [.ref qc])), (qc, aI G 54 (upd (encC z) (42 + a5) 0))]) [0, 1] rfl rfl ?_
    refine u_eqs (st' := []) rfl ?_
    refine u_aload_n h dX1_advanceWatching_123 rfl 0 rfl rfl ?_
    refine u_get h flX1_advanceWatching_11 0 (v := .ref qc) rfl rfl dX1_advanceWatching_124 rfl ?_
    refine u_bipush (v := 24) h dX1_advanceWatching_127 (by decide) rfl ?_
    refine u_iload_n h dX1_advanceWatching_129 rfl 1 rfl rfl ?_
    refine u_iadd (v := (nI (24 + v))) h dX1_advanceWatching_130 (nI_add 24 v) rfl ?_
    refine u_aload_n h dX1_advanceWatching_131 rfl 0 rfl rfl ?_
    refine u_get h flX1_advanceWatching_11 0 (v := .ref qc) rfl rfl dX1_advanceWatching_132 rfl ?_
    refine u_bipush (v := 30) h dX1_advanceWatching_135 (by decide) rfl ?_
    refine u_iload_n h dX1_advanceWatching_137 rfl 1 rfl rfl ?_
    refine u_iadd (v := (nI (30 + v))) h dX1_advanceWatching_138 (nI_add 30 v) rfl ?_
    refine u_iald h (n := (30 + v)) 1 rfl (by omega) (by omega) dX1_advanceWatching_139 rfl ?_
    refine u_top (y := ((encC z) (30 + v))) (by rw [pk_un (by omega)]) ?_
    refine u_top (y := (tN (z (30 + v)))) (e_wa hv) ?_
    refine u_iast h (n := (24 + v)) (v := (tN (z (30 + v)))) 1 rfl (by omega) (by omega) rfl (ws' := [(h0, .inr (1, [.ref qc])), (qc, aI G 54 (upd (upd (encC z) (42 + a5) 0) (24 + v) (tN (z (30 + v)))))]) rfl dX1_advanceWatching_140 rfl ?_
    refine u_aload_n h dX1_advanceWatching_141 rfl 0 rfl rfl ?_
    refine u_get h flX1_advanceWatching_11 0 (v := .ref qc) rfl rfl dX1_advanceWatching_142 rfl ?_
    refine u_bipush (v := 30) h dX1_advanceWatching_145 (by decide) rfl ?_
    refine u_iload_n h dX1_advanceWatching_147 rfl 1 rfl rfl ?_
    refine u_iadd (v := (nI (30 + v))) h dX1_advanceWatching_148 (nI_add 30 v) rfl ?_
    refine u_bipush (v := (-5)) h dX1_advanceWatching_149 (by decide) rfl ?_
    refine u_iast h (n := (30 + v)) (v := (-5)) 1 rfl (by omega) (by omega) rfl (ws' := [(h0, .inr (1, [.ref qc])), (qc, aI G 54 (upd (upd (upd (encC z) (42 + a5) 0) (24 + v) (tN (z (30 + v)))) (30 + v) (-5)))]) rfl dX1_advanceWatching_151 rfl ?_
    refine u_aload_n h dX1_advanceWatching_152 rfl 0 rfl rfl ?_
    refine u_iload_n h dX1_advanceWatching_153 rfl 1 rfl rfl ?_
    refine u_iconst (v := 0) h dX1_advanceWatching_154 (by decide) rfl ?_
    refine u_callV h (As := [.int (nI v), .int 0]) (wc := [(h0, .inr (1, [.ref qc])), (qc, aI G 54 (upd (upd (upd (encC z) (42 + a5) 0) (24 + v) (tN (z (30 + v)))) (30 + v) (-5)))]) (wr := []) (kX1_moveTo G h0 qc (upd (upd (upd (encC z) (42 + a5) 0) (24 + v) (tN (z (30 + v)))) (30 + v) (-5)) v hv 0) cwX1_advanceWatching_X1_moveTo rfl rfl hR ⟨⟨rfl, rfl⟩, by decide, by decide⟩ ⟨Nat.le_of_ble_eq_true rfl, Nat.le_of_ble_eq_true rfl⟩ (ci := 1) (qr := 0) rfl rfl [0, 1] [] rfl rfl rfl rfl (by decide) (Nat.le_of_ble_eq_true rfl) rfl dX1_advanceWatching_155 rfl (fun v9 u9 hp9 => ?_)
    obtain ⟨rfl, rfl⟩ := hp9
    refine u_wp (ws' := [(h0, .inr (1, [.ref qc])), (qc, aI G 54 (upd (upd (upd (upd (encC z) (42 + a5) 0) (24 + v) (tN (z (30 + v)))) (30 + v) (-5)) v 0))]) [0, 1] rfl rfl ?_
    refine u_eqs (st' := []) rfl ?_
    exact u_vret h hRT dX1_advanceWatching_158 (by omega) (by omega) (by refine ⟨rfl, congrArg (fun f => [(h0, .inr (1, [.ref qc])), (qc, aI G 54 f)]) ?_⟩; have e49 : encC z 49 = z 49 := (e_ta z).trans ((if_neg (by rw [hk]; decide)).trans (if_pos hk)); first | (simp [chW, k4, ea9, ea5, hk, E_nx _ hv, E_fl _ hv, E_ah _ hv, E_ow _ hv, E_wa _ hv, E_ti _ hv, E_ta, E_gi, E_se, E_gr, tN_m1, E_st _ hv, u60o _ _ (show v < 7 by omega) (show 6 ≤ 42 by omega), u60o _ _ (show v < 7 by omega) (show 12 ≤ 42 by omega), u60o _ _ (show v < 7 by omega) (show 18 ≤ 42 by omega), u60o _ _ (show v < 7 by omega) (show 24 ≤ 42 by omega), u60o _ _ (show v < 7 by omega) (show 30 ≤ 42 by omega), u60o _ _ (show v < 7 by omega) (show 36 ≤ 42 by omega), u60z _ _ (show v < 7 by omega), u60_49, u60_50, u60_51, u60_52, ix_nI (show a9 < 2 ^ 31 by omega), tN_nI (show a9 < 2 ^ 31 by omega), u60o _ _ (show a9 < 7 by omega) (show 6 ≤ 42 by omega), u60o _ _ (show a9 < 7 by omega) (show 12 ≤ 42 by omega), u60o _ _ (show a9 < 7 by omega) (show 42 ≤ 42 by omega), E_ca _ ha9, ix_nI (show a5 < 2 ^ 31 by omega), tN_nI (show a5 < 2 ^ 31 by omega), u60o _ _ (show a5 < 7 by omega) (show 6 ≤ 42 by omega), u60o _ _ (show a5 < 7 by omega) (show 12 ≤ 42 by omega), u60o _ _ (show a5 < 7 by omega) (show 42 ≤ 42 by omega), E_ca _ ha5]; done) | (simp [chW, k4, ea9, ea5, hk, E_nx _ hv, E_fl _ hv, E_ah _ hv, E_ow _ hv, E_wa _ hv, E_ti _ hv, E_ta, E_gi, E_se, E_gr, tN_m1, E_st _ hv, u60o _ _ (show v < 7 by omega) (show 6 ≤ 42 by omega), u60o _ _ (show v < 7 by omega) (show 12 ≤ 42 by omega), u60o _ _ (show v < 7 by omega) (show 18 ≤ 42 by omega), u60o _ _ (show v < 7 by omega) (show 24 ≤ 42 by omega), u60o _ _ (show v < 7 by omega) (show 30 ≤ 42 by omega), u60o _ _ (show v < 7 by omega) (show 36 ≤ 42 by omega), u60z _ _ (show v < 7 by omega), u60_49, u60_50, u60_51, u60_52, ix_nI (show a9 < 2 ^ 31 by omega), tN_nI (show a9 < 2 ^ 31 by omega), u60o _ _ (show a9 < 7 by omega) (show 6 ≤ 42 by omega), u60o _ _ (show a9 < 7 by omega) (show 12 ≤ 42 by omega), u60o _ _ (show a9 < 7 by omega) (show 42 ≤ 42 by omega), E_ca _ ha9, ix_nI (show a5 < 2 ^ 31 by omega), tN_nI (show a5 < 2 ^ 31 by omega), u60o _ _ (show a5 < 7 by omega) (show 6 ≤ 42 by omega), u60o _ _ (show a5 < 7 by omega) (show 12 ≤ 42 by omega), u60o _ _ (show a5 < 7 by omega) (show 42 ≤ 42 by omega), E_ca _ ha5]; clear h hR hL hRT hW; funext j; simp only [upd]; grind))
  by_cases k6 : (z v) = 3
  · refine u_tableIn (off := 95) (tgt := 100) h dX1_advanceWatching_5 (by rw [k6]; decide) (by rw [k6]; decide) (by rw [k6]; rfl) (by decide) ?_
    refine u_aload_n h dX1_advanceWatching_100 rfl 0 rfl rfl ?_
    refine u_iload_n h dX1_advanceWatching_101 rfl 1 rfl rfl ?_
    refine u_iconst (v := 4) h dX1_advanceWatching_102 (by decide) rfl ?_
    refine u_callV h (As := [.int (nI v), .int 4]) (wc := [(h0, .inr (1, [.ref qc])), (qc, aI G 54 (encC z))]) (wr := []) (kX1_moveTo G h0 qc (encC z) v hv 4) cwX1_advanceWatching_X1_moveTo rfl rfl hR ⟨⟨rfl, rfl⟩, by decide, by decide⟩ ⟨Nat.le_of_ble_eq_true rfl, Nat.le_of_ble_eq_true rfl⟩ (ci := 1) (qr := 0) rfl rfl [0, 1] [] rfl rfl rfl rfl (by decide) (Nat.le_of_ble_eq_true rfl) rfl dX1_advanceWatching_103 rfl (fun v9 u9 hp9 => ?_)
    obtain ⟨rfl, rfl⟩ := hp9
    refine u_wp (ws' := [(h0, .inr (1, [.ref qc])), (qc, aI G 54 (upd (encC z) v 4))]) [0, 1] rfl rfl ?_
    refine u_eqs (st' := []) rfl ?_
    refine u_goto (tgt := 158) h dX1_advanceWatching_106 (by decide) ?_
    exact u_vret h hRT dX1_advanceWatching_158 (by omega) (by omega) (by refine ⟨rfl, congrArg (fun f => [(h0, .inr (1, [.ref qc])), (qc, aI G 54 f)]) ?_⟩; have e49 : encC z 49 = z 49 := (e_ta z).trans ((if_neg (by rw [hk]; decide)).trans (if_pos hk)); first | (simp [chW, k6, hk, E_nx _ hv, E_fl _ hv, E_ah _ hv, E_ow _ hv, E_wa _ hv, E_ti _ hv, E_ta, E_gi, E_se, E_gr, tN_m1, E_st _ hv, u60o _ _ (show v < 7 by omega) (show 6 ≤ 42 by omega), u60o _ _ (show v < 7 by omega) (show 12 ≤ 42 by omega), u60o _ _ (show v < 7 by omega) (show 18 ≤ 42 by omega), u60o _ _ (show v < 7 by omega) (show 24 ≤ 42 by omega), u60o _ _ (show v < 7 by omega) (show 30 ≤ 42 by omega), u60o _ _ (show v < 7 by omega) (show 36 ≤ 42 by omega), u60z _ _ (show v < 7 by omega), u60_49, u60_50, u60_51, u60_52]; done) | (simp [chW, k6, hk, E_nx _ hv, E_fl _ hv, E_ah _ hv, E_ow _ hv, E_wa _ hv, E_ti _ hv, E_ta, E_gi, E_se, E_gr, tN_m1, E_st _ hv, u60o _ _ (show v < 7 by omega) (show 6 ≤ 42 by omega), u60o _ _ (show v < 7 by omega) (show 12 ≤ 42 by omega), u60o _ _ (show v < 7 by omega) (show 18 ≤ 42 by omega), u60o _ _ (show v < 7 by omega) (show 24 ≤ 42 by omega), u60o _ _ (show v < 7 by omega) (show 30 ≤ 42 by omega), u60o _ _ (show v < 7 by omega) (show 36 ≤ 42 by omega), u60z _ _ (show v < 7 by omega), u60_49, u60_50, u60_51, u60_52]; clear h hR hL hRT hW; funext j; simp only [upd]; grind))
  refine u_tableOut (tgt := 109) h dX1_advanceWatching_5 (ti_out (n := 4) (by decide) (fun k9 hk9 => by rcases (show k9 = 0 ∨ k9 = 1 ∨ k9 = 2 ∨ k9 = 3 by omega) with rfl | rfl | rfl | rfl <;> assumption)) (by decide) ?_
  obtain ⟨a9, ha9, ea9⟩ := hW.w4 hk hv k1 k3
  refine u_aload_n h dX1_advanceWatching_109 rfl 0 rfl rfl ?_
  refine u_aload_n h dX1_advanceWatching_110 rfl 0 rfl rfl ?_
  refine u_get h flX1_advanceWatching_11 0 (v := .ref qc) rfl rfl dX1_advanceWatching_111 rfl ?_
  refine u_bipush (v := 24) h dX1_advanceWatching_114 (by decide) rfl ?_
  refine u_iload_n h dX1_advanceWatching_116 rfl 1 rfl rfl ?_
  refine u_iadd (v := (nI (24 + v))) h dX1_advanceWatching_117 (nI_add 24 v) rfl ?_
  refine u_iald h (n := (24 + v)) 1 rfl (by omega) (by omega) dX1_advanceWatching_118 rfl ?_
  refine u_top (y := (z (24 + v))) ((e_ow hv).trans (if_pos hk)) ?_
  obtain ⟨a7, ha7, ea7⟩ := hW.1.o hk hv
  refine u_top (y := nI a7) ea7 ?_
  refine u_iconst (v := 0) h dX1_advanceWatching_119 (by decide) rfl ?_
  refine u_callV h (As := [.int (nI a7), .int 0]) (wc := [(h0, .inr (1, [.ref qc])), (qc, aI G 54 (encC z))]) (wr := []) (kX1_setCardFlag G h0 qc (encC z) a7 ha7 0) cwX1_advanceWatching_X1_setCardFlag rfl rfl hR ⟨⟨rfl, rfl⟩, by decide, by decide⟩ ⟨Nat.le_of_ble_eq_true rfl, Nat.le_of_ble_eq_true rfl⟩ (ci := 1) (qr := 0) rfl rfl [0, 1] [] rfl rfl rfl rfl (by decide) (Nat.le_of_ble_eq_true rfl) rfl dX1_advanceWatching_120 rfl (fun v9 u9 hp9 => ?_)
  obtain ⟨rfl, rfl⟩ := hp9
  refine u_wp (ws' := [(h0, .inr (1, [.ref qc])), (qc, aI G 54 (upd (encC z) (42 + a7) 0))]) [0, 1] rfl rfl ?_
  refine u_eqs (st' := []) rfl ?_
  refine u_aload_n h dX1_advanceWatching_123 rfl 0 rfl rfl ?_
  refine u_get h flX1_advanceWatching_11 0 (v := .ref qc) rfl rfl dX1_advanceWatching_124 rfl ?_
  refine u_bipush (v := 24) h dX1_advanceWatching_127 (by decide) rfl ?_
  refine u_iload_n h dX1_advanceWatching_129 rfl 1 rfl rfl ?_
  refine u_iadd (v := (nI (24 + v))) h dX1_advanceWatching_130 (nI_add 24 v) rfl ?_
  refine u_aload_n h dX1_advanceWatching_131 rfl 0 rfl rfl ?_
  refine u_get h flX1_advanceWatching_11 0 (v := .ref qc) rfl rfl dX1_advanceWatching_132 rfl ?_
  refine u_bipush (v := 30) h dX1_advanceWatching_135 (by decide) rfl ?_
  refine u_iload_n h dX1_advanceWatching_137 rfl 1 rfl rfl ?_
  refine u_iadd (v := (nI (30 + v))) h dX1_advanceWatching_138 (nI_add 30 v) rfl ?_
  refine u_iald h (n := (30 + v)) 1 rfl (by omega) (by omega) dX1_advanceWatching_139 rfl ?_
  refine u_top (y := ((encC z) (30 + v))) (by rw [pk_un (by omega)]) ?_
  refine u_top (y := (tN (z (30 + v)))) (e_wa hv) ?_
  refine u_iast h (n := (24 + v)) (v := (tN (z (30 + v)))) 1 rfl (by omega) (by omega) rfl (ws' := [(h0, .inr (1, [.ref qc])), (qc, aI G 54 (upd (upd (encC z) (42 + a7) 0) (24 + v) (tN (z (30 + v)))))]) rfl dX1_advanceWatching_140 rfl ?_
  refine u_aload_n h dX1_advanceWatching_141 rfl 0 rfl rfl ?_
  refine u_get h flX1_advanceWatching_11 0 (v := .ref qc) rfl rfl dX1_advanceWatching_142 rfl ?_
  refine u_bipush (v := 30) h dX1_advanceWatching_145 (by decide) rfl ?_
  refine u_iload_n h dX1_advanceWatching_147 rfl 1 rfl rfl ?_
  refine u_iadd (v := (nI (30 + v))) h dX1_advanceWatching_148 (nI_add 30 v) rfl ?_
  refine u_bipush (v := (-5)) h dX1_advanceWatching_149 (by decide) rfl ?_
  refine u_iast h (n := (30 + v)) (v := (-5)) 1 rfl (by omega) (by omega) rfl (ws' := [(h0, .inr (1, [.ref qc])), (qc, aI G 54 (upd (upd (upd (encC z) (42 + a7) 0) (24 + v) (tN (z (30 + v)))) (30 + v) (-5)))]) rfl dX1_advanceWatching_151 rfl ?_
  refine u_aload_n h dX1_advanceWatching_152 rfl 0 rfl rfl ?_
  refine u_iload_n h dX1_advanceWatching_153 rfl 1 rfl rfl ?_
  refine u_iconst (v := 0) h dX1_advanceWatching_154 (by decide) rfl ?_
  refine u_callV h (As := [.int (nI v), .int 0]) (wc := [(h0, .inr (1, [.ref qc])), (qc, aI G 54 (upd (upd (upd (encC z) (42 + a7) 0) (24 + v) (tN (z (30 + v)))) (30 + v) (-5)))]) (wr := []) (kX1_moveTo G h0 qc (upd (upd (upd (encC z) (42 + a7) 0) (24 + v) (tN (z (30 + v)))) (30 + v) (-5)) v hv 0) cwX1_advanceWatching_X1_moveTo rfl rfl hR ⟨⟨rfl, rfl⟩, by decide, by decide⟩ ⟨Nat.le_of_ble_eq_true rfl, Nat.le_of_ble_eq_true rfl⟩ (ci := 1) (qr := 0) rfl rfl [0, 1] [] rfl rfl rfl rfl (by decide) (Nat.le_of_ble_eq_true rfl) rfl dX1_advanceWatching_155 rfl (fun v9 u9 hp9 => ?_)
  obtain ⟨rfl, rfl⟩ := hp9
  refine u_wp (ws' := [(h0, .inr (1, [.ref qc])), (qc, aI G 54 (upd (upd (upd (upd (encC z) (42 + a7) 0) (24 + v) (tN (z (30 + v)))) (30 + v) (-5)) v 0))]) [0, 1] rfl rfl ?_
  refine u_eqs (st' := []) rfl ?_
  exact u_vret h hRT dX1_advanceWatching_158 (by omega) (by omega) (by refine ⟨rfl, congrArg (fun f => [(h0, .inr (1, [.ref qc])), (qc, aI G 54 f)]) ?_⟩; have e49 : encC z 49 = z 49 := (e_ta z).trans ((if_neg (by rw [hk]; decide)).trans (if_pos hk)); first | (simp [chW, ea9, ea7, k1, k3, k4, k6, hk, E_nx _ hv, E_fl _ hv, E_ah _ hv, E_ow _ hv, E_wa _ hv, E_ti _ hv, E_ta, E_gi, E_se, E_gr, tN_m1, E_st _ hv, u60o _ _ (show v < 7 by omega) (show 6 ≤ 42 by omega), u60o _ _ (show v < 7 by omega) (show 12 ≤ 42 by omega), u60o _ _ (show v < 7 by omega) (show 18 ≤ 42 by omega), u60o _ _ (show v < 7 by omega) (show 24 ≤ 42 by omega), u60o _ _ (show v < 7 by omega) (show 30 ≤ 42 by omega), u60o _ _ (show v < 7 by omega) (show 36 ≤ 42 by omega), u60z _ _ (show v < 7 by omega), u60_49, u60_50, u60_51, u60_52, ix_nI (show a9 < 2 ^ 31 by omega), tN_nI (show a9 < 2 ^ 31 by omega), u60o _ _ (show a9 < 7 by omega) (show 6 ≤ 42 by omega), u60o _ _ (show a9 < 7 by omega) (show 12 ≤ 42 by omega), u60o _ _ (show a9 < 7 by omega) (show 42 ≤ 42 by omega), E_ca _ ha9, ix_nI (show a7 < 2 ^ 31 by omega), tN_nI (show a7 < 2 ^ 31 by omega), u60o _ _ (show a7 < 7 by omega) (show 6 ≤ 42 by omega), u60o _ _ (show a7 < 7 by omega) (show 12 ≤ 42 by omega), u60o _ _ (show a7 < 7 by omega) (show 42 ≤ 42 by omega), E_ca _ ha7]; done) | (simp [chW, ea9, ea7, k1, k3, k4, k6, hk, E_nx _ hv, E_fl _ hv, E_ah _ hv, E_ow _ hv, E_wa _ hv, E_ti _ hv, E_ta, E_gi, E_se, E_gr, tN_m1, E_st _ hv, u60o _ _ (show v < 7 by omega) (show 6 ≤ 42 by omega), u60o _ _ (show v < 7 by omega) (show 12 ≤ 42 by omega), u60o _ _ (show v < 7 by omega) (show 18 ≤ 42 by omega), u60o _ _ (show v < 7 by omega) (show 24 ≤ 42 by omega), u60o _ _ (show v < 7 by omega) (show 30 ≤ 42 by omega), u60o _ _ (show v < 7 by omega) (show 36 ≤ 42 by omega), u60z _ _ (show v < 7 by omega), u60_49, u60_50, u60_51, u60_52, ix_nI (show a9 < 2 ^ 31 by omega), tN_nI (show a9 < 2 ^ 31 by omega), u60o _ _ (show a9 < 7 by omega) (show 6 ≤ 42 by omega), u60o _ _ (show a9 < 7 by omega) (show 12 ≤ 42 by omega), u60o _ _ (show a9 < 7 by omega) (show 42 ≤ 42 by omega), E_ca _ ha9, ix_nI (show a7 < 2 ^ 31 by omega), tN_nI (show a7 < 2 ^ 31 by omega), u60o _ _ (show a7 < 7 by omega) (show 6 ≤ 42 by omega), u60o _ _ (show a7 < 7 by omega) (show 12 ≤ 42 by omega), u60o _ _ (show a7 < 7 by omega) (show 42 ≤ 42 by omega), E_ca _ ha7]; clear h hR hL hRT hW; funext j; simp only [upd]; grind))

theorem flX1_advanceTickets_11 : FL wsX1_advanceTickets RX1 11 1 0 := ⟨RX1, TX1, 1, rfl, by decide, by decide +kernel, by decide +kernel⟩
set_option maxRecDepth 20000 in
theorem cwX1_advanceTickets_X1_stage : CWd wsX1_advanceTickets (wsV RX1 33 RX1 yX1_stage wsX1_stage) yX1_stage wsX1_stage cX1_stage 2 (some .int) 1 := ⟨gX1_advanceTickets_X1_stage, ⟨_, rfl⟩, by decide +kernel, by decide, by decide⟩
set_option maxRecDepth 20000 in
theorem cwX1_advanceTickets_X1_moveTo : CWd wsX1_advanceTickets (wsV RX1 61 RX1 yX1_moveTo wsX1_moveTo) yX1_moveTo wsX1_moveTo cX1_moveTo 3 none 2 := ⟨gX1_advanceTickets_X1_moveTo, ⟨_, rfl⟩, by decide +kernel, by decide, by decide⟩
set_option maxHeartbeats 8000000 in
set_option maxRecDepth 100000 in
theorem kX1_advanceTickets (G : Gx) (h0 qc : Nat) (z : Zf) (v : Nat) (hv : v < 6) (hW : Wc z) (hk : z 60 = 2) : MC G yX1_advanceTickets wsX1_advanceTickets ({ frames := 1, cells := 0, slots := 0, locals := 22 } : Room) [.ref h0, .int (nI v)] [(h0, .inr (1, [.ref qc])), (qc, aI G 54 (encC z))] (fun v' u' => v' = none ∧ u' = [(h0, .inr (1, [.ref qc])), (qc, aI G 54 (encC (chT z v)))]) 0 0 := by
  refine mc_of (cc := cX1_advanceTickets) (maxL := 2) (ret := none) (by decide) rfl (Nat.le_of_ble_eq_true rfl) (fun X h hR hL hRT => ?_)
  refine u_eql (lv' := [(0, .ref h0), (1, .int (nI v))]) rfl ?_
  refine u_aload_n h dX1_advanceTickets_0 rfl 0 rfl rfl ?_
  refine u_iload_n h dX1_advanceTickets_1 rfl 1 rfl rfl ?_
  refine u_callV h (As := [.int (nI v)]) (wc := [(h0, .inr (1, [.ref qc])), (qc, aI G 54 (encC z))]) (wr := []) (kX1_stage G h0 qc (encC z) v hv) cwX1_advanceTickets_X1_stage rfl rfl hR ⟨⟨rfl, rfl⟩, by decide, by decide⟩ ⟨Nat.le_of_ble_eq_true rfl, Nat.le_of_ble_eq_true rfl⟩ (ci := 1) (qr := 0) rfl rfl [0, 1] [] rfl rfl rfl rfl (by decide) (Nat.le_of_ble_eq_true rfl) rfl dX1_advanceTickets_2 rfl (fun v9 u9 hp9 => ?_)
  obtain ⟨rfl, rfl⟩ := hp9
  refine u_wp (ws' := [(h0, .inr (1, [.ref qc])), (qc, aI G 54 (encC z))]) [0, 1] rfl rfl ?_
  refine u_eqs (st' := [.int ((encC z) v)]) rfl ?_
  refine u_top (y := (z v)) (e_st hv) ?_
  by_cases k1 : (z v) = 0
  · refine u_lookup (off := 27) (tgt := 32) h dX1_advanceTickets_5 (by decide) (by rw [k1]; rfl) (by decide) ?_
    refine u_aload_n h dX1_advanceTickets_32 rfl 0 rfl rfl ?_
    refine u_get h flX1_advanceTickets_11 0 (v := .ref qc) rfl rfl dX1_advanceTickets_33 rfl ?_
    refine u_bipush (v := 36) h dX1_advanceTickets_36 (by decide) rfl ?_
    refine u_iload_n h dX1_advanceTickets_38 rfl 1 rfl rfl ?_
    refine u_iadd (v := (nI (36 + v))) h dX1_advanceTickets_39 (nI_add 36 v) rfl ?_
    refine u_aload_n h dX1_advanceTickets_40 rfl 0 rfl rfl ?_
    refine u_get h flX1_advanceTickets_11 0 (v := .ref qc) rfl rfl dX1_advanceTickets_41 rfl ?_
    refine u_bipush (v := 50) h dX1_advanceTickets_44 (by decide) rfl ?_
    refine u_iald h (n := 50) 1 rfl (by omega) (by omega) dX1_advanceTickets_46 rfl ?_
    refine u_top (y := (z 50)) (e_gi _) ?_
    refine u_iast h (n := (36 + v)) (v := (z 50)) 1 rfl (by omega) (by omega) rfl (ws' := [(h0, .inr (1, [.ref qc])), (qc, aI G 54 (upd (encC z) (36 + v) (z 50)))]) rfl dX1_advanceTickets_47 rfl ?_
    refine u_aload_n h dX1_advanceTickets_48 rfl 0 rfl rfl ?_
    refine u_get h flX1_advanceTickets_11 0 (v := .ref qc) rfl rfl dX1_advanceTickets_49 rfl ?_
    refine u_bipush (v := 50) h dX1_advanceTickets_52 (by decide) rfl ?_
    refine u_dup2 h dX1_advanceTickets_54 rfl rfl rfl ?_
    refine u_iald h (n := 50) 1 rfl (by omega) (by omega) dX1_advanceTickets_55 rfl ?_
    refine u_top (y := ((encC z) 50)) (by rw [pk_un (by omega)]) ?_
    refine u_top (y := (z 50)) (e_gi _) ?_
    refine u_iconst (v := 1) h dX1_advanceTickets_56 (by decide) rfl ?_
    refine u_iadd (v := ((z 50) + 1)) h dX1_advanceTickets_57 rfl rfl ?_
    refine u_iast h (n := 50) (v := ((z 50) + 1)) 1 rfl (by omega) (by omega) rfl (ws' := [(h0, .inr (1, [.ref qc])), (qc, aI G 54 (upd (upd (encC z) (36 + v) (z 50)) 50 ((z 50) + 1)))]) rfl dX1_advanceTickets_58 rfl ?_
    refine u_aload_n h dX1_advanceTickets_59 rfl 0 rfl rfl ?_
    refine u_iload_n h dX1_advanceTickets_60 rfl 1 rfl rfl ?_
    refine u_iconst (v := 3) h dX1_advanceTickets_61 (by decide) rfl ?_
    refine u_callV h (As := [.int (nI v), .int 3]) (wc := [(h0, .inr (1, [.ref qc])), (qc, aI G 54 (upd (upd (encC z) (36 + v) (z 50)) 50 ((z 50) + 1)))]) (wr := []) (kX1_moveTo G h0 qc (upd (upd (encC z) (36 + v) (z 50)) 50 ((z 50) + 1)) v hv 3) cwX1_advanceTickets_X1_moveTo rfl rfl hR ⟨⟨rfl, rfl⟩, by decide, by decide⟩ ⟨Nat.le_of_ble_eq_true rfl, Nat.le_of_ble_eq_true rfl⟩ (ci := 1) (qr := 0) rfl rfl [0, 1] [] rfl rfl rfl rfl (by decide) (Nat.le_of_ble_eq_true rfl) rfl dX1_advanceTickets_62 rfl (fun v9 u9 hp9 => ?_)
    obtain ⟨rfl, rfl⟩ := hp9
    refine u_wp (ws' := [(h0, .inr (1, [.ref qc])), (qc, aI G 54 (upd (upd (upd (encC z) (36 + v) (z 50)) 50 ((z 50) + 1)) v 3))]) [0, 1] rfl rfl ?_
    refine u_eqs (st' := []) rfl ?_
    refine u_goto (tgt := 105) h dX1_advanceTickets_65 (by decide) ?_
    exact u_vret h hRT dX1_advanceTickets_105 (by omega) (by omega) (by refine ⟨rfl, congrArg (fun f => [(h0, .inr (1, [.ref qc])), (qc, aI G 54 f)]) ?_⟩; have e36 := e_ti (z := z) hv; simp [hk, k1] at e36; first | (simp [chT, k1, hk, E_nx _ hv, E_fl _ hv, E_ah _ hv, E_ow _ hv, E_wa _ hv, E_ti _ hv, E_ta, E_gi, E_se, E_gr, tN_m1, E_st2 _ hv, u60o _ _ (show v < 7 by omega) (show 6 ≤ 42 by omega), u60o _ _ (show v < 7 by omega) (show 12 ≤ 42 by omega), u60o _ _ (show v < 7 by omega) (show 18 ≤ 42 by omega), u60o _ _ (show v < 7 by omega) (show 24 ≤ 42 by omega), u60o _ _ (show v < 7 by omega) (show 30 ≤ 42 by omega), u60o _ _ (show v < 7 by omega) (show 36 ≤ 42 by omega), u60z _ _ (show v < 7 by omega), u60_49, u60_50, u60_51, u60_52]; done) | (simp [chT, k1, hk, E_nx _ hv, E_fl _ hv, E_ah _ hv, E_ow _ hv, E_wa _ hv, E_ti _ hv, E_ta, E_gi, E_se, E_gr, tN_m1, E_st2 _ hv, u60o _ _ (show v < 7 by omega) (show 6 ≤ 42 by omega), u60o _ _ (show v < 7 by omega) (show 12 ≤ 42 by omega), u60o _ _ (show v < 7 by omega) (show 18 ≤ 42 by omega), u60o _ _ (show v < 7 by omega) (show 24 ≤ 42 by omega), u60o _ _ (show v < 7 by omega) (show 30 ≤ 42 by omega), u60o _ _ (show v < 7 by omega) (show 36 ≤ 42 by omega), u60z _ _ (show v < 7 by omega), u60_49, u60_50, u60_51, u60_52]; clear h hR hL hRT hW; funext j; simp only [upd]; grind))
  by_cases k2 : (z v) = 3
  · refine u_lookup (off := 63) (tgt := 68) h dX1_advanceTickets_5 (by decide) (by rw [k2]; rfl) (by decide) ?_
    refine u_aload_n h dX1_advanceTickets_68 rfl 0 rfl rfl ?_
    refine u_iload_n h dX1_advanceTickets_69 rfl 1 rfl rfl ?_
    refine u_iconst (v := 4) h dX1_advanceTickets_70 (by decide) rfl ?_
    refine u_callV h (As := [.int (nI v), .int 4]) (wc := [(h0, .inr (1, [.ref qc])), (qc, aI G 54 (encC z))]) (wr := []) (kX1_moveTo G h0 qc (encC z) v hv 4) cwX1_advanceTickets_X1_moveTo rfl rfl hR ⟨⟨rfl, rfl⟩, by decide, by decide⟩ ⟨Nat.le_of_ble_eq_true rfl, Nat.le_of_ble_eq_true rfl⟩ (ci := 1) (qr := 0) rfl rfl [0, 1] [] rfl rfl rfl rfl (by decide) (Nat.le_of_ble_eq_true rfl) rfl dX1_advanceTickets_71 rfl (fun v9 u9 hp9 => ?_)
    obtain ⟨rfl, rfl⟩ := hp9
    refine u_wp (ws' := [(h0, .inr (1, [.ref qc])), (qc, aI G 54 (upd (encC z) v 4))]) [0, 1] rfl rfl ?_
    refine u_eqs (st' := []) rfl ?_
    refine u_goto (tgt := 105) h dX1_advanceTickets_74 (by decide) ?_
    exact u_vret h hRT dX1_advanceTickets_105 (by omega) (by omega) (by refine ⟨rfl, congrArg (fun f => [(h0, .inr (1, [.ref qc])), (qc, aI G 54 f)]) ?_⟩; have e36 := e_ti (z := z) hv; simp [hk, k2] at e36; first | (simp [chT, k2, hk, E_nx _ hv, E_fl _ hv, E_ah _ hv, E_ow _ hv, E_wa _ hv, E_ti _ hv, E_ta, E_gi, E_se, E_gr, tN_m1, E_st2 _ hv, u60o _ _ (show v < 7 by omega) (show 6 ≤ 42 by omega), u60o _ _ (show v < 7 by omega) (show 12 ≤ 42 by omega), u60o _ _ (show v < 7 by omega) (show 18 ≤ 42 by omega), u60o _ _ (show v < 7 by omega) (show 24 ≤ 42 by omega), u60o _ _ (show v < 7 by omega) (show 30 ≤ 42 by omega), u60o _ _ (show v < 7 by omega) (show 36 ≤ 42 by omega), u60z _ _ (show v < 7 by omega), u60_49, u60_50, u60_51, u60_52]; done) | (simp [chT, k2, hk, E_nx _ hv, E_fl _ hv, E_ah _ hv, E_ow _ hv, E_wa _ hv, E_ti _ hv, E_ta, E_gi, E_se, E_gr, tN_m1, E_st2 _ hv, u60o _ _ (show v < 7 by omega) (show 6 ≤ 42 by omega), u60o _ _ (show v < 7 by omega) (show 12 ≤ 42 by omega), u60o _ _ (show v < 7 by omega) (show 18 ≤ 42 by omega), u60o _ _ (show v < 7 by omega) (show 24 ≤ 42 by omega), u60o _ _ (show v < 7 by omega) (show 30 ≤ 42 by omega), u60o _ _ (show v < 7 by omega) (show 36 ≤ 42 by omega), u60z _ _ (show v < 7 by omega), u60_49, u60_50, u60_51, u60_52]; clear h hR hL hRT hW; funext j; simp only [upd]; grind))
  refine u_lookup (off := 72) (tgt := 77) h dX1_advanceTickets_5 (by decide) ((lv_osw (k := 0) k1 (by decide)).trans ((lv_osw (k := 3) k2 (by decide)).trans (rfl))) (by decide) ?_
  refine u_aload_n h dX1_advanceTickets_77 rfl 0 rfl rfl ?_
  refine u_get h flX1_advanceTickets_11 0 (v := .ref qc) rfl rfl dX1_advanceTickets_78 rfl ?_
  refine u_bipush (v := 51) h dX1_advanceTickets_81 (by decide) rfl ?_
  refine u_dup2 h dX1_advanceTickets_83 rfl rfl rfl ?_
  refine u_iald h (n := 51) 1 rfl (by omega) (by omega) dX1_advanceTickets_84 rfl ?_
  refine u_top (y := (z 51)) (e_se _) ?_
  refine u_iconst (v := 1) h dX1_advanceTickets_85 (by decide) rfl ?_
  refine u_iadd (v := ((z 51) + 1)) h dX1_advanceTickets_86 rfl rfl ?_
  refine u_iast h (n := 51) (v := ((z 51) + 1)) 1 rfl (by omega) (by omega) rfl (ws' := [(h0, .inr (1, [.ref qc])), (qc, aI G 54 (upd (encC z) 51 ((z 51) + 1)))]) rfl dX1_advanceTickets_87 rfl ?_
  refine u_aload_n h dX1_advanceTickets_88 rfl 0 rfl rfl ?_
  refine u_get h flX1_advanceTickets_11 0 (v := .ref qc) rfl rfl dX1_advanceTickets_89 rfl ?_
  refine u_bipush (v := 36) h dX1_advanceTickets_92 (by decide) rfl ?_
  refine u_iload_n h dX1_advanceTickets_94 rfl 1 rfl rfl ?_
  refine u_iadd (v := (nI (36 + v))) h dX1_advanceTickets_95 (nI_add 36 v) rfl ?_
  refine u_bipush (v := (-5)) h dX1_advanceTickets_96 (by decide) rfl ?_
  refine u_iast h (n := (36 + v)) (v := (-5)) 1 rfl (by omega) (by omega) rfl (ws' := [(h0, .inr (1, [.ref qc])), (qc, aI G 54 (upd (upd (encC z) 51 ((z 51) + 1)) (36 + v) (-5)))]) rfl dX1_advanceTickets_98 rfl ?_
  refine u_aload_n h dX1_advanceTickets_99 rfl 0 rfl rfl ?_
  refine u_iload_n h dX1_advanceTickets_100 rfl 1 rfl rfl ?_
  refine u_iconst (v := 0) h dX1_advanceTickets_101 (by decide) rfl ?_
  refine u_callV h (As := [.int (nI v), .int 0]) (wc := [(h0, .inr (1, [.ref qc])), (qc, aI G 54 (upd (upd (encC z) 51 ((z 51) + 1)) (36 + v) (-5)))]) (wr := []) (kX1_moveTo G h0 qc (upd (upd (encC z) 51 ((z 51) + 1)) (36 + v) (-5)) v hv 0) cwX1_advanceTickets_X1_moveTo rfl rfl hR ⟨⟨rfl, rfl⟩, by decide, by decide⟩ ⟨Nat.le_of_ble_eq_true rfl, Nat.le_of_ble_eq_true rfl⟩ (ci := 1) (qr := 0) rfl rfl [0, 1] [] rfl rfl rfl rfl (by decide) (Nat.le_of_ble_eq_true rfl) rfl dX1_advanceTickets_102 rfl (fun v9 u9 hp9 => ?_)
  obtain ⟨rfl, rfl⟩ := hp9
  refine u_wp (ws' := [(h0, .inr (1, [.ref qc])), (qc, aI G 54 (upd (upd (upd (encC z) 51 ((z 51) + 1)) (36 + v) (-5)) v 0))]) [0, 1] rfl rfl ?_
  refine u_eqs (st' := []) rfl ?_
  exact u_vret h hRT dX1_advanceTickets_105 (by omega) (by omega) (by refine ⟨rfl, congrArg (fun f => [(h0, .inr (1, [.ref qc])), (qc, aI G 54 f)]) ?_⟩; have e36 := e_ti (z := z) hv; simp [hk, k1, k2] at e36; first | (simp [chT, k1, k2, hk, E_nx _ hv, E_fl _ hv, E_ah _ hv, E_ow _ hv, E_wa _ hv, E_ti _ hv, E_ta, E_gi, E_se, E_gr, tN_m1, E_st2 _ hv, u60o _ _ (show v < 7 by omega) (show 6 ≤ 42 by omega), u60o _ _ (show v < 7 by omega) (show 12 ≤ 42 by omega), u60o _ _ (show v < 7 by omega) (show 18 ≤ 42 by omega), u60o _ _ (show v < 7 by omega) (show 24 ≤ 42 by omega), u60o _ _ (show v < 7 by omega) (show 30 ≤ 42 by omega), u60o _ _ (show v < 7 by omega) (show 36 ≤ 42 by omega), u60z _ _ (show v < 7 by omega), u60_49, u60_50, u60_51, u60_52]; done) | (simp [chT, k1, k2, hk, E_nx _ hv, E_fl _ hv, E_ah _ hv, E_ow _ hv, E_wa _ hv, E_ti _ hv, E_ta, E_gi, E_se, E_gr, tN_m1, E_st2 _ hv, u60o _ _ (show v < 7 by omega) (show 6 ≤ 42 by omega), u60o _ _ (show v < 7 by omega) (show 12 ≤ 42 by omega), u60o _ _ (show v < 7 by omega) (show 18 ≤ 42 by omega), u60o _ _ (show v < 7 by omega) (show 24 ≤ 42 by omega), u60o _ _ (show v < 7 by omega) (show 30 ≤ 42 by omega), u60o _ _ (show v < 7 by omega) (show 36 ≤ 42 by omega), u60z _ _ (show v < 7 by omega), u60_49, u60_50, u60_51, u60_52]; clear h hR hL hRT hW; funext j; simp only [upd]; grind))

theorem flX1_advanceGrabbing_11 : FL wsX1_advanceGrabbing RX1 11 1 0 := ⟨RX1, TX1, 1, rfl, by decide, by decide +kernel, by decide +kernel⟩
set_option maxRecDepth 20000 in
theorem cwX1_advanceGrabbing_X1_stage : CWd wsX1_advanceGrabbing (wsV RX1 33 RX1 yX1_stage wsX1_stage) yX1_stage wsX1_stage cX1_stage 2 (some .int) 1 := ⟨gX1_advanceGrabbing_X1_stage, ⟨_, rfl⟩, by decide +kernel, by decide, by decide⟩
set_option maxRecDepth 20000 in
theorem cwX1_advanceGrabbing_X1_moveTo : CWd wsX1_advanceGrabbing (wsV RX1 61 RX1 yX1_moveTo wsX1_moveTo) yX1_moveTo wsX1_moveTo cX1_moveTo 3 none 2 := ⟨gX1_advanceGrabbing_X1_moveTo, ⟨_, rfl⟩, by decide +kernel, by decide, by decide⟩
set_option maxHeartbeats 8000000 in
set_option maxRecDepth 100000 in
theorem kX1_advanceGrabbing (G : Gx) (h0 qc : Nat) (z : Zf) (v : Nat) (hv : v < 6) (hW : Wc z) (hk : ¬ z 60 = 2) : MC G yX1_advanceGrabbing wsX1_advanceGrabbing ({ frames := 1, cells := 0, slots := 0, locals := 22 } : Room) [.ref h0, .int (nI v)] [(h0, .inr (1, [.ref qc])), (qc, aI G 54 (encC z))] (fun v' u' => v' = none ∧ u' = [(h0, .inr (1, [.ref qc])), (qc, aI G 54 (encC (chG z v)))]) 0 0 := by
  refine mc_of (cc := cX1_advanceGrabbing) (maxL := 2) (ret := none) (by decide) rfl (Nat.le_of_ble_eq_true rfl) (fun X h hR hL hRT => ?_)
  refine u_eql (lv' := [(0, .ref h0), (1, .int (nI v))]) rfl ?_
  refine u_aload_n h dX1_advanceGrabbing_0 rfl 0 rfl rfl ?_
  refine u_iload_n h dX1_advanceGrabbing_1 rfl 1 rfl rfl ?_
  refine u_callV h (As := [.int (nI v)]) (wc := [(h0, .inr (1, [.ref qc])), (qc, aI G 54 (encC z))]) (wr := []) (kX1_stage G h0 qc (encC z) v hv) cwX1_advanceGrabbing_X1_stage rfl rfl hR ⟨⟨rfl, rfl⟩, by decide, by decide⟩ ⟨Nat.le_of_ble_eq_true rfl, Nat.le_of_ble_eq_true rfl⟩ (ci := 1) (qr := 0) rfl rfl [0, 1] [] rfl rfl rfl rfl (by decide) (Nat.le_of_ble_eq_true rfl) rfl dX1_advanceGrabbing_2 rfl (fun v9 u9 hp9 => ?_)
  obtain ⟨rfl, rfl⟩ := hp9
  refine u_wp (ws' := [(h0, .inr (1, [.ref qc])), (qc, aI G 54 (encC z))]) [0, 1] rfl rfl ?_
  refine u_eqs (st' := [.int ((encC z) v)]) rfl ?_
  refine u_top (y := (z v)) (e_st hv) ?_
  by_cases k1 : (z v) = 0
  · refine u_lookup (off := 27) (tgt := 32) h dX1_advanceGrabbing_5 (by decide) (by rw [k1]; rfl) (by decide) ?_
    refine u_aload_n h dX1_advanceGrabbing_32 rfl 0 rfl rfl ?_
    refine u_iload_n h dX1_advanceGrabbing_33 rfl 1 rfl rfl ?_
    refine u_iconst (v := 3) h dX1_advanceGrabbing_34 (by decide) rfl ?_
    refine u_callV h (As := [.int (nI v), .int 3]) (wc := [(h0, .inr (1, [.ref qc])), (qc, aI G 54 (encC z))]) (wr := []) (kX1_moveTo G h0 qc (encC z) v hv 3) cwX1_advanceGrabbing_X1_moveTo rfl rfl hR ⟨⟨rfl, rfl⟩, by decide, by decide⟩ ⟨Nat.le_of_ble_eq_true rfl, Nat.le_of_ble_eq_true rfl⟩ (ci := 1) (qr := 0) rfl rfl [0, 1] [] rfl rfl rfl rfl (by decide) (Nat.le_of_ble_eq_true rfl) rfl dX1_advanceGrabbing_35 rfl (fun v9 u9 hp9 => ?_)
    obtain ⟨rfl, rfl⟩ := hp9
    refine u_wp (ws' := [(h0, .inr (1, [.ref qc])), (qc, aI G 54 (upd (encC z) v 3))]) [0, 1] rfl rfl ?_
    refine u_eqs (st' := []) rfl ?_
    refine u_goto (tgt := 72) h dX1_advanceGrabbing_38 (by decide) ?_
    exact u_vret h hRT dX1_advanceGrabbing_72 (by omega) (by omega) (by refine ⟨rfl, congrArg (fun f => [(h0, .inr (1, [.ref qc])), (qc, aI G 54 f)]) ?_⟩; have e52 := e_gr z; first | (simp [chG, k1, hk, E_nx _ hv, E_fl _ hv, E_ah _ hv, E_ow _ hv, E_wa _ hv, E_ti _ hv, E_ta, E_gi, E_se, E_gr, tN_m1, E_st _ hv, u60o _ _ (show v < 7 by omega) (show 6 ≤ 42 by omega), u60o _ _ (show v < 7 by omega) (show 12 ≤ 42 by omega), u60o _ _ (show v < 7 by omega) (show 18 ≤ 42 by omega), u60o _ _ (show v < 7 by omega) (show 24 ≤ 42 by omega), u60o _ _ (show v < 7 by omega) (show 30 ≤ 42 by omega), u60o _ _ (show v < 7 by omega) (show 36 ≤ 42 by omega), u60z _ _ (show v < 7 by omega), u60_49, u60_50, u60_51, u60_52]; done) | (simp [chG, k1, hk, E_nx _ hv, E_fl _ hv, E_ah _ hv, E_ow _ hv, E_wa _ hv, E_ti _ hv, E_ta, E_gi, E_se, E_gr, tN_m1, E_st _ hv, u60o _ _ (show v < 7 by omega) (show 6 ≤ 42 by omega), u60o _ _ (show v < 7 by omega) (show 12 ≤ 42 by omega), u60o _ _ (show v < 7 by omega) (show 18 ≤ 42 by omega), u60o _ _ (show v < 7 by omega) (show 24 ≤ 42 by omega), u60o _ _ (show v < 7 by omega) (show 30 ≤ 42 by omega), u60o _ _ (show v < 7 by omega) (show 36 ≤ 42 by omega), u60z _ _ (show v < 7 by omega), u60_49, u60_50, u60_51, u60_52]; clear h hR hL hRT hW; funext j; simp only [upd]; grind))
  by_cases k2 : (z v) = 3
  · refine u_lookup (off := 36) (tgt := 41) h dX1_advanceGrabbing_5 (by decide) (by rw [k2]; rfl) (by decide) ?_
    refine u_aload_n h dX1_advanceGrabbing_41 rfl 0 rfl rfl ?_
    refine u_get h flX1_advanceGrabbing_11 0 (v := .ref qc) rfl rfl dX1_advanceGrabbing_42 rfl ?_
    refine u_bipush (v := 52) h dX1_advanceGrabbing_45 (by decide) rfl ?_
    refine u_iconst (v := 1) h dX1_advanceGrabbing_47 (by decide) rfl ?_
    refine u_iast h (n := 52) (v := 1) 1 rfl (by omega) (by omega) rfl (ws' := [(h0, .inr (1, [.ref qc])), (qc, aI G 54 (upd (encC z) 52 1))]) rfl dX1_advanceGrabbing_48 rfl ?_
    refine u_aload_n h dX1_advanceGrabbing_49 rfl 0 rfl rfl ?_
    refine u_iload_n h dX1_advanceGrabbing_50 rfl 1 rfl rfl ?_
    refine u_iconst (v := 4) h dX1_advanceGrabbing_51 (by decide) rfl ?_
    refine u_callV h (As := [.int (nI v), .int 4]) (wc := [(h0, .inr (1, [.ref qc])), (qc, aI G 54 (upd (encC z) 52 1))]) (wr := []) (kX1_moveTo G h0 qc (upd (encC z) 52 1) v hv 4) cwX1_advanceGrabbing_X1_moveTo rfl rfl hR ⟨⟨rfl, rfl⟩, by decide, by decide⟩ ⟨Nat.le_of_ble_eq_true rfl, Nat.le_of_ble_eq_true rfl⟩ (ci := 1) (qr := 0) rfl rfl [0, 1] [] rfl rfl rfl rfl (by decide) (Nat.le_of_ble_eq_true rfl) rfl dX1_advanceGrabbing_52 rfl (fun v9 u9 hp9 => ?_)
    obtain ⟨rfl, rfl⟩ := hp9
    refine u_wp (ws' := [(h0, .inr (1, [.ref qc])), (qc, aI G 54 (upd (upd (encC z) 52 1) v 4))]) [0, 1] rfl rfl ?_
    refine u_eqs (st' := []) rfl ?_
    refine u_goto (tgt := 72) h dX1_advanceGrabbing_55 (by decide) ?_
    exact u_vret h hRT dX1_advanceGrabbing_72 (by omega) (by omega) (by refine ⟨rfl, congrArg (fun f => [(h0, .inr (1, [.ref qc])), (qc, aI G 54 f)]) ?_⟩; have e52 := e_gr z; first | (simp [chG, k2, hk, E_nx _ hv, E_fl _ hv, E_ah _ hv, E_ow _ hv, E_wa _ hv, E_ti _ hv, E_ta, E_gi, E_se, E_gr, tN_m1, E_st _ hv, u60o _ _ (show v < 7 by omega) (show 6 ≤ 42 by omega), u60o _ _ (show v < 7 by omega) (show 12 ≤ 42 by omega), u60o _ _ (show v < 7 by omega) (show 18 ≤ 42 by omega), u60o _ _ (show v < 7 by omega) (show 24 ≤ 42 by omega), u60o _ _ (show v < 7 by omega) (show 30 ≤ 42 by omega), u60o _ _ (show v < 7 by omega) (show 36 ≤ 42 by omega), u60z _ _ (show v < 7 by omega), u60_49, u60_50, u60_51, u60_52]; done) | (simp [chG, k2, hk, E_nx _ hv, E_fl _ hv, E_ah _ hv, E_ow _ hv, E_wa _ hv, E_ti _ hv, E_ta, E_gi, E_se, E_gr, tN_m1, E_st _ hv, u60o _ _ (show v < 7 by omega) (show 6 ≤ 42 by omega), u60o _ _ (show v < 7 by omega) (show 12 ≤ 42 by omega), u60o _ _ (show v < 7 by omega) (show 18 ≤ 42 by omega), u60o _ _ (show v < 7 by omega) (show 24 ≤ 42 by omega), u60o _ _ (show v < 7 by omega) (show 30 ≤ 42 by omega), u60o _ _ (show v < 7 by omega) (show 36 ≤ 42 by omega), u60z _ _ (show v < 7 by omega), u60_49, u60_50, u60_51, u60_52]; clear h hR hL hRT hW; funext j; simp only [upd]; grind))
  refine u_lookup (off := 53) (tgt := 58) h dX1_advanceGrabbing_5 (by decide) ((lv_osw (k := 0) k1 (by decide)).trans ((lv_osw (k := 3) k2 (by decide)).trans (rfl))) (by decide) ?_
  refine u_aload_n h dX1_advanceGrabbing_58 rfl 0 rfl rfl ?_
  refine u_get h flX1_advanceGrabbing_11 0 (v := .ref qc) rfl rfl dX1_advanceGrabbing_59 rfl ?_
  refine u_bipush (v := 52) h dX1_advanceGrabbing_62 (by decide) rfl ?_
  refine u_iconst (v := 0) h dX1_advanceGrabbing_64 (by decide) rfl ?_
  refine u_iast h (n := 52) (v := 0) 1 rfl (by omega) (by omega) rfl (ws' := [(h0, .inr (1, [.ref qc])), (qc, aI G 54 (upd (encC z) 52 0))]) rfl dX1_advanceGrabbing_65 rfl ?_
  refine u_aload_n h dX1_advanceGrabbing_66 rfl 0 rfl rfl ?_
  refine u_iload_n h dX1_advanceGrabbing_67 rfl 1 rfl rfl ?_
  refine u_iconst (v := 0) h dX1_advanceGrabbing_68 (by decide) rfl ?_
  refine u_callV h (As := [.int (nI v), .int 0]) (wc := [(h0, .inr (1, [.ref qc])), (qc, aI G 54 (upd (encC z) 52 0))]) (wr := []) (kX1_moveTo G h0 qc (upd (encC z) 52 0) v hv 0) cwX1_advanceGrabbing_X1_moveTo rfl rfl hR ⟨⟨rfl, rfl⟩, by decide, by decide⟩ ⟨Nat.le_of_ble_eq_true rfl, Nat.le_of_ble_eq_true rfl⟩ (ci := 1) (qr := 0) rfl rfl [0, 1] [] rfl rfl rfl rfl (by decide) (Nat.le_of_ble_eq_true rfl) rfl dX1_advanceGrabbing_69 rfl (fun v9 u9 hp9 => ?_)
  obtain ⟨rfl, rfl⟩ := hp9
  refine u_wp (ws' := [(h0, .inr (1, [.ref qc])), (qc, aI G 54 (upd (upd (encC z) 52 0) v 0))]) [0, 1] rfl rfl ?_
  refine u_eqs (st' := []) rfl ?_
  exact u_vret h hRT dX1_advanceGrabbing_72 (by omega) (by omega) (by refine ⟨rfl, congrArg (fun f => [(h0, .inr (1, [.ref qc])), (qc, aI G 54 f)]) ?_⟩; have e52 := e_gr z; first | (simp [chG, k1, k2, hk, E_nx _ hv, E_fl _ hv, E_ah _ hv, E_ow _ hv, E_wa _ hv, E_ti _ hv, E_ta, E_gi, E_se, E_gr, tN_m1, E_st _ hv, u60o _ _ (show v < 7 by omega) (show 6 ≤ 42 by omega), u60o _ _ (show v < 7 by omega) (show 12 ≤ 42 by omega), u60o _ _ (show v < 7 by omega) (show 18 ≤ 42 by omega), u60o _ _ (show v < 7 by omega) (show 24 ≤ 42 by omega), u60o _ _ (show v < 7 by omega) (show 30 ≤ 42 by omega), u60o _ _ (show v < 7 by omega) (show 36 ≤ 42 by omega), u60z _ _ (show v < 7 by omega), u60_49, u60_50, u60_51, u60_52]; done) | (simp [chG, k1, k2, hk, E_nx _ hv, E_fl _ hv, E_ah _ hv, E_ow _ hv, E_wa _ hv, E_ti _ hv, E_ta, E_gi, E_se, E_gr, tN_m1, E_st _ hv, u60o _ _ (show v < 7 by omega) (show 6 ≤ 42 by omega), u60o _ _ (show v < 7 by omega) (show 12 ≤ 42 by omega), u60o _ _ (show v < 7 by omega) (show 18 ≤ 42 by omega), u60o _ _ (show v < 7 by omega) (show 24 ≤ 42 by omega), u60o _ _ (show v < 7 by omega) (show 30 ≤ 42 by omega), u60o _ _ (show v < 7 by omega) (show 36 ≤ 42 by omega), u60z _ _ (show v < 7 by omega), u60_49, u60_50, u60_51, u60_52]; clear h hR hL hRT hW; funext j; simp only [upd]; grind))

set_option maxRecDepth 20000 in
theorem cwX1_advance_X1_waits : CWd wsX1_advance (wsV RX1 46 RX1 yX1_waits wsX1_waits) yX1_waits wsX1_waits cX1_waits 3 (some .boolean) 1 := ⟨gX1_advance_X1_waits, ⟨_, rfl⟩, by decide +kernel, by decide, by decide⟩
set_option maxRecDepth 20000 in
theorem cwX1_advance_X1_kind : CWd wsX1_advance (wsV RX1 25 RX1 yX1_kind wsX1_kind) yX1_kind wsX1_kind cX1_kind 1 (some .int) 0 := ⟨gX1_advance_X1_kind, ⟨_, rfl⟩, by decide +kernel, by decide, by decide⟩
set_option maxRecDepth 20000 in
theorem cwX1_advance_X1_advanceNudges : CWd wsX1_advance (wsV RX1 49 RX1 yX1_advanceNudges wsX1_advanceNudges) yX1_advanceNudges wsX1_advanceNudges cX1_advanceNudges 2 none 1 := ⟨gX1_advance_X1_advanceNudges, ⟨_, rfl⟩, by decide +kernel, by decide, by decide⟩
set_option maxRecDepth 20000 in
theorem cwX1_advance_X1_advanceWatching : CWd wsX1_advance (wsV RX1 52 RX1 yX1_advanceWatching wsX1_advanceWatching) yX1_advanceWatching wsX1_advanceWatching cX1_advanceWatching 2 none 1 := ⟨gX1_advance_X1_advanceWatching, ⟨_, rfl⟩, by decide +kernel, by decide, by decide⟩
set_option maxRecDepth 20000 in
theorem cwX1_advance_X1_advanceTickets : CWd wsX1_advance (wsV RX1 55 RX1 yX1_advanceTickets wsX1_advanceTickets) yX1_advanceTickets wsX1_advanceTickets cX1_advanceTickets 2 none 1 := ⟨gX1_advance_X1_advanceTickets, ⟨_, rfl⟩, by decide +kernel, by decide, by decide⟩
set_option maxRecDepth 20000 in
theorem cwX1_advance_X1_advanceGrabbing : CWd wsX1_advance (wsV RX1 58 RX1 yX1_advanceGrabbing wsX1_advanceGrabbing) yX1_advanceGrabbing wsX1_advanceGrabbing cX1_advanceGrabbing 2 none 1 := ⟨gX1_advance_X1_advanceGrabbing, ⟨_, rfl⟩, by decide +kernel, by decide, by decide⟩
set_option maxHeartbeats 8000000 in
set_option maxRecDepth 100000 in
theorem kX1_advance (G : Gx) (h0 qc : Nat) (z : Zf) (v : Nat) (hv : v < 6) (hW : Wc z) : MC G yX1_advance wsX1_advance ({ frames := 4, cells := 0, slots := 0, locals := 84 } : Room) [.ref h0, .int (nI v)] [(h0, .inr (1, [.ref qc])), (qc, aI G 54 (encC z))] (fun v' u' => v' = none ∧ u' = [(h0, .inr (1, [.ref qc])), (qc, aI G 54 (encC (if isLook z v = true then z else chM z v)))]) 0 0 := by
  refine mc_of (cc := cX1_advance) (maxL := 2) (ret := none) (by decide) rfl (Nat.le_of_ble_eq_true rfl) (fun X h hR hL hRT => ?_)
  refine u_eql (lv' := [(0, .ref h0), (1, .int (nI v))]) rfl ?_
  refine u_aload_n h dX1_advance_0 rfl 0 rfl rfl ?_
  refine u_iload_n h dX1_advance_1 rfl 1 rfl rfl ?_
  refine u_callV h (As := [.int (nI v)]) (wc := [(h0, .inr (1, [.ref qc])), (qc, aI G 54 (encC z))]) (wr := []) (kX1_waits G h0 qc z v hv hW) cwX1_advance_X1_waits rfl rfl hR ⟨⟨rfl, rfl⟩, by decide, by decide⟩ ⟨Nat.le_of_ble_eq_true rfl, Nat.le_of_ble_eq_true rfl⟩ (ci := 1) (qr := 0) rfl rfl [0, 1] [] rfl rfl rfl rfl (by decide) (Nat.le_of_ble_eq_true rfl) rfl dX1_advance_2 rfl (fun v9 u9 hp9 => ?_)
  obtain ⟨rfl, rfl⟩ := hp9
  refine u_wp (ws' := [(h0, .inr (1, [.ref qc])), (qc, aI G 54 (encC z))]) [0, 1] rfl rfl ?_
  refine u_eqs (st' := [.int (bI (isLook z v))]) rfl ?_
  refine u_if_eq_B (tgt := 9) h dX1_advance_5 (by decide) rfl (fun c1 => ?_) (fun c1 => ?_)
  · refine u_aload_n h dX1_advance_9 rfl 0 rfl rfl ?_
    refine u_callV h (As := []) (wc := [(h0, .inr (1, [.ref qc])), (qc, aI G 54 (encC z))]) (wr := []) (kX1_kind G h0 qc (encC z)) cwX1_advance_X1_kind rfl rfl hR ⟨⟨rfl, rfl⟩, by decide, by decide⟩ ⟨Nat.le_of_ble_eq_true rfl, Nat.le_of_ble_eq_true rfl⟩ (ci := 1) (qr := 0) rfl rfl [0, 1] [] rfl rfl rfl rfl (by decide) (Nat.le_of_ble_eq_true rfl) rfl dX1_advance_10 rfl (fun v9 u9 hp9 => ?_)
    obtain ⟨rfl, rfl⟩ := hp9
    refine u_wp (ws' := [(h0, .inr (1, [.ref qc])), (qc, aI G 54 (encC z))]) [0, 1] rfl rfl ?_
    refine u_eqs (st' := [.int ((encC z) 53)]) rfl ?_
    refine u_top (y := (z 60)) (e_ki _) ?_
    by_cases k2 : (z 60) = 0
    · refine u_tableIn (off := 27) (tgt := 40) h dX1_advance_13 (by rw [k2]; decide) (by rw [k2]; decide) (by rw [k2]; rfl) (by decide) ?_
      refine u_aload_n h dX1_advance_40 rfl 0 rfl rfl ?_
      refine u_iload_n h dX1_advance_41 rfl 1 rfl rfl ?_
      refine u_callV h (As := [.int (nI v)]) (wc := [(h0, .inr (1, [.ref qc])), (qc, aI G 54 (encC z))]) (wr := []) (kX1_advanceNudges G h0 qc z v hv hW k2) cwX1_advance_X1_advanceNudges rfl rfl hR ⟨⟨rfl, rfl⟩, by decide, by decide⟩ ⟨Nat.le_of_ble_eq_true rfl, Nat.le_of_ble_eq_true rfl⟩ (ci := 1) (qr := 0) rfl rfl [0, 1] [] rfl rfl rfl rfl (by decide) (Nat.le_of_ble_eq_true rfl) rfl dX1_advance_42 rfl (fun v9 u9 hp9 => ?_)
      obtain ⟨rfl, rfl⟩ := hp9
      refine u_wp (ws' := [(h0, .inr (1, [.ref qc])), (qc, aI G 54 (encC (chN z v)))]) [0, 1] rfl rfl ?_
      refine u_eqs (st' := []) rfl ?_
      refine u_goto (tgt := 69) h dX1_advance_45 (by decide) ?_
      exact u_vret h hRT dX1_advance_69 (by omega) (by omega) (by first | (simp [chM, c1, k2]; done) | (exfalso; simp_all; done) | (simp_all [chM, c1, k2]; done))
    by_cases k3 : (z 60) = 1
    · refine u_tableIn (off := 35) (tgt := 48) h dX1_advance_13 (by rw [k3]; decide) (by rw [k3]; decide) (by rw [k3]; rfl) (by decide) ?_
      refine u_aload_n h dX1_advance_48 rfl 0 rfl rfl ?_
      refine u_iload_n h dX1_advance_49 rfl 1 rfl rfl ?_
      refine u_callV h (As := [.int (nI v)]) (wc := [(h0, .inr (1, [.ref qc])), (qc, aI G 54 (encC z))]) (wr := []) (kX1_advanceWatching G h0 qc z v hv hW k3) cwX1_advance_X1_advanceWatching rfl rfl hR ⟨⟨rfl, rfl⟩, by decide, by decide⟩ ⟨Nat.le_of_ble_eq_true rfl, Nat.le_of_ble_eq_true rfl⟩ (ci := 1) (qr := 0) rfl rfl [0, 1] [] rfl rfl rfl rfl (by decide) (Nat.le_of_ble_eq_true rfl) rfl dX1_advance_50 rfl (fun v9 u9 hp9 => ?_)
      obtain ⟨rfl, rfl⟩ := hp9
      refine u_wp (ws' := [(h0, .inr (1, [.ref qc])), (qc, aI G 54 (encC (chW z v)))]) [0, 1] rfl rfl ?_
      refine u_eqs (st' := []) rfl ?_
      refine u_goto (tgt := 69) h dX1_advance_53 (by decide) ?_
      exact u_vret h hRT dX1_advance_69 (by omega) (by omega) (by first | (simp [chM, c1, k3]; done) | (exfalso; simp_all; done) | (simp_all [chM, c1, k3]; done))
    by_cases k4 : (z 60) = 2
    · refine u_tableIn (off := 43) (tgt := 56) h dX1_advance_13 (by rw [k4]; decide) (by rw [k4]; decide) (by rw [k4]; rfl) (by decide) ?_
      refine u_aload_n h dX1_advance_56 rfl 0 rfl rfl ?_
      refine u_iload_n h dX1_advance_57 rfl 1 rfl rfl ?_
      refine u_callV h (As := [.int (nI v)]) (wc := [(h0, .inr (1, [.ref qc])), (qc, aI G 54 (encC z))]) (wr := []) (kX1_advanceTickets G h0 qc z v hv hW k4) cwX1_advance_X1_advanceTickets rfl rfl hR ⟨⟨rfl, rfl⟩, by decide, by decide⟩ ⟨Nat.le_of_ble_eq_true rfl, Nat.le_of_ble_eq_true rfl⟩ (ci := 1) (qr := 0) rfl rfl [0, 1] [] rfl rfl rfl rfl (by decide) (Nat.le_of_ble_eq_true rfl) rfl dX1_advance_58 rfl (fun v9 u9 hp9 => ?_)
      obtain ⟨rfl, rfl⟩ := hp9
      refine u_wp (ws' := [(h0, .inr (1, [.ref qc])), (qc, aI G 54 (encC (chT z v)))]) [0, 1] rfl rfl ?_
      refine u_eqs (st' := []) rfl ?_
      refine u_goto (tgt := 69) h dX1_advance_61 (by decide) ?_
      exact u_vret h hRT dX1_advance_69 (by omega) (by omega) (by first | (simp [chM, c1, k4]; done) | (exfalso; simp_all; done) | (simp_all [chM, c1, k4]; done))
    refine u_tableOut (tgt := 64) h dX1_advance_13 (ti_out (n := 3) (by decide) (fun k9 hk9 => by rcases (show k9 = 0 ∨ k9 = 1 ∨ k9 = 2 by omega) with rfl | rfl | rfl <;> assumption)) (by decide) ?_
    refine u_aload_n h dX1_advance_64 rfl 0 rfl rfl ?_
    refine u_iload_n h dX1_advance_65 rfl 1 rfl rfl ?_
    refine u_callV h (As := [.int (nI v)]) (wc := [(h0, .inr (1, [.ref qc])), (qc, aI G 54 (encC z))]) (wr := []) (kX1_advanceGrabbing G h0 qc z v hv hW k4) cwX1_advance_X1_advanceGrabbing rfl rfl hR ⟨⟨rfl, rfl⟩, by decide, by decide⟩ ⟨Nat.le_of_ble_eq_true rfl, Nat.le_of_ble_eq_true rfl⟩ (ci := 1) (qr := 0) rfl rfl [0, 1] [] rfl rfl rfl rfl (by decide) (Nat.le_of_ble_eq_true rfl) rfl dX1_advance_66 rfl (fun v9 u9 hp9 => ?_)
    obtain ⟨rfl, rfl⟩ := hp9
    refine u_wp (ws' := [(h0, .inr (1, [.ref qc])), (qc, aI G 54 (encC (chG z v)))]) [0, 1] rfl rfl ?_
    refine u_eqs (st' := []) rfl ?_
    exact u_vret h hRT dX1_advance_69 (by omega) (by omega) (by first | (simp [chM, c1, k2, k3, k4]; done) | (exfalso; simp_all; done) | (simp_all [chM, c1, k2, k3, k4]; done))
  · exact u_vret h hRT dX1_advance_8 (by omega) (by omega) (by first | (simp [chM, c1]; done) | (exfalso; simp_all; done) | (simp_all [chM, c1]; done))

theorem flX1_reset_11 : FL wsX1_reset RX1 11 1 0 := ⟨RX1, TX1, 1, rfl, by decide, by decide +kernel, by decide +kernel⟩
set_option maxHeartbeats 8000000 in
set_option maxRecDepth 100000 in
theorem kX1_reset (G : Gx) (h0 qc : Nat) (z c : Zf) (k : Int32) (hc : ∀ j : Nat, 54 ≤ j → c j = 0) : MC G yX1_reset wsX1_reset ({ frames := 0, cells := 0, slots := 0, locals := 0 } : Room) [.ref h0, .int k] [(h0, .inr (1, [.ref qc])), (qc, aI G 54 c)] (fun v' u' => v' = none ∧ u' = [(h0, .inr (1, [.ref qc])), (qc, aI G 54 (encC (clrM z k)))]) 0 0 := by
  refine mc_of (cc := cX1_reset) (maxL := 3) (ret := none) (by decide) rfl (Nat.le_of_ble_eq_true rfl) (fun X h hR hL hRT => ?_)
  refine u_eql (lv' := [(0, .ref h0), (1, .int k)]) rfl ?_
  refine u_iconst (v := 0) h dX1_reset_0 (by decide) rfl ?_
  refine u_istore_n (lv' := [(2, .int 0), (0, .ref h0), (1, .int k)]) h dX1_reset_1 rfl (by rw [hL]; decide) rfl rfl ?_
  have LA : ∀ (k9 : Nat) (v : Nat) (d : Zf), 6 - v = k9 → (v ≤ 6) → (d = rs1 c k v) → U G X 0 0 [(h0, .inr (1, [.ref qc])), (qc, aI G 54 d)] 2 [(2, .int (nI v)), (0, .ref h0), (1, .int k)] [] := by
    intro k9
    induction k9 using Nat.strongRecOn with
    | _ k9 ihA =>
      intro v d hk9 hv hd
      subst hk9
      refine u_iload_n h dX1_reset_2 rfl 0 rfl rfl ?_
      refine u_bipush (v := 6) h dX1_reset_3 (by decide) rfl ?_
      refine u_icmp_ge_N (a := v) (b := 6) (tgt := 97) h dX1_reset_5 (by decide) (by omega) (by omega) rfl (fun c1 => ?_) (fun c1 => ?_)
      · refine u_iconst (v := 0) h dX1_reset_97 (by decide) rfl ?_
        refine u_istore_n (lv' := [(2, .int 0), (0, .ref h0), (1, .int k)]) h dX1_reset_98 rfl (by rw [hL]; decide) rfl rfl ?_
        have LB : ∀ (k9 : Nat) (w : Nat) (e : Zf), 7 - w = k9 → (w ≤ 7) → (e = rs2 d w) → U G X 0 0 [(h0, .inr (1, [.ref qc])), (qc, aI G 54 e)] 99 [(2, .int (nI w)), (0, .ref h0), (1, .int k)] [] := by
          intro k9
          induction k9 using Nat.strongRecOn with
          | _ k9 ihB =>
            intro w e hk9 hw he
            subst hk9
            refine u_iload_n h dX1_reset_99 rfl 0 rfl rfl ?_
            refine u_bipush (v := 7) h dX1_reset_100 (by decide) rfl ?_
            refine u_icmp_ge_N (a := w) (b := 7) (tgt := 121) h dX1_reset_102 (by decide) (by omega) (by omega) rfl (fun c2 => ?_) (fun c2 => ?_)
            · refine u_aload_n h dX1_reset_121 rfl 1 rfl rfl ?_
              refine u_get h flX1_reset_11 0 (v := .ref qc) rfl rfl dX1_reset_122 rfl ?_
              refine u_bipush (v := 49) h dX1_reset_125 (by decide) rfl ?_
              refine u_iload_n h dX1_reset_127 rfl 2 rfl rfl ?_
              refine u_iconst (v := 1) h dX1_reset_128 (by decide) rfl ?_
              have J3 : ∀ x4 : Int32, x4 = (if k = 1 then 6 else -5) → U G X 0 0 [(h0, .inr (1, [.ref qc])), (qc, aI G 54 e)] 139 [(2, .int (nI w)), (0, .ref h0), (1, .int k)] [.int x4, .int 49, .ref qc] := by
                intro x4 e9
                subst e9
                refine u_iast h (n := 49) (v := (if k = 1 then 6 else -5)) 1 rfl (by omega) (by omega) rfl (ws' := [(h0, .inr (1, [.ref qc])), (qc, aI G 54 (upd e 49 (if k = 1 then 6 else -5)))]) rfl dX1_reset_139 rfl ?_
                refine u_aload_n h dX1_reset_140 rfl 1 rfl rfl ?_
                refine u_get h flX1_reset_11 0 (v := .ref qc) rfl rfl dX1_reset_141 rfl ?_
                refine u_bipush (v := 50) h dX1_reset_144 (by decide) rfl ?_
                refine u_iconst (v := 0) h dX1_reset_146 (by decide) rfl ?_
                refine u_iast h (n := 50) (v := 0) 1 rfl (by omega) (by omega) rfl (ws' := [(h0, .inr (1, [.ref qc])), (qc, aI G 54 (upd (upd e 49 (if k = 1 then 6 else -5)) 50 0))]) rfl dX1_reset_147 rfl ?_
                refine u_aload_n h dX1_reset_148 rfl 1 rfl rfl ?_
                refine u_get h flX1_reset_11 0 (v := .ref qc) rfl rfl dX1_reset_149 rfl ?_
                refine u_bipush (v := 51) h dX1_reset_152 (by decide) rfl ?_
                refine u_iconst (v := 0) h dX1_reset_154 (by decide) rfl ?_
                refine u_iast h (n := 51) (v := 0) 1 rfl (by omega) (by omega) rfl (ws' := [(h0, .inr (1, [.ref qc])), (qc, aI G 54 (upd (upd (upd e 49 (if k = 1 then 6 else -5)) 50 0) 51 0))]) rfl dX1_reset_155 rfl ?_
                refine u_aload_n h dX1_reset_156 rfl 1 rfl rfl ?_
                refine u_get h flX1_reset_11 0 (v := .ref qc) rfl rfl dX1_reset_157 rfl ?_
                refine u_bipush (v := 52) h dX1_reset_160 (by decide) rfl ?_
                refine u_iconst (v := 0) h dX1_reset_162 (by decide) rfl ?_
                refine u_iast h (n := 52) (v := 0) 1 rfl (by omega) (by omega) rfl (ws' := [(h0, .inr (1, [.ref qc])), (qc, aI G 54 (upd (upd (upd (upd e 49 (if k = 1 then 6 else -5)) 50 0) 51 0) 52 0))]) rfl dX1_reset_163 rfl ?_
                refine u_aload_n h dX1_reset_164 rfl 1 rfl rfl ?_
                refine u_get h flX1_reset_11 0 (v := .ref qc) rfl rfl dX1_reset_165 rfl ?_
                refine u_bipush (v := 53) h dX1_reset_168 (by decide) rfl ?_
                refine u_iload_n h dX1_reset_170 rfl 2 rfl rfl ?_
                refine u_iast h (n := 53) (v := k) 1 rfl (by omega) (by omega) rfl (ws' := [(h0, .inr (1, [.ref qc])), (qc, aI G 54 (upd (upd (upd (upd (upd e 49 (if k = 1 then 6 else -5)) 50 0) 51 0) 52 0) 53 k))]) rfl dX1_reset_171 rfl ?_
                exact u_vret h hRT dX1_reset_172 (by omega) (by omega) (by exact ⟨rfl, by rw [← rsC_eq c z k hc, he, hd, show v = 6 by omega, show w = 7 by omega]; rfl⟩)
              refine u_icmp_ne (tgt := 137) h dX1_reset_129 (by decide) rfl (fun c5 => ?_) (fun c5 => ?_)
              · refine u_bipush (v := (-5)) h dX1_reset_137 (by decide) rfl ?_
                exact J3 _ (by first | (simp [c1, c2, c5]; done) | (exfalso; first | exact absurd (c1.symm.trans c2) (by decide) | exact absurd (c1.symm.trans c5) (by decide) | exact absurd (c2.symm.trans c1) (by decide) | exact absurd (c2.symm.trans c5) (by decide) | exact absurd (c5.symm.trans c1) (by decide) | exact absurd (c5.symm.trans c2) (by decide)))
              · refine u_bipush (v := 6) h dX1_reset_132 (by decide) rfl ?_
                refine u_goto (tgt := 139) h dX1_reset_134 (by decide) ?_
                exact J3 _ (by first | (simp [c1, c2, c5]; done) | (exfalso; first | exact absurd (c1.symm.trans c2) (by decide) | exact absurd (c1.symm.trans c5) (by decide) | exact absurd (c2.symm.trans c1) (by decide) | exact absurd (c2.symm.trans c5) (by decide) | exact absurd (c5.symm.trans c1) (by decide) | exact absurd (c5.symm.trans c2) (by decide)))
            · refine u_aload_n h dX1_reset_105 rfl 1 rfl rfl ?_
              refine u_get h flX1_reset_11 0 (v := .ref qc) rfl rfl dX1_reset_106 rfl ?_
              refine u_bipush (v := 42) h dX1_reset_109 (by decide) rfl ?_
              refine u_iload_n h dX1_reset_111 rfl 0 rfl rfl ?_
              refine u_iadd (v := (nI (42 + w))) h dX1_reset_112 (nI_add 42 w) rfl ?_
              refine u_iconst (v := 0) h dX1_reset_113 (by decide) rfl ?_
              refine u_iast h (n := (42 + w)) (v := 0) 1 rfl (by omega) (by omega) rfl (ws' := [(h0, .inr (1, [.ref qc])), (qc, aI G 54 (upd e (42 + w) 0))]) rfl dX1_reset_114 rfl ?_
              refine u_iinc (k := 0) (v := (nI (w + 1))) (lv' := [(2, .int (nI (w + 1))), (0, .ref h0), (1, .int k)]) h dX1_reset_115 rfl (nI_add w 1) (by rw [hL]; decide) rfl rfl ?_
              refine u_goto (tgt := 99) h dX1_reset_118 (by decide) ?_
              exact ihB _ (by omega) (w + 1) (upd e (42 + w) 0) rfl (by omega) (by rw [he]; rfl)
        exact LB _ 0 d rfl (Nat.zero_le _) rfl
      · refine u_aload_n h dX1_reset_8 rfl 1 rfl rfl ?_
        refine u_get h flX1_reset_11 0 (v := .ref qc) rfl rfl dX1_reset_9 rfl ?_
        refine u_iconst (v := 0) h dX1_reset_12 (by decide) rfl ?_
        refine u_iload_n h dX1_reset_13 rfl 0 rfl rfl ?_
        refine u_iadd (v := (nI v)) h dX1_reset_14 (by have h9 := nI_add 0 v; rw [Nat.zero_add] at h9; exact h9) rfl ?_
        refine u_iconst (v := 0) h dX1_reset_15 (by decide) rfl ?_
        refine u_iast h (n := v) (v := 0) 1 rfl (by omega) (by omega) rfl (ws' := [(h0, .inr (1, [.ref qc])), (qc, aI G 54 (upd d v 0))]) rfl dX1_reset_16 rfl ?_
        refine u_aload_n h dX1_reset_17 rfl 1 rfl rfl ?_
        refine u_get h flX1_reset_11 0 (v := .ref qc) rfl rfl dX1_reset_18 rfl ?_
        refine u_bipush (v := 6) h dX1_reset_21 (by decide) rfl ?_
        refine u_iload_n h dX1_reset_23 rfl 0 rfl rfl ?_
        refine u_iadd (v := (nI (6 + v))) h dX1_reset_24 (nI_add 6 v) rfl ?_
        refine u_bipush (v := (-5)) h dX1_reset_25 (by decide) rfl ?_
        refine u_iast h (n := (6 + v)) (v := (-5)) 1 rfl (by omega) (by omega) rfl (ws' := [(h0, .inr (1, [.ref qc])), (qc, aI G 54 (upd (upd d v 0) (6 + v) (-5)))]) rfl dX1_reset_27 rfl ?_
        refine u_aload_n h dX1_reset_28 rfl 1 rfl rfl ?_
        refine u_get h flX1_reset_11 0 (v := .ref qc) rfl rfl dX1_reset_29 rfl ?_
        refine u_bipush (v := 12) h dX1_reset_32 (by decide) rfl ?_
        refine u_iload_n h dX1_reset_34 rfl 0 rfl rfl ?_
        refine u_iadd (v := (nI (12 + v))) h dX1_reset_35 (nI_add 12 v) rfl ?_
        refine u_iconst (v := 0) h dX1_reset_36 (by decide) rfl ?_
        refine u_iast h (n := (12 + v)) (v := 0) 1 rfl (by omega) (by omega) rfl (ws' := [(h0, .inr (1, [.ref qc])), (qc, aI G 54 (upd (upd (upd d v 0) (6 + v) (-5)) (12 + v) 0))]) rfl dX1_reset_37 rfl ?_
        refine u_aload_n h dX1_reset_38 rfl 1 rfl rfl ?_
        refine u_get h flX1_reset_11 0 (v := .ref qc) rfl rfl dX1_reset_39 rfl ?_
        refine u_bipush (v := 18) h dX1_reset_42 (by decide) rfl ?_
        refine u_iload_n h dX1_reset_44 rfl 0 rfl rfl ?_
        refine u_iadd (v := (nI (18 + v))) h dX1_reset_45 (nI_add 18 v) rfl ?_
        refine u_bipush (v := (-5)) h dX1_reset_46 (by decide) rfl ?_
        refine u_iast h (n := (18 + v)) (v := (-5)) 1 rfl (by omega) (by omega) rfl (ws' := [(h0, .inr (1, [.ref qc])), (qc, aI G 54 (upd (upd (upd (upd d v 0) (6 + v) (-5)) (12 + v) 0) (18 + v) (-5)))]) rfl dX1_reset_48 rfl ?_
        refine u_aload_n h dX1_reset_49 rfl 1 rfl rfl ?_
        refine u_get h flX1_reset_11 0 (v := .ref qc) rfl rfl dX1_reset_50 rfl ?_
        refine u_bipush (v := 24) h dX1_reset_53 (by decide) rfl ?_
        refine u_iload_n h dX1_reset_55 rfl 0 rfl rfl ?_
        refine u_iadd (v := (nI (24 + v))) h dX1_reset_56 (nI_add 24 v) rfl ?_
        refine u_iload_n h dX1_reset_57 rfl 2 rfl rfl ?_
        refine u_iconst (v := 1) h dX1_reset_58 (by decide) rfl ?_
        have J6 : ∀ x7 : Int32, x7 = (if k = 1 then nI v else -5) → U G X 0 0 [(h0, .inr (1, [.ref qc])), (qc, aI G 54 (upd (upd (upd (upd d v 0) (6 + v) (-5)) (12 + v) 0) (18 + v) (-5)))] 68 [(2, .int (nI v)), (0, .ref h0), (1, .int k)] [.int x7, .int (nI (24 + v)), .ref qc] := by
          intro x7 e9
          subst e9
          refine u_iast h (n := (24 + v)) (v := (if k = 1 then nI v else -5)) 1 rfl (by omega) (by omega) rfl (ws' := [(h0, .inr (1, [.ref qc])), (qc, aI G 54 (upd (upd (upd (upd (upd d v 0) (6 + v) (-5)) (12 + v) 0) (18 + v) (-5)) (24 + v) (if k = 1 then nI v else -5)))]) rfl dX1_reset_68 rfl ?_
          refine u_aload_n h dX1_reset_69 rfl 1 rfl rfl ?_
          refine u_get h flX1_reset_11 0 (v := .ref qc) rfl rfl dX1_reset_70 rfl ?_
          refine u_bipush (v := 30) h dX1_reset_73 (by decide) rfl ?_
          refine u_iload_n h dX1_reset_75 rfl 0 rfl rfl ?_
          refine u_iadd (v := (nI (30 + v))) h dX1_reset_76 (nI_add 30 v) rfl ?_
          refine u_bipush (v := (-5)) h dX1_reset_77 (by decide) rfl ?_
          refine u_iast h (n := (30 + v)) (v := (-5)) 1 rfl (by omega) (by omega) rfl (ws' := [(h0, .inr (1, [.ref qc])), (qc, aI G 54 (upd (upd (upd (upd (upd (upd d v 0) (6 + v) (-5)) (12 + v) 0) (18 + v) (-5)) (24 + v) (if k = 1 then nI v else -5)) (30 + v) (-5)))]) rfl dX1_reset_79 rfl ?_
          refine u_aload_n h dX1_reset_80 rfl 1 rfl rfl ?_
          refine u_get h flX1_reset_11 0 (v := .ref qc) rfl rfl dX1_reset_81 rfl ?_
          refine u_bipush (v := 36) h dX1_reset_84 (by decide) rfl ?_
          refine u_iload_n h dX1_reset_86 rfl 0 rfl rfl ?_
          refine u_iadd (v := (nI (36 + v))) h dX1_reset_87 (nI_add 36 v) rfl ?_
          refine u_bipush (v := (-5)) h dX1_reset_88 (by decide) rfl ?_
          refine u_iast h (n := (36 + v)) (v := (-5)) 1 rfl (by omega) (by omega) rfl (ws' := [(h0, .inr (1, [.ref qc])), (qc, aI G 54 (upd (upd (upd (upd (upd (upd (upd d v 0) (6 + v) (-5)) (12 + v) 0) (18 + v) (-5)) (24 + v) (if k = 1 then nI v else -5)) (30 + v) (-5)) (36 + v) (-5)))]) rfl dX1_reset_90 rfl ?_
          refine u_iinc (k := 0) (v := (nI (v + 1))) (lv' := [(2, .int (nI (v + 1))), (0, .ref h0), (1, .int k)]) h dX1_reset_91 rfl (nI_add v 1) (by rw [hL]; decide) rfl rfl ?_
          refine u_goto (tgt := 2) h dX1_reset_94 (by decide) ?_
          exact ihA _ (by omega) (v + 1) (upd (upd (upd (upd (upd (upd (upd d v 0) (6 + v) (-5)) (12 + v) 0) (18 + v) (-5)) (24 + v) (if k = 1 then nI v else -5)) (30 + v) (-5)) (36 + v) (-5)) rfl (by omega) (by rw [hd]; rfl)
        refine u_icmp_ne (tgt := 66) h dX1_reset_59 (by decide) rfl (fun c8 => ?_) (fun c8 => ?_)
        · refine u_bipush (v := (-5)) h dX1_reset_66 (by decide) rfl ?_
          exact J6 _ (by first | (simp [c1, c8]; done) | (exfalso; first | exact absurd (c1.symm.trans c8) (by decide) | exact absurd (c8.symm.trans c1) (by decide)))
        · refine u_iload_n h dX1_reset_62 rfl 0 rfl rfl ?_
          refine u_goto (tgt := 68) h dX1_reset_63 (by decide) ?_
          exact J6 _ (by first | (simp [c1, c8]; done) | (exfalso; first | exact absurd (c1.symm.trans c8) (by decide) | exact absurd (c8.symm.trans c1) (by decide)))
  exact LA _ 0 c rfl (Nat.zero_le _) rfl
