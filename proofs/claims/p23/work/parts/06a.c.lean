set_option maxHeartbeats 8000000 in
set_option maxRecDepth 100000 in
theorem kX4_isVisitor (G : Gx) (x : Int32) : MC G yX4_isVisitor wsX4_isVisitor ({ frames := 0, cells := 0, slots := 0, locals := 0 } : Room) [.int x] [] (fun v' u' => v' = some (.int (bI (isV x))) ∧ u' = []) 0 0 := by
  refine mc_of (cc := cX4_isVisitor) (maxL := 1) (ret := (some .boolean)) (by decide) rfl (Nat.le_of_ble_eq_true rfl) (fun X h hR hL hRT => ?_)
  refine u_eql (lv' := [(0, .int x)]) rfl ?_
  refine u_iload_n h dX4_isVisitor_0 rfl 0 rfl rfl ?_
  refine u_if_lt (tgt := 14) h dX4_isVisitor_1 (by decide) rfl (fun c1 => ?_) (fun c1 => ?_)
  · refine u_iconst (v := 0) h dX4_isVisitor_14 (by decide) rfl ?_
    exact u_zret h hRT dX4_isVisitor_15 rfl (by omega) (by omega) (by refine ⟨congrArg (fun b => some (Value.int b)) ?_, rfl⟩; rw [isV_C]; simp [bI, c1, Int32.not_le.mpr c1])
  · refine u_iload_n h dX4_isVisitor_4 rfl 0 rfl rfl ?_
    refine u_bipush (v := 6) h dX4_isVisitor_5 (by decide) rfl ?_
    refine u_icmp_ge (tgt := 14) h dX4_isVisitor_7 (by decide) rfl (fun c2 => ?_) (fun c2 => ?_)
    · refine u_iconst (v := 0) h dX4_isVisitor_14 (by decide) rfl ?_
      exact u_zret h hRT dX4_isVisitor_15 rfl (by omega) (by omega) (by refine ⟨congrArg (fun b => some (Value.int b)) ?_, rfl⟩; rw [isV_C]; simp [bI, c1, Int32.not_lt.mp c1, c2, Int32.not_lt.mpr c2])
    · refine u_iconst (v := 1) h dX4_isVisitor_10 (by decide) rfl ?_
      refine u_goto (tgt := 15) h dX4_isVisitor_11 (by decide) ?_
      exact u_zret h hRT dX4_isVisitor_15 rfl (by omega) (by omega) (by refine ⟨congrArg (fun b => some (Value.int b)) ?_, rfl⟩; rw [isV_C]; simp [bI, c1, Int32.not_lt.mp c1, c2, Int32.not_le.mp c2])

set_option maxHeartbeats 8000000 in
set_option maxRecDepth 100000 in
theorem kX4_isCard (G : Gx) (x : Int32) : MC G yX4_isCard wsX4_isCard ({ frames := 0, cells := 0, slots := 0, locals := 0 } : Room) [.int x] [] (fun v' u' => v' = some (.int (bI (inB x 0 6))) ∧ u' = []) 0 0 := by
  refine mc_of (cc := cX4_isCard) (maxL := 1) (ret := (some .boolean)) (by decide) rfl (Nat.le_of_ble_eq_true rfl) (fun X h hR hL hRT => ?_)
  refine u_eql (lv' := [(0, .int x)]) rfl ?_
  refine u_iload_n h dX4_isCard_0 rfl 0 rfl rfl ?_
  refine u_if_lt (tgt := 14) h dX4_isCard_1 (by decide) rfl (fun c1 => ?_) (fun c1 => ?_)
  · refine u_iconst (v := 0) h dX4_isCard_14 (by decide) rfl ?_
    exact u_zret h hRT dX4_isCard_15 rfl (by omega) (by omega) (by refine ⟨congrArg (fun b => some (Value.int b)) ?_, rfl⟩; rw [isC_C]; simp [bI, c1, Int32.not_le.mpr c1])
  · refine u_iload_n h dX4_isCard_4 rfl 0 rfl rfl ?_
    refine u_bipush (v := 7) h dX4_isCard_5 (by decide) rfl ?_
    refine u_icmp_ge (tgt := 14) h dX4_isCard_7 (by decide) rfl (fun c2 => ?_) (fun c2 => ?_)
    · refine u_iconst (v := 0) h dX4_isCard_14 (by decide) rfl ?_
      exact u_zret h hRT dX4_isCard_15 rfl (by omega) (by omega) (by refine ⟨congrArg (fun b => some (Value.int b)) ?_, rfl⟩; rw [isC_C]; simp [bI, c1, Int32.not_lt.mp c1, c2, Int32.not_lt.mpr c2])
    · refine u_iconst (v := 1) h dX4_isCard_10 (by decide) rfl ?_
      refine u_goto (tgt := 15) h dX4_isCard_11 (by decide) ?_
      exact u_zret h hRT dX4_isCard_15 rfl (by omega) (by omega) (by refine ⟨congrArg (fun b => some (Value.int b)) ?_, rfl⟩; rw [isC_C]; simp [bI, c1, Int32.not_lt.mp c1, c2, Int32.not_le.mp c2])

theorem flX1_kind_11 : FL wsX1_kind RX1 11 1 0 := ⟨RX1, TX1, 1, rfl, by decide, by decide +kernel, by decide +kernel⟩
set_option maxHeartbeats 8000000 in
set_option maxRecDepth 100000 in
theorem kX1_kind (G : Gx) (h0 qc : Nat) (c : Zf)  : MC G yX1_kind wsX1_kind ({ frames := 0, cells := 0, slots := 0, locals := 0 } : Room) [.ref h0] [(h0, .inr (1, [.ref qc])), (qc, aI G 54 c)] (fun v' u' => v' = some (.int (c 53)) ∧ u' = [(h0, .inr (1, [.ref qc])), (qc, aI G 54 c)]) 0 0 := by
  refine mc_of (cc := cX1_kind) (maxL := 1) (ret := (some .int)) (by decide) rfl (Nat.le_of_ble_eq_true rfl) (fun X h hR hL hRT => ?_)
  refine u_eql (lv' := [(0, .ref h0)]) rfl ?_
  refine u_aload_n h dX1_kind_0 rfl 0 rfl rfl ?_
  refine u_get h flX1_kind_11 0 (v := .ref qc) rfl rfl dX1_kind_1 rfl ?_
  refine u_bipush (v := 53) h dX1_kind_4 (by decide) rfl ?_
  refine u_iald h (n := 53) 1 rfl (by omega) (by omega) dX1_kind_6 rfl ?_
  exact u_iret h hRT dX1_kind_7 (by omega) (by omega) (by exact ⟨rfl, rfl⟩)

theorem flX1_stage_11 : FL wsX1_stage RX1 11 1 0 := ⟨RX1, TX1, 1, rfl, by decide, by decide +kernel, by decide +kernel⟩
set_option maxHeartbeats 8000000 in
set_option maxRecDepth 100000 in
theorem kX1_stage (G : Gx) (h0 qc : Nat) (c : Zf) (v : Nat) (hv : v < 6) : MC G yX1_stage wsX1_stage ({ frames := 0, cells := 0, slots := 0, locals := 0 } : Room) [.ref h0, .int (nI v)] [(h0, .inr (1, [.ref qc])), (qc, aI G 54 c)] (fun v' u' => v' = some (.int (c v)) ∧ u' = [(h0, .inr (1, [.ref qc])), (qc, aI G 54 c)]) 0 0 := by
  refine mc_of (cc := cX1_stage) (maxL := 2) (ret := (some .int)) (by decide) rfl (Nat.le_of_ble_eq_true rfl) (fun X h hR hL hRT => ?_)
  refine u_eql (lv' := [(0, .ref h0), (1, .int (nI v))]) rfl ?_
  refine u_aload_n h dX1_stage_0 rfl 0 rfl rfl ?_
  refine u_get h flX1_stage_11 0 (v := .ref qc) rfl rfl dX1_stage_1 rfl ?_
  refine u_iconst (v := 0) h dX1_stage_4 (by decide) rfl ?_
  refine u_iload_n h dX1_stage_5 rfl 1 rfl rfl ?_
  refine u_iadd (v := (nI v)) h dX1_stage_6 (by have h9 := nI_add 0 v; rw [Nat.zero_add] at h9; exact h9) rfl ?_
  refine u_iald h (n := v) 1 rfl (by omega) (by omega) dX1_stage_7 rfl ?_
  exact u_iret h hRT dX1_stage_8 (by omega) (by omega) (by exact ⟨rfl, rfl⟩)

theorem flX1_nextOf_11 : FL wsX1_nextOf RX1 11 1 0 := ⟨RX1, TX1, 1, rfl, by decide, by decide +kernel, by decide +kernel⟩
set_option maxHeartbeats 8000000 in
set_option maxRecDepth 100000 in
theorem kX1_nextOf (G : Gx) (h0 qc : Nat) (z : Zf) (v : Nat) (hv : v < 6)  : MC G yX1_nextOf wsX1_nextOf ({ frames := 0, cells := 0, slots := 0, locals := 0 } : Room) [.ref h0, .int (nI v)] [(h0, .inr (1, [.ref qc])), (qc, aI G 54 (encC z))] (fun v' u' => v' = some (.int (tN (z (6 + v)))) ∧ u' = [(h0, .inr (1, [.ref qc])), (qc, aI G 54 (encC z))]) 0 0 := by
  refine mc_of (cc := cX1_nextOf) (maxL := 2) (ret := (some .int)) (by decide) rfl (Nat.le_of_ble_eq_true rfl) (fun X h hR hL hRT => ?_)
  refine u_eql (lv' := [(0, .ref h0), (1, .int (nI v))]) rfl ?_
  refine u_aload_n h dX1_nextOf_0 rfl 0 rfl rfl ?_
  refine u_get h flX1_nextOf_11 0 (v := .ref qc) rfl rfl dX1_nextOf_1 rfl ?_
  refine u_bipush (v := 6) h dX1_nextOf_4 (by decide) rfl ?_
  refine u_iload_n h dX1_nextOf_6 rfl 1 rfl rfl ?_
  refine u_iadd (v := (nI (6 + v))) h dX1_nextOf_7 (nI_add 6 v) rfl ?_
  refine u_iald h (n := (6 + v)) 1 rfl (by omega) (by omega) dX1_nextOf_8 rfl ?_
  refine u_top (y := (tN (z (6 + v)))) (e_nx hv) ?_
  exact u_iret h hRT dX1_nextOf_9 (by omega) (by omega) (by exact ⟨rfl, rfl⟩)

theorem flX1_aheadOf_11 : FL wsX1_aheadOf RX1 11 1 0 := ⟨RX1, TX1, 1, rfl, by decide, by decide +kernel, by decide +kernel⟩
set_option maxRecDepth 20000 in
theorem cwX1_aheadOf_X1_kind : CWd wsX1_aheadOf (wsV RX1 25 RX1 yX1_kind wsX1_kind) yX1_kind wsX1_kind cX1_kind 1 (some .int) 0 := ⟨gX1_aheadOf_X1_kind, ⟨_, rfl⟩, by decide +kernel, by decide, by decide⟩
set_option maxHeartbeats 8000000 in
set_option maxRecDepth 100000 in
theorem kX1_aheadOf (G : Gx) (h0 qc : Nat) (z : Zf) (v : Nat) (hv : v < 6)  : MC G yX1_aheadOf wsX1_aheadOf ({ frames := 1, cells := 0, slots := 0, locals := 20 } : Room) [.ref h0, .int (nI v)] [(h0, .inr (1, [.ref qc])), (qc, aI G 54 (encC z))] (fun v' u' => v' = some (.int (if z 60 = 1 then tN (z (30 + v)) else tN (z (18 + v)))) ∧ u' = [(h0, .inr (1, [.ref qc])), (qc, aI G 54 (encC z))]) 0 0 := by
  refine mc_of (cc := cX1_aheadOf) (maxL := 2) (ret := (some .int)) (by decide) rfl (Nat.le_of_ble_eq_true rfl) (fun X h hR hL hRT => ?_)
  refine u_eql (lv' := [(0, .ref h0), (1, .int (nI v))]) rfl ?_
  refine u_aload_n h dX1_aheadOf_0 rfl 0 rfl rfl ?_
  refine u_callV h (As := []) (wc := [(h0, .inr (1, [.ref qc])), (qc, aI G 54 (encC z))]) (wr := []) (kX1_kind G h0 qc (encC z)) cwX1_aheadOf_X1_kind rfl rfl hR ⟨⟨rfl, rfl⟩, by decide, by decide⟩ ⟨Nat.le_of_ble_eq_true rfl, Nat.le_of_ble_eq_true rfl⟩ (ci := 1) (qr := 0) rfl rfl [0, 1] [] rfl rfl rfl rfl (by decide) (Nat.le_of_ble_eq_true rfl) rfl dX1_aheadOf_1 rfl (fun v9 u9 hp9 => ?_)
  obtain ⟨rfl, rfl⟩ := hp9
  refine u_wp (ws' := [(h0, .inr (1, [.ref qc])), (qc, aI G 54 (encC z))]) [0, 1] rfl rfl ?_
  refine u_eqs (st' := [.int ((encC z) 53)]) rfl ?_
  refine u_top (y := (z 60)) (e_ki _) ?_
  refine u_iconst (v := 1) h dX1_aheadOf_4 (by decide) rfl ?_
  refine u_icmp_ne (tgt := 20) h dX1_aheadOf_5 (by decide) rfl (fun c1 => ?_) (fun c1 => ?_)
  · refine u_aload_n h dX1_aheadOf_20 rfl 0 rfl rfl ?_
    refine u_get h flX1_aheadOf_11 0 (v := .ref qc) rfl rfl dX1_aheadOf_21 rfl ?_
    refine u_bipush (v := 18) h dX1_aheadOf_24 (by decide) rfl ?_
    refine u_iload_n h dX1_aheadOf_26 rfl 1 rfl rfl ?_
    refine u_iadd (v := (nI (18 + v))) h dX1_aheadOf_27 (nI_add 18 v) rfl ?_
    refine u_iald h (n := (18 + v)) 1 rfl (by omega) (by omega) dX1_aheadOf_28 rfl ?_
    refine u_top (y := (tN (z (18 + v)))) (e_ah hv) ?_
    exact u_iret h hRT dX1_aheadOf_29 (by omega) (by omega) (by first | (simp [c1]; done) | (exfalso; simp_all; done) | (simp_all [c1]; done))
  · refine u_aload_n h dX1_aheadOf_8 rfl 0 rfl rfl ?_
    refine u_get h flX1_aheadOf_11 0 (v := .ref qc) rfl rfl dX1_aheadOf_9 rfl ?_
    refine u_bipush (v := 30) h dX1_aheadOf_12 (by decide) rfl ?_
    refine u_iload_n h dX1_aheadOf_14 rfl 1 rfl rfl ?_
    refine u_iadd (v := (nI (30 + v))) h dX1_aheadOf_15 (nI_add 30 v) rfl ?_
    refine u_iald h (n := (30 + v)) 1 rfl (by omega) (by omega) dX1_aheadOf_16 rfl ?_
    refine u_top (y := (tN (z (30 + v)))) (e_wa hv) ?_
    refine u_goto (tgt := 29) h dX1_aheadOf_17 (by decide) ?_
    exact u_iret h hRT dX1_aheadOf_29 (by omega) (by omega) (by first | (simp [c1]; done) | (exfalso; simp_all; done) | (simp_all [c1]; done))

theorem flX1_ownCard_11 : FL wsX1_ownCard RX1 11 1 0 := ⟨RX1, TX1, 1, rfl, by decide, by decide +kernel, by decide +kernel⟩
set_option maxHeartbeats 8000000 in
set_option maxRecDepth 100000 in
theorem kX1_ownCard (G : Gx) (h0 qc : Nat) (z : Zf) (v : Nat) (hv : v < 6)  : MC G yX1_ownCard wsX1_ownCard ({ frames := 0, cells := 0, slots := 0, locals := 0 } : Room) [.ref h0, .int (nI v)] [(h0, .inr (1, [.ref qc])), (qc, aI G 54 (encC z))] (fun v' u' => v' = some (.int (if z 60 = 1 then z (24 + v) else -5)) ∧ u' = [(h0, .inr (1, [.ref qc])), (qc, aI G 54 (encC z))]) 0 0 := by
  refine mc_of (cc := cX1_ownCard) (maxL := 2) (ret := (some .int)) (by decide) rfl (Nat.le_of_ble_eq_true rfl) (fun X h hR hL hRT => ?_)
  refine u_eql (lv' := [(0, .ref h0), (1, .int (nI v))]) rfl ?_
  refine u_aload_n h dX1_ownCard_0 rfl 0 rfl rfl ?_
  refine u_get h flX1_ownCard_11 0 (v := .ref qc) rfl rfl dX1_ownCard_1 rfl ?_
  refine u_bipush (v := 24) h dX1_ownCard_4 (by decide) rfl ?_
  refine u_iload_n h dX1_ownCard_6 rfl 1 rfl rfl ?_
  refine u_iadd (v := (nI (24 + v))) h dX1_ownCard_7 (nI_add 24 v) rfl ?_
  refine u_iald h (n := (24 + v)) 1 rfl (by omega) (by omega) dX1_ownCard_8 rfl ?_
  refine u_top (y := (if z 60 = 1 then z (24 + v) else -5)) (e_ow hv) ?_
  exact u_iret h hRT dX1_ownCard_9 (by omega) (by omega) (by exact ⟨rfl, rfl⟩)

theorem flX1_ticket_11 : FL wsX1_ticket RX1 11 1 0 := ⟨RX1, TX1, 1, rfl, by decide, by decide +kernel, by decide +kernel⟩
set_option maxHeartbeats 8000000 in
set_option maxRecDepth 100000 in
theorem kX1_ticket (G : Gx) (h0 qc : Nat) (z : Zf) (v : Nat) (hv : v < 6)  : MC G yX1_ticket wsX1_ticket ({ frames := 0, cells := 0, slots := 0, locals := 0 } : Room) [.ref h0, .int (nI v)] [(h0, .inr (1, [.ref qc])), (qc, aI G 54 (encC z))] (fun v' u' => v' = some (.int (if z 60 = 2 ∧ ¬ z v = 0 then z (36 + v) else -5)) ∧ u' = [(h0, .inr (1, [.ref qc])), (qc, aI G 54 (encC z))]) 0 0 := by
  refine mc_of (cc := cX1_ticket) (maxL := 2) (ret := (some .int)) (by decide) rfl (Nat.le_of_ble_eq_true rfl) (fun X h hR hL hRT => ?_)
  refine u_eql (lv' := [(0, .ref h0), (1, .int (nI v))]) rfl ?_
  refine u_aload_n h dX1_ticket_0 rfl 0 rfl rfl ?_
  refine u_get h flX1_ticket_11 0 (v := .ref qc) rfl rfl dX1_ticket_1 rfl ?_
  refine u_bipush (v := 36) h dX1_ticket_4 (by decide) rfl ?_
  refine u_iload_n h dX1_ticket_6 rfl 1 rfl rfl ?_
  refine u_iadd (v := (nI (36 + v))) h dX1_ticket_7 (nI_add 36 v) rfl ?_
  refine u_iald h (n := (36 + v)) 1 rfl (by omega) (by omega) dX1_ticket_8 rfl ?_
  refine u_top (y := (if z 60 = 2 ∧ ¬ z v = 0 then z (36 + v) else -5)) (e_ti hv) ?_
  exact u_iret h hRT dX1_ticket_9 (by omega) (by omega) (by exact ⟨rfl, rfl⟩)

theorem flX1_flagOf_11 : FL wsX1_flagOf RX1 11 1 0 := ⟨RX1, TX1, 1, rfl, by decide, by decide +kernel, by decide +kernel⟩
set_option maxRecDepth 20000 in
theorem cwX1_flagOf_X1_kind : CWd wsX1_flagOf (wsV RX1 25 RX1 yX1_kind wsX1_kind) yX1_kind wsX1_kind cX1_kind 1 (some .int) 0 := ⟨gX1_flagOf_X1_kind, ⟨_, rfl⟩, by decide +kernel, by decide, by decide⟩
set_option maxHeartbeats 8000000 in
set_option maxRecDepth 100000 in
theorem kX1_flagOf (G : Gx) (h0 qc : Nat) (z : Zf) (v : Nat) (hv : v < 6)  : MC G yX1_flagOf wsX1_flagOf ({ frames := 1, cells := 0, slots := 0, locals := 20 } : Room) [.ref h0, .int (nI v)] [(h0, .inr (1, [.ref qc])), (qc, aI G 54 (encC z))] (fun v' u' => v' = some (.int (if z 60 = 0 then z (12 + v) else -5)) ∧ u' = [(h0, .inr (1, [.ref qc])), (qc, aI G 54 (encC z))]) 0 0 := by
  refine mc_of (cc := cX1_flagOf) (maxL := 2) (ret := (some .int)) (by decide) rfl (Nat.le_of_ble_eq_true rfl) (fun X h hR hL hRT => ?_)
  refine u_eql (lv' := [(0, .ref h0), (1, .int (nI v))]) rfl ?_
  refine u_aload_n h dX1_flagOf_0 rfl 0 rfl rfl ?_
  refine u_callV h (As := []) (wc := [(h0, .inr (1, [.ref qc])), (qc, aI G 54 (encC z))]) (wr := []) (kX1_kind G h0 qc (encC z)) cwX1_flagOf_X1_kind rfl rfl hR ⟨⟨rfl, rfl⟩, by decide, by decide⟩ ⟨Nat.le_of_ble_eq_true rfl, Nat.le_of_ble_eq_true rfl⟩ (ci := 1) (qr := 0) rfl rfl [0, 1] [] rfl rfl rfl rfl (by decide) (Nat.le_of_ble_eq_true rfl) rfl dX1_flagOf_1 rfl (fun v9 u9 hp9 => ?_)
  obtain ⟨rfl, rfl⟩ := hp9
  refine u_wp (ws' := [(h0, .inr (1, [.ref qc])), (qc, aI G 54 (encC z))]) [0, 1] rfl rfl ?_
  refine u_eqs (st' := [.int ((encC z) 53)]) rfl ?_
  refine u_top (y := (z 60)) (e_ki _) ?_
  refine u_if_ne (tgt := 19) h dX1_flagOf_4 (by decide) rfl (fun c1 => ?_) (fun c1 => ?_)
  · refine u_bipush (v := (-5)) h dX1_flagOf_19 (by decide) rfl ?_
    exact u_iret h hRT dX1_flagOf_21 (by omega) (by omega) (by first | (simp [c1]; done) | (exfalso; simp_all; done) | (simp_all [c1]; done))
  · refine u_aload_n h dX1_flagOf_7 rfl 0 rfl rfl ?_
    refine u_get h flX1_flagOf_11 0 (v := .ref qc) rfl rfl dX1_flagOf_8 rfl ?_
    refine u_bipush (v := 12) h dX1_flagOf_11 (by decide) rfl ?_
    refine u_iload_n h dX1_flagOf_13 rfl 1 rfl rfl ?_
    refine u_iadd (v := (nI (12 + v))) h dX1_flagOf_14 (nI_add 12 v) rfl ?_
    refine u_iald h (n := (12 + v)) 1 rfl (by omega) (by omega) dX1_flagOf_15 rfl ?_
    refine u_top (y := (z (12 + v))) (e_fl hv) ?_
    refine u_goto (tgt := 21) h dX1_flagOf_16 (by decide) ?_
    exact u_iret h hRT dX1_flagOf_21 (by omega) (by omega) (by first | (simp [c1]; done) | (exfalso; simp_all; done) | (simp_all [c1]; done))

theorem flX1_tail_11 : FL wsX1_tail RX1 11 1 0 := ⟨RX1, TX1, 1, rfl, by decide, by decide +kernel, by decide +kernel⟩
set_option maxHeartbeats 8000000 in
set_option maxRecDepth 100000 in
theorem kX1_tail (G : Gx) (h0 qc : Nat) (z : Zf)   : MC G yX1_tail wsX1_tail ({ frames := 0, cells := 0, slots := 0, locals := 0 } : Room) [.ref h0] [(h0, .inr (1, [.ref qc])), (qc, aI G 54 (encC z))] (fun v' u' => v' = some (.int (if z 60 = 0 then tN (z 49) else if z 60 = 1 then z 49 else -5)) ∧ u' = [(h0, .inr (1, [.ref qc])), (qc, aI G 54 (encC z))]) 0 0 := by
  refine mc_of (cc := cX1_tail) (maxL := 1) (ret := (some .int)) (by decide) rfl (Nat.le_of_ble_eq_true rfl) (fun X h hR hL hRT => ?_)
  refine u_eql (lv' := [(0, .ref h0)]) rfl ?_
  refine u_aload_n h dX1_tail_0 rfl 0 rfl rfl ?_
  refine u_get h flX1_tail_11 0 (v := .ref qc) rfl rfl dX1_tail_1 rfl ?_
  refine u_bipush (v := 49) h dX1_tail_4 (by decide) rfl ?_
  refine u_iald h (n := 49) 1 rfl (by omega) (by omega) dX1_tail_6 rfl ?_
  refine u_top (y := (if z 60 = 0 then tN (z 49) else if z 60 = 1 then z 49 else -5)) (e_ta _) ?_
  exact u_iret h hRT dX1_tail_7 (by omega) (by omega) (by exact ⟨rfl, rfl⟩)

theorem flX1_given_11 : FL wsX1_given RX1 11 1 0 := ⟨RX1, TX1, 1, rfl, by decide, by decide +kernel, by decide +kernel⟩
set_option maxRecDepth 20000 in
theorem cwX1_given_X1_kind : CWd wsX1_given (wsV RX1 25 RX1 yX1_kind wsX1_kind) yX1_kind wsX1_kind cX1_kind 1 (some .int) 0 := ⟨gX1_given_X1_kind, ⟨_, rfl⟩, by decide +kernel, by decide, by decide⟩
set_option maxHeartbeats 8000000 in
set_option maxRecDepth 100000 in
theorem kX1_given (G : Gx) (h0 qc : Nat) (z : Zf)   : MC G yX1_given wsX1_given ({ frames := 1, cells := 0, slots := 0, locals := 20 } : Room) [.ref h0] [(h0, .inr (1, [.ref qc])), (qc, aI G 54 (encC z))] (fun v' u' => v' = some (.int (if z 60 = 2 then z 50 else -5)) ∧ u' = [(h0, .inr (1, [.ref qc])), (qc, aI G 54 (encC z))]) 0 0 := by
  refine mc_of (cc := cX1_given) (maxL := 1) (ret := (some .int)) (by decide) rfl (Nat.le_of_ble_eq_true rfl) (fun X h hR hL hRT => ?_)
  refine u_eql (lv' := [(0, .ref h0)]) rfl ?_
  refine u_aload_n h dX1_given_0 rfl 0 rfl rfl ?_
  refine u_callV h (As := []) (wc := [(h0, .inr (1, [.ref qc])), (qc, aI G 54 (encC z))]) (wr := []) (kX1_kind G h0 qc (encC z)) cwX1_given_X1_kind rfl rfl hR ⟨⟨rfl, rfl⟩, by decide, by decide⟩ ⟨Nat.le_of_ble_eq_true rfl, Nat.le_of_ble_eq_true rfl⟩ (ci := 1) (qr := 0) rfl rfl [0, 1] [] rfl rfl rfl rfl (by decide) (Nat.le_of_ble_eq_true rfl) rfl dX1_given_1 rfl (fun v9 u9 hp9 => ?_)
  obtain ⟨rfl, rfl⟩ := hp9
  refine u_wp (ws' := [(h0, .inr (1, [.ref qc])), (qc, aI G 54 (encC z))]) [0, 1] rfl rfl ?_
  refine u_eqs (st' := [.int ((encC z) 53)]) rfl ?_
  refine u_top (y := (z 60)) (e_ki _) ?_
  refine u_iconst (v := 2) h dX1_given_4 (by decide) rfl ?_
  refine u_icmp_ne (tgt := 18) h dX1_given_5 (by decide) rfl (fun c1 => ?_) (fun c1 => ?_)
  · refine u_bipush (v := (-5)) h dX1_given_18 (by decide) rfl ?_
    exact u_iret h hRT dX1_given_20 (by omega) (by omega) (by first | (simp [c1]; done) | (exfalso; simp_all; done) | (simp_all [c1]; done))
  · refine u_aload_n h dX1_given_8 rfl 0 rfl rfl ?_
    refine u_get h flX1_given_11 0 (v := .ref qc) rfl rfl dX1_given_9 rfl ?_
    refine u_bipush (v := 50) h dX1_given_12 (by decide) rfl ?_
    refine u_iald h (n := 50) 1 rfl (by omega) (by omega) dX1_given_14 rfl ?_
    refine u_top (y := (z 50)) (e_gi _) ?_
    refine u_goto (tgt := 20) h dX1_given_15 (by decide) ?_
    exact u_iret h hRT dX1_given_20 (by omega) (by omega) (by first | (simp [c1]; done) | (exfalso; simp_all; done) | (simp_all [c1]; done))

theorem flX1_served_11 : FL wsX1_served RX1 11 1 0 := ⟨RX1, TX1, 1, rfl, by decide, by decide +kernel, by decide +kernel⟩
set_option maxRecDepth 20000 in
theorem cwX1_served_X1_kind : CWd wsX1_served (wsV RX1 25 RX1 yX1_kind wsX1_kind) yX1_kind wsX1_kind cX1_kind 1 (some .int) 0 := ⟨gX1_served_X1_kind, ⟨_, rfl⟩, by decide +kernel, by decide, by decide⟩
set_option maxHeartbeats 8000000 in
set_option maxRecDepth 100000 in
theorem kX1_served (G : Gx) (h0 qc : Nat) (z : Zf)   : MC G yX1_served wsX1_served ({ frames := 1, cells := 0, slots := 0, locals := 20 } : Room) [.ref h0] [(h0, .inr (1, [.ref qc])), (qc, aI G 54 (encC z))] (fun v' u' => v' = some (.int (if z 60 = 2 then z 51 else -5)) ∧ u' = [(h0, .inr (1, [.ref qc])), (qc, aI G 54 (encC z))]) 0 0 := by
  refine mc_of (cc := cX1_served) (maxL := 1) (ret := (some .int)) (by decide) rfl (Nat.le_of_ble_eq_true rfl) (fun X h hR hL hRT => ?_)
  refine u_eql (lv' := [(0, .ref h0)]) rfl ?_
  refine u_aload_n h dX1_served_0 rfl 0 rfl rfl ?_
  refine u_callV h (As := []) (wc := [(h0, .inr (1, [.ref qc])), (qc, aI G 54 (encC z))]) (wr := []) (kX1_kind G h0 qc (encC z)) cwX1_served_X1_kind rfl rfl hR ⟨⟨rfl, rfl⟩, by decide, by decide⟩ ⟨Nat.le_of_ble_eq_true rfl, Nat.le_of_ble_eq_true rfl⟩ (ci := 1) (qr := 0) rfl rfl [0, 1] [] rfl rfl rfl rfl (by decide) (Nat.le_of_ble_eq_true rfl) rfl dX1_served_1 rfl (fun v9 u9 hp9 => ?_)
  obtain ⟨rfl, rfl⟩ := hp9
  refine u_wp (ws' := [(h0, .inr (1, [.ref qc])), (qc, aI G 54 (encC z))]) [0, 1] rfl rfl ?_
  refine u_eqs (st' := [.int ((encC z) 53)]) rfl ?_
  refine u_top (y := (z 60)) (e_ki _) ?_
  refine u_iconst (v := 2) h dX1_served_4 (by decide) rfl ?_
  refine u_icmp_ne (tgt := 18) h dX1_served_5 (by decide) rfl (fun c1 => ?_) (fun c1 => ?_)
  · refine u_bipush (v := (-5)) h dX1_served_18 (by decide) rfl ?_
    exact u_iret h hRT dX1_served_20 (by omega) (by omega) (by first | (simp [c1]; done) | (exfalso; simp_all; done) | (simp_all [c1]; done))
  · refine u_aload_n h dX1_served_8 rfl 0 rfl rfl ?_
    refine u_get h flX1_served_11 0 (v := .ref qc) rfl rfl dX1_served_9 rfl ?_
    refine u_bipush (v := 51) h dX1_served_12 (by decide) rfl ?_
    refine u_iald h (n := 51) 1 rfl (by omega) (by omega) dX1_served_14 rfl ?_
    refine u_top (y := (z 51)) (e_se _) ?_
    refine u_goto (tgt := 20) h dX1_served_15 (by decide) ?_
    exact u_iret h hRT dX1_served_20 (by omega) (by omega) (by first | (simp [c1]; done) | (exfalso; simp_all; done) | (simp_all [c1]; done))

theorem flX1_grabFlag_11 : FL wsX1_grabFlag RX1 11 1 0 := ⟨RX1, TX1, 1, rfl, by decide, by decide +kernel, by decide +kernel⟩
set_option maxRecDepth 20000 in
theorem cwX1_grabFlag_X1_kind : CWd wsX1_grabFlag (wsV RX1 25 RX1 yX1_kind wsX1_kind) yX1_kind wsX1_kind cX1_kind 1 (some .int) 0 := ⟨gX1_grabFlag_X1_kind, ⟨_, rfl⟩, by decide +kernel, by decide, by decide⟩
set_option maxHeartbeats 8000000 in
set_option maxRecDepth 100000 in
theorem kX1_grabFlag (G : Gx) (h0 qc : Nat) (z : Zf)   : MC G yX1_grabFlag wsX1_grabFlag ({ frames := 1, cells := 0, slots := 0, locals := 20 } : Room) [.ref h0] [(h0, .inr (1, [.ref qc])), (qc, aI G 54 (encC z))] (fun v' u' => v' = some (.int (if z 60 = 3 then z 52 else -5)) ∧ u' = [(h0, .inr (1, [.ref qc])), (qc, aI G 54 (encC z))]) 0 0 := by
  refine mc_of (cc := cX1_grabFlag) (maxL := 1) (ret := (some .int)) (by decide) rfl (Nat.le_of_ble_eq_true rfl) (fun X h hR hL hRT => ?_)
  refine u_eql (lv' := [(0, .ref h0)]) rfl ?_
  refine u_aload_n h dX1_grabFlag_0 rfl 0 rfl rfl ?_
  refine u_callV h (As := []) (wc := [(h0, .inr (1, [.ref qc])), (qc, aI G 54 (encC z))]) (wr := []) (kX1_kind G h0 qc (encC z)) cwX1_grabFlag_X1_kind rfl rfl hR ⟨⟨rfl, rfl⟩, by decide, by decide⟩ ⟨Nat.le_of_ble_eq_true rfl, Nat.le_of_ble_eq_true rfl⟩ (ci := 1) (qr := 0) rfl rfl [0, 1] [] rfl rfl rfl rfl (by decide) (Nat.le_of_ble_eq_true rfl) rfl dX1_grabFlag_1 rfl (fun v9 u9 hp9 => ?_)
  obtain ⟨rfl, rfl⟩ := hp9
  refine u_wp (ws' := [(h0, .inr (1, [.ref qc])), (qc, aI G 54 (encC z))]) [0, 1] rfl rfl ?_
  refine u_eqs (st' := [.int ((encC z) 53)]) rfl ?_
  refine u_top (y := (z 60)) (e_ki _) ?_
  refine u_iconst (v := 3) h dX1_grabFlag_4 (by decide) rfl ?_
  refine u_icmp_ne (tgt := 18) h dX1_grabFlag_5 (by decide) rfl (fun c1 => ?_) (fun c1 => ?_)
  · refine u_bipush (v := (-5)) h dX1_grabFlag_18 (by decide) rfl ?_
    exact u_iret h hRT dX1_grabFlag_20 (by omega) (by omega) (by first | (simp [c1]; done) | (exfalso; simp_all; done) | (simp_all [c1]; done))
  · refine u_aload_n h dX1_grabFlag_8 rfl 0 rfl rfl ?_
    refine u_get h flX1_grabFlag_11 0 (v := .ref qc) rfl rfl dX1_grabFlag_9 rfl ?_
    refine u_bipush (v := 52) h dX1_grabFlag_12 (by decide) rfl ?_
    refine u_iald h (n := 52) 1 rfl (by omega) (by omega) dX1_grabFlag_14 rfl ?_
    refine u_top (y := (z 52)) (e_gr _) ?_
    refine u_goto (tgt := 20) h dX1_grabFlag_15 (by decide) ?_
    exact u_iret h hRT dX1_grabFlag_20 (by omega) (by omega) (by first | (simp [c1]; done) | (exfalso; simp_all; done) | (simp_all [c1]; done))

theorem flX1_cardFlag_11 : FL wsX1_cardFlag RX1 11 1 0 := ⟨RX1, TX1, 1, rfl, by decide, by decide +kernel, by decide +kernel⟩
set_option maxRecDepth 20000 in
theorem cwX1_cardFlag_X4_isCard : CWd wsX1_cardFlag wsX4_isCard yX4_isCard wsX4_isCard cX4_isCard 1 (some .boolean) 1 := ⟨gX1_cardFlag_X4_isCard_n29, ⟨_, rfl⟩, by decide +kernel, by decide, by decide⟩
set_option maxHeartbeats 8000000 in
set_option maxRecDepth 100000 in
theorem kX1_cardFlag (G : Gx) (h0 qc : Nat) (z : Zf) (x : Int32) : MC G yX1_cardFlag wsX1_cardFlag ({ frames := 1, cells := 0, slots := 0, locals := 20 } : Room) [.ref h0, .int x] [(h0, .inr (1, [.ref qc])), (qc, aI G 54 (encC z))] (fun v' u' => v' = some (.int (flagC z x)) ∧ u' = [(h0, .inr (1, [.ref qc])), (qc, aI G 54 (encC z))]) 0 0 := by
  refine mc_of (cc := cX1_cardFlag) (maxL := 2) (ret := (some .int)) (by decide) rfl (Nat.le_of_ble_eq_true rfl) (fun X h hR hL hRT => ?_)
  refine u_eql (lv' := [(0, .ref h0), (1, .int x)]) rfl ?_
  refine u_iload_n h dX1_cardFlag_0 rfl 1 rfl rfl ?_
  refine u_callN_isCard h (As := [.int x]) (wc := []) (wr := [(h0, .inr (1, [.ref qc])), (qc, aI G 54 (encC z))]) (kX4_isCard G x) cwX1_cardFlag_X4_isCard (by decide +kernel) (by decide +kernel) rfl hR ⟨⟨rfl, rfl⟩, by decide, by decide⟩ ⟨Nat.le_of_ble_eq_true rfl, Nat.le_of_ble_eq_true rfl⟩ [] [0, 1] rfl rfl rfl rfl (by decide) (Nat.le_of_ble_eq_true rfl) rfl dX1_cardFlag_1 rfl (fun v9 u9 hp9 => ?_)
  obtain ⟨rfl, rfl⟩ := hp9
  refine u_wp (ws' := [(h0, .inr (1, [.ref qc])), (qc, aI G 54 (encC z))]) [0, 1] rfl rfl ?_
  refine u_eqs (st' := [.int (bI (inB x 0 6))]) rfl ?_
  refine u_if_eq_B (tgt := 19) h dX1_cardFlag_4 (by decide) rfl (fun c1 => ?_) (fun c1 => ?_)
  · refine u_bipush (v := (-5)) h dX1_cardFlag_19 (by decide) rfl ?_
    exact u_iret h hRT dX1_cardFlag_21 (by omega) (by omega) (by first | (simp [flagC, c1]; done) | (exfalso; simp_all; done) | (simp_all [flagC, c1]; done))
  · obtain ⟨c, hc, rfl⟩ := isC_nat c1
    refine u_aload_n h dX1_cardFlag_7 rfl 0 rfl rfl ?_
    refine u_get h flX1_cardFlag_11 0 (v := .ref qc) rfl rfl dX1_cardFlag_8 rfl ?_
    refine u_bipush (v := 42) h dX1_cardFlag_11 (by decide) rfl ?_
    refine u_iload_n h dX1_cardFlag_13 rfl 1 rfl rfl ?_
    refine u_iadd (v := (nI (42 + c))) h dX1_cardFlag_14 (nI_add 42 c) rfl ?_
    refine u_iald h (n := (42 + c)) 1 rfl (by omega) (by omega) dX1_cardFlag_15 rfl ?_
    refine u_top (y := (z (42 + c))) (e_ca hc) ?_
    refine u_goto (tgt := 21) h dX1_cardFlag_16 (by decide) ?_
    exact u_iret h hRT dX1_cardFlag_21 (by omega) (by omega) (by first | (simp [flagC, c1, isC_nI hc, ix_nI (show c < 2 ^ 31 by omega)]; done) | (exfalso; simp_all; done) | (simp_all [flagC, c1, isC_nI hc, ix_nI (show c < 2 ^ 31 by omega)]; done))

set_option maxRecDepth 20000 in
theorem cwX1_countAt_X1_stage : CWd wsX1_countAt (wsV RX1 33 RX1 yX1_stage wsX1_stage) yX1_stage wsX1_stage cX1_stage 2 (some .int) 1 := ⟨gX1_countAt_X1_stage, ⟨_, rfl⟩, by decide +kernel, by decide, by decide⟩
set_option maxHeartbeats 8000000 in
set_option maxRecDepth 100000 in
theorem kX1_countAt (G : Gx) (h0 qc : Nat) (z : Zf) (x : Int32) : MC G yX1_countAt wsX1_countAt ({ frames := 1, cells := 0, slots := 0, locals := 21 } : Room) [.ref h0, .int x] [(h0, .inr (1, [.ref qc])), (qc, aI G 54 (encC z))] (fun v' u' => v' = some (.int (atM z x 6)) ∧ u' = [(h0, .inr (1, [.ref qc])), (qc, aI G 54 (encC z))]) 0 0 := by
  refine mc_of (cc := cX1_countAt) (maxL := 4) (ret := (some .int)) (by decide) rfl (Nat.le_of_ble_eq_true rfl) (fun X h hR hL hRT => ?_)
  refine u_eql (lv' := [(0, .ref h0), (1, .int x)]) rfl ?_
  refine u_iconst (v := 0) h dX1_countAt_0 (by decide) rfl ?_
  refine u_istore_n (lv' := [(2, .int 0), (0, .ref h0), (1, .int x)]) h dX1_countAt_1 rfl (by rw [hL]; decide) rfl rfl ?_
  refine u_iconst (v := 0) h dX1_countAt_2 (by decide) rfl ?_
  refine u_istore_n (lv' := [(3, .int 0), (2, .int 0), (0, .ref h0), (1, .int x)]) h dX1_countAt_3 rfl (by rw [hL]; decide) rfl rfl ?_
  have LL : ∀ (k9 : Nat) (v : Nat) (n : Int32), 6 - v = k9 → (v ≤ 6) → (n = atM z x v) → U G X 0 0 [(h0, .inr (1, [.ref qc])), (qc, aI G 54 (encC z))] 4 [(3, .int (nI v)), (2, .int n), (0, .ref h0), (1, .int x)] [] := by
    intro k9
    induction k9 using Nat.strongRecOn with
    | _ k9 ihL =>
      intro v n hk9 hi hn
      subst hk9
      refine u_iload_n h dX1_countAt_4 rfl 0 rfl rfl ?_
      refine u_bipush (v := 6) h dX1_countAt_5 (by decide) rfl ?_
      refine u_icmp_ge_N (a := v) (b := 6) (tgt := 28) h dX1_countAt_7 (by decide) (by omega) (by omega) rfl (fun c1 => ?_) (fun c1 => ?_)
      · refine u_iload_n h dX1_countAt_28 rfl 1 rfl rfl ?_
        exact u_iret h hRT dX1_countAt_29 (by omega) (by omega) (by exact ⟨by rw [hn, show v = 6 by omega], rfl⟩)
      · have hv : v < 6 := by omega
        refine u_aload_n h dX1_countAt_10 rfl 2 rfl rfl ?_
        refine u_iload_n h dX1_countAt_11 rfl 0 rfl rfl ?_
        refine u_callV h (As := [.int (nI v)]) (wc := [(h0, .inr (1, [.ref qc])), (qc, aI G 54 (encC z))]) (wr := []) (kX1_stage G h0 qc (encC z) v hv) cwX1_countAt_X1_stage rfl rfl hR ⟨⟨rfl, rfl⟩, by decide, by decide⟩ ⟨Nat.le_of_ble_eq_true rfl, Nat.le_of_ble_eq_true rfl⟩ (ci := 1) (qr := 0) rfl rfl [0, 1] [] rfl rfl rfl rfl (by decide) (Nat.le_of_ble_eq_true rfl) rfl dX1_countAt_12 rfl (fun v9 u9 hp9 => ?_)
        obtain ⟨rfl, rfl⟩ := hp9
        refine u_wp (ws' := [(h0, .inr (1, [.ref qc])), (qc, aI G 54 (encC z))]) [0, 1] rfl rfl ?_
        refine u_eqs (st' := [.int ((encC z) v)]) rfl ?_
        refine u_top (y := (z v)) (e_st hv) ?_
        refine u_iload_n h dX1_countAt_15 rfl 3 rfl rfl ?_
        refine u_icmp_ne (tgt := 22) h dX1_countAt_16 (by decide) rfl (fun c2 => ?_) (fun c2 => ?_)
        · refine u_iinc (k := 0) (v := (nI (v + 1))) (lv' := [(3, .int (nI (v + 1))), (2, .int n), (0, .ref h0), (1, .int x)]) h dX1_countAt_22 rfl (nI_add v 1) (by rw [hL]; decide) rfl rfl ?_
          refine u_goto (tgt := 4) h dX1_countAt_25 (by decide) ?_
          exact ihL _ (by omega) (v + 1) n rfl (by omega) (by rw [hn]; simp [atM, c1, c2])
        · refine u_iinc (k := 1) (v := (n + 1)) (lv' := [(2, .int (n + 1)), (3, .int (nI v)), (0, .ref h0), (1, .int x)]) h dX1_countAt_19 rfl rfl (by rw [hL]; decide) rfl rfl ?_
          refine u_iinc (k := 1) (v := (nI (v + 1))) (lv' := [(3, .int (nI (v + 1))), (2, .int (n + 1)), (0, .ref h0), (1, .int x)]) h dX1_countAt_22 rfl (nI_add v 1) (by rw [hL]; decide) rfl rfl ?_
          refine u_goto (tgt := 4) h dX1_countAt_25 (by decide) ?_
          exact ihL _ (by omega) (v + 1) (n + 1) rfl (by omega) (by rw [hn]; simp [atM, c1, c2])
  exact LL _ 0 0 rfl (Nat.zero_le _) rfl

set_option maxRecDepth 20000 in
theorem cwX1_whoIsInside_X1_stage : CWd wsX1_whoIsInside (wsV RX1 33 RX1 yX1_stage wsX1_stage) yX1_stage wsX1_stage cX1_stage 2 (some .int) 1 := ⟨gX1_whoIsInside_X1_stage, ⟨_, rfl⟩, by decide +kernel, by decide, by decide⟩
set_option maxHeartbeats 8000000 in
set_option maxRecDepth 100000 in
theorem kX1_whoIsInside (G : Gx) (h0 qc : Nat) (z : Zf) : MC G yX1_whoIsInside wsX1_whoIsInside ({ frames := 1, cells := 0, slots := 0, locals := 21 } : Room) [.ref h0] [(h0, .inr (1, [.ref qc])), (qc, aI G 54 (encC z))] (fun v' u' => v' = some (.int (insM z 6)) ∧ u' = [(h0, .inr (1, [.ref qc])), (qc, aI G 54 (encC z))]) 0 0 := by
  refine mc_of (cc := cX1_whoIsInside) (maxL := 2) (ret := (some .int)) (by decide) rfl (Nat.le_of_ble_eq_true rfl) (fun X h hR hL hRT => ?_)
  refine u_eql (lv' := [(0, .ref h0)]) rfl ?_
  refine u_iconst (v := 0) h dX1_whoIsInside_0 (by decide) rfl ?_
  refine u_istore_n (lv' := [(1, .int 0), (0, .ref h0)]) h dX1_whoIsInside_1 rfl (by rw [hL]; decide) rfl rfl ?_
  have LL : ∀ (k9 : Nat) (v : Nat), 6 - v = k9 → (v ≤ 6) → (∀ j : Nat, j < v → ¬ z j = 4) → U G X 0 0 [(h0, .inr (1, [.ref qc])), (qc, aI G 54 (encC z))] 2 [(1, .int (nI v)), (0, .ref h0)] [] := by
    intro k9
    induction k9 using Nat.strongRecOn with
    | _ k9 ihL =>
      intro v hk9 hi hn
      subst hk9
      refine u_iload_n h dX1_whoIsInside_2 rfl 0 rfl rfl ?_
      refine u_bipush (v := 6) h dX1_whoIsInside_3 (by decide) rfl ?_
      refine u_icmp_ge_N (a := v) (b := 6) (tgt := 25) h dX1_whoIsInside_5 (by decide) (by omega) (by omega) rfl (fun c1 => ?_) (fun c1 => ?_)
      · refine u_bipush (v := (-5)) h dX1_whoIsInside_25 (by decide) rfl ?_
        exact u_iret h hRT dX1_whoIsInside_27 (by omega) (by omega) (by exact ⟨by rw [insM_none (fun j hj => hn j (by omega))], rfl⟩)
      · have hv : v < 6 := by omega
        refine u_aload_n h dX1_whoIsInside_8 rfl 1 rfl rfl ?_
        refine u_iload_n h dX1_whoIsInside_9 rfl 0 rfl rfl ?_
        refine u_callV h (As := [.int (nI v)]) (wc := [(h0, .inr (1, [.ref qc])), (qc, aI G 54 (encC z))]) (wr := []) (kX1_stage G h0 qc (encC z) v hv) cwX1_whoIsInside_X1_stage rfl rfl hR ⟨⟨rfl, rfl⟩, by decide, by decide⟩ ⟨Nat.le_of_ble_eq_true rfl, Nat.le_of_ble_eq_true rfl⟩ (ci := 1) (qr := 0) rfl rfl [0, 1] [] rfl rfl rfl rfl (by decide) (Nat.le_of_ble_eq_true rfl) rfl dX1_whoIsInside_10 rfl (fun v9 u9 hp9 => ?_)
        obtain ⟨rfl, rfl⟩ := hp9
        refine u_wp (ws' := [(h0, .inr (1, [.ref qc])), (qc, aI G 54 (encC z))]) [0, 1] rfl rfl ?_
        refine u_eqs (st' := [.int ((encC z) v)]) rfl ?_
        refine u_top (y := (z v)) (e_st hv) ?_
        refine u_iconst (v := 4) h dX1_whoIsInside_13 (by decide) rfl ?_
        refine u_icmp_ne (tgt := 19) h dX1_whoIsInside_14 (by decide) rfl (fun c2 => ?_) (fun c2 => ?_)
        · refine u_iinc (k := 0) (v := (nI (v + 1))) (lv' := [(1, .int (nI (v + 1))), (0, .ref h0)]) h dX1_whoIsInside_19 rfl (nI_add v 1) (by rw [hL]; decide) rfl rfl ?_
          refine u_goto (tgt := 2) h dX1_whoIsInside_22 (by decide) ?_
          exact ihL _ (by omega) (v + 1) rfl (by omega) (fun j hj => by rcases Nat.lt_or_ge j v with q9 | q9; exact hn j q9; rw [show j = v by omega]; exact c2)
        · refine u_iload_n h dX1_whoIsInside_17 rfl 0 rfl rfl ?_
          exact u_iret h hRT dX1_whoIsInside_18 (by omega) (by omega) (by exact ⟨by rw [insM_first (by omega) c2 hn], rfl⟩)
  exact LL _ 0 rfl (Nat.zero_le _) (fun j hj => absurd hj (Nat.not_lt_zero j))

set_option maxRecDepth 20000 in
theorem cwX1_queues_X1_kind : CWd wsX1_queues (wsV RX1 25 RX1 yX1_kind wsX1_kind) yX1_kind wsX1_kind cX1_kind 1 (some .int) 0 := ⟨gX1_queues_X1_kind, ⟨_, rfl⟩, by decide +kernel, by decide, by decide⟩
set_option maxRecDepth 20000 in
theorem cwX1_queues_X1_stage : CWd wsX1_queues (wsV RX1 33 RX1 yX1_stage wsX1_stage) yX1_stage wsX1_stage cX1_stage 2 (some .int) 1 := ⟨gX1_queues_X1_stage, ⟨_, rfl⟩, by decide +kernel, by decide, by decide⟩
set_option maxHeartbeats 8000000 in
set_option maxRecDepth 100000 in
theorem kX1_queues (G : Gx) (h0 qc : Nat) (z : Zf) (v : Nat) (hv : v < 6)  : MC G yX1_queues wsX1_queues ({ frames := 1, cells := 0, slots := 0, locals := 21 } : Room) [.ref h0, .int (nI v)] [(h0, .inr (1, [.ref qc])), (qc, aI G 54 (encC z))] (fun v' u' => v' = some (.int (bI (quB z v))) ∧ u' = [(h0, .inr (1, [.ref qc])), (qc, aI G 54 (encC z))]) 0 0 := by
  refine mc_of (cc := cX1_queues) (maxL := 2) (ret := (some .boolean)) (by decide) rfl (Nat.le_of_ble_eq_true rfl) (fun X h hR hL hRT => ?_)
  refine u_eql (lv' := [(0, .ref h0), (1, .int (nI v))]) rfl ?_
  refine u_aload_n h dX1_queues_0 rfl 0 rfl rfl ?_
  refine u_callV h (As := []) (wc := [(h0, .inr (1, [.ref qc])), (qc, aI G 54 (encC z))]) (wr := []) (kX1_kind G h0 qc (encC z)) cwX1_queues_X1_kind rfl rfl hR ⟨⟨rfl, rfl⟩, by decide, by decide⟩ ⟨Nat.le_of_ble_eq_true rfl, Nat.le_of_ble_eq_true rfl⟩ (ci := 1) (qr := 0) rfl rfl [0, 1] [] rfl rfl rfl rfl (by decide) (Nat.le_of_ble_eq_true rfl) rfl dX1_queues_1 rfl (fun v9 u9 hp9 => ?_)
  obtain ⟨rfl, rfl⟩ := hp9
  refine u_wp (ws' := [(h0, .inr (1, [.ref qc])), (qc, aI G 54 (encC z))]) [0, 1] rfl rfl ?_
  refine u_eqs (st' := [.int ((encC z) 53)]) rfl ?_
  refine u_top (y := (z 60)) (e_ki _) ?_
  by_cases k1 : (z 60) = 0
  · refine u_tableIn (off := 28) (tgt := 32) h dX1_queues_4 (by rw [k1]; decide) (by rw [k1]; decide) (by rw [k1]; rfl) (by decide) ?_
    refine u_aload_n h dX1_queues_32 rfl 0 rfl rfl ?_
    refine u_iload_n h dX1_queues_33 rfl 1 rfl rfl ?_
    refine u_callV h (As := [.int (nI v)]) (wc := [(h0, .inr (1, [.ref qc])), (qc, aI G 54 (encC z))]) (wr := []) (kX1_stage G h0 qc (encC z) v hv) cwX1_queues_X1_stage rfl rfl hR ⟨⟨rfl, rfl⟩, by decide, by decide⟩ ⟨Nat.le_of_ble_eq_true rfl, Nat.le_of_ble_eq_true rfl⟩ (ci := 1) (qr := 0) rfl rfl [0, 1] [] rfl rfl rfl rfl (by decide) (Nat.le_of_ble_eq_true rfl) rfl dX1_queues_34 rfl (fun v9 u9 hp9 => ?_)
    obtain ⟨rfl, rfl⟩ := hp9
    refine u_wp (ws' := [(h0, .inr (1, [.ref qc])), (qc, aI G 54 (encC z))]) [0, 1] rfl rfl ?_
    refine u_eqs (st' := [.int ((encC z) v)]) rfl ?_
    refine u_top (y := (z v)) (e_st hv) ?_
    refine u_iconst (v := 2) h dX1_queues_37 (by decide) rfl ?_
    refine u_icmp_lt (tgt := 45) h dX1_queues_38 (by decide) rfl (fun c2 => ?_) (fun c2 => ?_)
    · refine u_iconst (v := 0) h dX1_queues_45 (by decide) rfl ?_
      exact u_zret h hRT dX1_queues_46 rfl (by omega) (by omega) (by refine ⟨congrArg (fun b => some (Value.int b)) ?_, rfl⟩; first | (simp [quB, bI, k1, c2, Int32.not_le.mpr c2]; done) | (exfalso; simp_all; done) | (simp_all [quB, bI, k1, c2, Int32.not_le.mpr c2]; done))
    · refine u_iconst (v := 1) h dX1_queues_41 (by decide) rfl ?_
      refine u_goto (tgt := 46) h dX1_queues_42 (by decide) ?_
      exact u_zret h hRT dX1_queues_46 rfl (by omega) (by omega) (by refine ⟨congrArg (fun b => some (Value.int b)) ?_, rfl⟩; first | (simp [quB, bI, k1, c2, Int32.not_lt.mp c2]; done) | (exfalso; simp_all; done) | (simp_all [quB, bI, k1, c2, Int32.not_lt.mp c2]; done))
  by_cases k3 : (z 60) = 1
  · refine u_tableIn (off := 43) (tgt := 47) h dX1_queues_4 (by rw [k3]; decide) (by rw [k3]; decide) (by rw [k3]; rfl) (by decide) ?_
    refine u_aload_n h dX1_queues_47 rfl 0 rfl rfl ?_
    refine u_iload_n h dX1_queues_48 rfl 1 rfl rfl ?_
    refine u_callV h (As := [.int (nI v)]) (wc := [(h0, .inr (1, [.ref qc])), (qc, aI G 54 (encC z))]) (wr := []) (kX1_stage G h0 qc (encC z) v hv) cwX1_queues_X1_stage rfl rfl hR ⟨⟨rfl, rfl⟩, by decide, by decide⟩ ⟨Nat.le_of_ble_eq_true rfl, Nat.le_of_ble_eq_true rfl⟩ (ci := 1) (qr := 0) rfl rfl [0, 1] [] rfl rfl rfl rfl (by decide) (Nat.le_of_ble_eq_true rfl) rfl dX1_queues_49 rfl (fun v9 u9 hp9 => ?_)
    obtain ⟨rfl, rfl⟩ := hp9
    refine u_wp (ws' := [(h0, .inr (1, [.ref qc])), (qc, aI G 54 (encC z))]) [0, 1] rfl rfl ?_
    refine u_eqs (st' := [.int ((encC z) v)]) rfl ?_
    refine u_top (y := (z v)) (e_st hv) ?_
    refine u_iconst (v := 3) h dX1_queues_52 (by decide) rfl ?_
    refine u_icmp_lt (tgt := 60) h dX1_queues_53 (by decide) rfl (fun c4 => ?_) (fun c4 => ?_)
    · refine u_iconst (v := 0) h dX1_queues_60 (by decide) rfl ?_
      exact u_zret h hRT dX1_queues_61 rfl (by omega) (by omega) (by refine ⟨congrArg (fun b => some (Value.int b)) ?_, rfl⟩; first | (simp [quB, bI, k3, c4, Int32.not_le.mpr c4]; done) | (exfalso; simp_all; done) | (simp_all [quB, bI, k3, c4, Int32.not_le.mpr c4]; done))
    · refine u_iconst (v := 1) h dX1_queues_56 (by decide) rfl ?_
      refine u_goto (tgt := 61) h dX1_queues_57 (by decide) ?_
      exact u_zret h hRT dX1_queues_61 rfl (by omega) (by omega) (by refine ⟨congrArg (fun b => some (Value.int b)) ?_, rfl⟩; first | (simp [quB, bI, k3, c4, Int32.not_lt.mp c4]; done) | (exfalso; simp_all; done) | (simp_all [quB, bI, k3, c4, Int32.not_lt.mp c4]; done))
  by_cases k5 : (z 60) = 2
  · refine u_tableIn (off := 58) (tgt := 62) h dX1_queues_4 (by rw [k5]; decide) (by rw [k5]; decide) (by rw [k5]; rfl) (by decide) ?_
    refine u_aload_n h dX1_queues_62 rfl 0 rfl rfl ?_
    refine u_iload_n h dX1_queues_63 rfl 1 rfl rfl ?_
    refine u_callV h (As := [.int (nI v)]) (wc := [(h0, .inr (1, [.ref qc])), (qc, aI G 54 (encC z))]) (wr := []) (kX1_stage G h0 qc (encC z) v hv) cwX1_queues_X1_stage rfl rfl hR ⟨⟨rfl, rfl⟩, by decide, by decide⟩ ⟨Nat.le_of_ble_eq_true rfl, Nat.le_of_ble_eq_true rfl⟩ (ci := 1) (qr := 0) rfl rfl [0, 1] [] rfl rfl rfl rfl (by decide) (Nat.le_of_ble_eq_true rfl) rfl dX1_queues_64 rfl (fun v9 u9 hp9 => ?_)
    obtain ⟨rfl, rfl⟩ := hp9
    refine u_wp (ws' := [(h0, .inr (1, [.ref qc])), (qc, aI G 54 (encC z))]) [0, 1] rfl rfl ?_
    refine u_eqs (st' := [.int ((encC z) v)]) rfl ?_
    refine u_top (y := (z v)) (e_st hv) ?_
    refine u_if_eq (tgt := 74) h dX1_queues_67 (by decide) rfl (fun c6 => ?_) (fun c6 => ?_)
    · refine u_iconst (v := 0) h dX1_queues_74 (by decide) rfl ?_
      exact u_zret h hRT dX1_queues_75 rfl (by omega) (by omega) (by refine ⟨congrArg (fun b => some (Value.int b)) ?_, rfl⟩; first | (simp [quB, bI, k5, c6]; done) | (exfalso; simp_all; done) | (simp_all [quB, bI, k5, c6]; done))
    · refine u_iconst (v := 1) h dX1_queues_70 (by decide) rfl ?_
      refine u_goto (tgt := 75) h dX1_queues_71 (by decide) ?_
      exact u_zret h hRT dX1_queues_75 rfl (by omega) (by omega) (by refine ⟨congrArg (fun b => some (Value.int b)) ?_, rfl⟩; first | (simp [quB, bI, k5, c6]; done) | (exfalso; simp_all; done) | (simp_all [quB, bI, k5, c6]; done))
  refine u_tableOut (tgt := 76) h dX1_queues_4 (ti_out (n := 3) (by decide) (fun k9 hk9 => by rcases (show k9 = 0 ∨ k9 = 1 ∨ k9 = 2 by omega) with rfl | rfl | rfl <;> assumption)) (by decide) ?_
  refine u_iconst (v := 0) h dX1_queues_76 (by decide) rfl ?_
  exact u_zret h hRT dX1_queues_77 rfl (by omega) (by omega) (by refine ⟨congrArg (fun b => some (Value.int b)) ?_, rfl⟩; first | (simp [quB, bI, k1, k3, k5]; done) | (exfalso; simp_all; done) | (simp_all [quB, bI, k1, k3, k5]; done))

set_option maxRecDepth 20000 in
theorem cwX1_touches_X1_kind : CWd wsX1_touches (wsV RX1 25 RX1 yX1_kind wsX1_kind) yX1_kind wsX1_kind cX1_kind 1 (some .int) 0 := ⟨gX1_touches_X1_kind, ⟨_, rfl⟩, by decide +kernel, by decide, by decide⟩
set_option maxRecDepth 20000 in
theorem cwX1_touches_X1_stage : CWd wsX1_touches (wsV RX1 33 RX1 yX1_stage wsX1_stage) yX1_stage wsX1_stage cX1_stage 2 (some .int) 1 := ⟨gX1_touches_X1_stage, ⟨_, rfl⟩, by decide +kernel, by decide, by decide⟩
set_option maxHeartbeats 8000000 in
set_option maxRecDepth 100000 in
theorem kX1_touches (G : Gx) (h0 qc : Nat) (z : Zf) (v : Nat) (hv : v < 6) (hW : Wc z) : MC G yX1_touches wsX1_touches ({ frames := 1, cells := 0, slots := 0, locals := 21 } : Room) [.ref h0, .int (nI v)] [(h0, .inr (1, [.ref qc])), (qc, aI G 54 (encC z))] (fun v' u' => v' = some (.int (costM (z 60) (z v))) ∧ u' = [(h0, .inr (1, [.ref qc])), (qc, aI G 54 (encC z))]) 0 0 := by
  refine mc_of (cc := cX1_touches) (maxL := 3) (ret := (some .int)) (by decide) rfl (Nat.le_of_ble_eq_true rfl) (fun X h hR hL hRT => ?_)
  refine u_eql (lv' := [(0, .ref h0), (1, .int (nI v))]) rfl ?_
  refine u_aload_n h dX1_touches_0 rfl 0 rfl rfl ?_
  refine u_callV h (As := []) (wc := [(h0, .inr (1, [.ref qc])), (qc, aI G 54 (encC z))]) (wr := []) (kX1_kind G h0 qc (encC z)) cwX1_touches_X1_kind rfl rfl hR ⟨⟨rfl, rfl⟩, by decide, by decide⟩ ⟨Nat.le_of_ble_eq_true rfl, Nat.le_of_ble_eq_true rfl⟩ (ci := 1) (qr := 0) rfl rfl [0, 1] [] rfl rfl rfl rfl (by decide) (Nat.le_of_ble_eq_true rfl) rfl dX1_touches_1 rfl (fun v9 u9 hp9 => ?_)
  obtain ⟨rfl, rfl⟩ := hp9
  refine u_wp (ws' := [(h0, .inr (1, [.ref qc])), (qc, aI G 54 (encC z))]) [0, 1] rfl rfl ?_
  refine u_eqs (st' := [.int ((encC z) 53)]) rfl ?_
  refine u_top (y := (z 60)) (e_ki _) ?_
  obtain ⟨k, hk, ek⟩ := hW.1.k
  obtain ⟨s, hs, es, hks⟩ := hW.2.1 v hv
  refine u_top (y := nI k) ek ?_
  refine u_bipush (v := 8) h dX1_touches_4 (by decide) rfl ?_
  refine u_imul (v := (nI (k * 8))) h dX1_touches_6 (pk_mul k 8) rfl ?_
  refine u_aload_n h dX1_touches_7 rfl 0 rfl rfl ?_
  refine u_iload_n h dX1_touches_8 rfl 1 rfl rfl ?_
  refine u_callV h (As := [.int (nI v)]) (wc := [(h0, .inr (1, [.ref qc])), (qc, aI G 54 (encC z))]) (wr := []) (kX1_stage G h0 qc (encC z) v hv) cwX1_touches_X1_stage rfl rfl hR ⟨⟨rfl, rfl⟩, by decide, by decide⟩ ⟨Nat.le_of_ble_eq_true rfl, Nat.le_of_ble_eq_true rfl⟩ (ci := 1) (qr := 0) rfl rfl [0, 1] [] rfl rfl rfl rfl (by decide) (Nat.le_of_ble_eq_true rfl) rfl dX1_touches_9 rfl (fun v9 u9 hp9 => ?_)
  obtain ⟨rfl, rfl⟩ := hp9
  refine u_wp (ws' := [(h0, .inr (1, [.ref qc])), (qc, aI G 54 (encC z))]) [0, 1] rfl rfl ?_
  refine u_eqs (st' := [.int ((encC z) v), .int (nI (k * 8))]) rfl ?_
  refine u_top (y := (z v)) (e_st hv) ?_
  refine u_top (y := nI s) es ?_
  refine u_iadd (v := (nI ((k * 8) + s))) h dX1_touches_12 (nI_add (k * 8) s) rfl ?_
  refine u_istore_n (lv' := [(2, .int (nI ((k * 8) + s))), (0, .ref h0), (1, .int (nI v))]) h dX1_touches_13 rfl (by rw [hL]; decide) rfl rfl ?_
  refine u_iload_n h dX1_touches_14 rfl 0 rfl rfl ?_
  refine u_if_lt_N (a := ((k * 8) + s)) (tgt := 34) h dX1_touches_15 (by decide) (by omega) rfl (fun c1 => ?_) (fun c1 => ?_)
  · omega
  · refine u_iload_n h dX1_touches_18 rfl 0 rfl rfl ?_
    refine u_far h (by decide +kernel) dX1_touches_19 rfl ?_
    refine u_farlen h dX1_touches_22 rfl ?_
    refine u_icmp_ge_N (a := ((k * 8) + s)) (b := 32) (tgt := 34) h dX1_touches_23 (by decide) (by omega) (by omega) rfl (fun c2 => ?_) (fun c2 => ?_)
    · omega
    · refine u_far h (by decide +kernel) dX1_touches_26 rfl ?_
      refine u_iload_n h dX1_touches_29 rfl 0 rfl rfl ?_
      refine u_farld h (n := ((k * 8) + s)) (by omega) dX1_touches_30 rfl ?_
      refine u_goto (tgt := 35) h dX1_touches_31 (by decide) ?_
      exact u_iret h hRT dX1_touches_35 (by omega) (by omega) (by exact ⟨by rw [far_cost k hk s hs (by rw [ek] at hks; rcases hks with q9 | ⟨q9, q8⟩ | ⟨q9, q8⟩; exact Or.inl ((nI_eq (b := 0) (by omega) (by decide)).mp q9); exact Or.inr (Or.inl ⟨(nI_eq (b := 1) (by omega) (by decide)).mp q9, q8⟩); exact Or.inr (Or.inr ⟨q9.imp (nI_eq (b := 2) (by omega) (by decide)).mp (nI_eq (b := 3) (by omega) (by decide)).mp, q8⟩)), ek, es], rfl⟩)

theorem flX1_mayEnter_11 : FL wsX1_mayEnter RX1 11 1 0 := ⟨RX1, TX1, 1, rfl, by decide, by decide +kernel, by decide +kernel⟩
set_option maxRecDepth 20000 in
theorem cwX1_mayEnter_X1_kind : CWd wsX1_mayEnter (wsV RX1 25 RX1 yX1_kind wsX1_kind) yX1_kind wsX1_kind cX1_kind 1 (some .int) 0 := ⟨gX1_mayEnter_X1_kind, ⟨_, rfl⟩, by decide +kernel, by decide, by decide⟩
set_option maxRecDepth 20000 in
theorem cwX1_mayEnter_X1_cardFlag : CWd wsX1_mayEnter (wsV RX1 43 RX1 yX1_cardFlag wsX1_cardFlag) yX1_cardFlag wsX1_cardFlag cX1_cardFlag 2 (some .int) 1 := ⟨gX1_mayEnter_X1_cardFlag, ⟨_, rfl⟩, by decide +kernel, by decide, by decide⟩
set_option maxHeartbeats 8000000 in
set_option maxRecDepth 100000 in
theorem kX1_mayEnter (G : Gx) (h0 qc : Nat) (z : Zf) (v : Nat) (hv : v < 6)  : MC G yX1_mayEnter wsX1_mayEnter ({ frames := 2, cells := 0, slots := 0, locals := 41 } : Room) [.ref h0, .int (nI v)] [(h0, .inr (1, [.ref qc])), (qc, aI G 54 (encC z))] (fun v' u' => v' = some (.int (bI (mayB z v))) ∧ u' = [(h0, .inr (1, [.ref qc])), (qc, aI G 54 (encC z))]) 0 0 := by
  refine mc_of (cc := cX1_mayEnter) (maxL := 2) (ret := (some .boolean)) (by decide) rfl (Nat.le_of_ble_eq_true rfl) (fun X h hR hL hRT => ?_)
  refine u_eql (lv' := [(0, .ref h0), (1, .int (nI v))]) rfl ?_
  refine u_aload_n h dX1_mayEnter_0 rfl 0 rfl rfl ?_
  refine u_callV h (As := []) (wc := [(h0, .inr (1, [.ref qc])), (qc, aI G 54 (encC z))]) (wr := []) (kX1_kind G h0 qc (encC z)) cwX1_mayEnter_X1_kind rfl rfl hR ⟨⟨rfl, rfl⟩, by decide, by decide⟩ ⟨Nat.le_of_ble_eq_true rfl, Nat.le_of_ble_eq_true rfl⟩ (ci := 1) (qr := 0) rfl rfl [0, 1] [] rfl rfl rfl rfl (by decide) (Nat.le_of_ble_eq_true rfl) rfl dX1_mayEnter_1 rfl (fun v9 u9 hp9 => ?_)
  obtain ⟨rfl, rfl⟩ := hp9
  refine u_wp (ws' := [(h0, .inr (1, [.ref qc])), (qc, aI G 54 (encC z))]) [0, 1] rfl rfl ?_
  refine u_eqs (st' := [.int ((encC z) 53)]) rfl ?_
  refine u_top (y := (z 60)) (e_ki _) ?_
  by_cases k1 : (z 60) = 0
  · refine u_tableIn (off := 28) (tgt := 32) h dX1_mayEnter_4 (by rw [k1]; decide) (by rw [k1]; decide) (by rw [k1]; rfl) (by decide) ?_
    refine u_aload_n h dX1_mayEnter_32 rfl 0 rfl rfl ?_
    refine u_get h flX1_mayEnter_11 0 (v := .ref qc) rfl rfl dX1_mayEnter_33 rfl ?_
    refine u_bipush (v := 12) h dX1_mayEnter_36 (by decide) rfl ?_
    refine u_iload_n h dX1_mayEnter_38 rfl 1 rfl rfl ?_
    refine u_iadd (v := (nI (12 + v))) h dX1_mayEnter_39 (nI_add 12 v) rfl ?_
    refine u_iald h (n := (12 + v)) 1 rfl (by omega) (by omega) dX1_mayEnter_40 rfl ?_
    refine u_top (y := (z (12 + v))) (e_fl hv) ?_
    refine u_if_ne (tgt := 48) h dX1_mayEnter_41 (by decide) rfl (fun c2 => ?_) (fun c2 => ?_)
    · refine u_iconst (v := 0) h dX1_mayEnter_48 (by decide) rfl ?_
      exact u_zret h hRT dX1_mayEnter_49 rfl (by omega) (by omega) (by refine ⟨congrArg (fun b => some (Value.int b)) ?_, rfl⟩; first | (simp [mayB, bI, k1, c2]; done) | (exfalso; simp_all; done) | (simp_all [mayB, bI, k1, c2]; done))
    · refine u_iconst (v := 1) h dX1_mayEnter_44 (by decide) rfl ?_
      refine u_goto (tgt := 49) h dX1_mayEnter_45 (by decide) ?_
      exact u_zret h hRT dX1_mayEnter_49 rfl (by omega) (by omega) (by refine ⟨congrArg (fun b => some (Value.int b)) ?_, rfl⟩; first | (simp [mayB, bI, k1, c2]; done) | (exfalso; simp_all; done) | (simp_all [mayB, bI, k1, c2]; done))
  by_cases k3 : (z 60) = 1
  · refine u_tableIn (off := 46) (tgt := 50) h dX1_mayEnter_4 (by rw [k3]; decide) (by rw [k3]; decide) (by rw [k3]; rfl) (by decide) ?_
    refine u_aload_n h dX1_mayEnter_50 rfl 0 rfl rfl ?_
    refine u_aload_n h dX1_mayEnter_51 rfl 0 rfl rfl ?_
    refine u_get h flX1_mayEnter_11 0 (v := .ref qc) rfl rfl dX1_mayEnter_52 rfl ?_
    refine u_bipush (v := 30) h dX1_mayEnter_55 (by decide) rfl ?_
    refine u_iload_n h dX1_mayEnter_57 rfl 1 rfl rfl ?_
    refine u_iadd (v := (nI (30 + v))) h dX1_mayEnter_58 (nI_add 30 v) rfl ?_
    refine u_iald h (n := (30 + v)) 1 rfl (by omega) (by omega) dX1_mayEnter_59 rfl ?_
    refine u_top (y := (tN (z (30 + v)))) (e_wa hv) ?_
    refine u_callV h (As := [.int (tN (z (30 + v)))]) (wc := [(h0, .inr (1, [.ref qc])), (qc, aI G 54 (encC z))]) (wr := []) (kX1_cardFlag G h0 qc z (tN (z (30 + v)))) cwX1_mayEnter_X1_cardFlag rfl rfl hR ⟨⟨rfl, rfl⟩, by decide, by decide⟩ ⟨Nat.le_of_ble_eq_true rfl, Nat.le_of_ble_eq_true rfl⟩ (ci := 1) (qr := 0) rfl rfl [0, 1] [] rfl rfl rfl rfl (by decide) (Nat.le_of_ble_eq_true rfl) rfl dX1_mayEnter_60 rfl (fun v9 u9 hp9 => ?_)
    obtain ⟨rfl, rfl⟩ := hp9
    refine u_wp (ws' := [(h0, .inr (1, [.ref qc])), (qc, aI G 54 (encC z))]) [0, 1] rfl rfl ?_
    refine u_eqs (st' := [.int (flagC z (tN (z (30 + v))))]) rfl ?_
    refine u_if_ne (tgt := 70) h dX1_mayEnter_63 (by decide) rfl (fun c4 => ?_) (fun c4 => ?_)
    · refine u_iconst (v := 0) h dX1_mayEnter_70 (by decide) rfl ?_
      exact u_zret h hRT dX1_mayEnter_71 rfl (by omega) (by omega) (by refine ⟨congrArg (fun b => some (Value.int b)) ?_, rfl⟩; first | (simp [mayB, bI, k3, c4]; done) | (exfalso; simp_all; done) | (simp_all [mayB, bI, k3, c4]; done))
    · refine u_iconst (v := 1) h dX1_mayEnter_66 (by decide) rfl ?_
      refine u_goto (tgt := 71) h dX1_mayEnter_67 (by decide) ?_
      exact u_zret h hRT dX1_mayEnter_71 rfl (by omega) (by omega) (by refine ⟨congrArg (fun b => some (Value.int b)) ?_, rfl⟩; first | (simp [mayB, bI, k3, c4]; done) | (exfalso; simp_all; done) | (simp_all [mayB, bI, k3, c4]; done))
  by_cases k5 : (z 60) = 2
  · refine u_tableIn (off := 68) (tgt := 72) h dX1_mayEnter_4 (by rw [k5]; decide) (by rw [k5]; decide) (by rw [k5]; rfl) (by decide) ?_
    refine u_aload_n h dX1_mayEnter_72 rfl 0 rfl rfl ?_
    refine u_get h flX1_mayEnter_11 0 (v := .ref qc) rfl rfl dX1_mayEnter_73 rfl ?_
    refine u_bipush (v := 36) h dX1_mayEnter_76 (by decide) rfl ?_
    refine u_iload_n h dX1_mayEnter_78 rfl 1 rfl rfl ?_
    refine u_iadd (v := (nI (36 + v))) h dX1_mayEnter_79 (nI_add 36 v) rfl ?_
    refine u_iald h (n := (36 + v)) 1 rfl (by omega) (by omega) dX1_mayEnter_80 rfl ?_
    refine u_top (y := (if z 60 = 2 ∧ ¬ z v = 0 then z (36 + v) else -5)) (e_ti hv) ?_
    refine u_aload_n h dX1_mayEnter_81 rfl 0 rfl rfl ?_
    refine u_get h flX1_mayEnter_11 0 (v := .ref qc) rfl rfl dX1_mayEnter_82 rfl ?_
    refine u_bipush (v := 51) h dX1_mayEnter_85 (by decide) rfl ?_
    refine u_iald h (n := 51) 1 rfl (by omega) (by omega) dX1_mayEnter_87 rfl ?_
    refine u_top (y := (z 51)) (e_se _) ?_
    refine u_icmp_ne (tgt := 95) h dX1_mayEnter_88 (by decide) rfl (fun c6 => ?_) (fun c6 => ?_)
    · refine u_iconst (v := 0) h dX1_mayEnter_95 (by decide) rfl ?_
      exact u_zret h hRT dX1_mayEnter_96 rfl (by omega) (by omega) (by refine ⟨congrArg (fun b => some (Value.int b)) ?_, rfl⟩; first | (simp [mayB, bI, k5, c6]; done) | (exfalso; simp_all; done) | (simp_all [mayB, bI, k5, c6]; done))
    · refine u_iconst (v := 1) h dX1_mayEnter_91 (by decide) rfl ?_
      refine u_goto (tgt := 96) h dX1_mayEnter_92 (by decide) ?_
      exact u_zret h hRT dX1_mayEnter_96 rfl (by omega) (by omega) (by refine ⟨congrArg (fun b => some (Value.int b)) ?_, rfl⟩; first | (simp [mayB, bI, k5, c6]; done) | (exfalso; simp_all; done) | (simp_all [mayB, bI, k5, c6]; done))
  refine u_tableOut (tgt := 97) h dX1_mayEnter_4 (ti_out (n := 3) (by decide) (fun k9 hk9 => by rcases (show k9 = 0 ∨ k9 = 1 ∨ k9 = 2 by omega) with rfl | rfl | rfl <;> assumption)) (by decide) ?_
  refine u_aload_n h dX1_mayEnter_97 rfl 0 rfl rfl ?_
  refine u_get h flX1_mayEnter_11 0 (v := .ref qc) rfl rfl dX1_mayEnter_98 rfl ?_
  refine u_bipush (v := 52) h dX1_mayEnter_101 (by decide) rfl ?_
  refine u_iald h (n := 52) 1 rfl (by omega) (by omega) dX1_mayEnter_103 rfl ?_
  refine u_top (y := (z 52)) (e_gr _) ?_
  refine u_if_ne (tgt := 111) h dX1_mayEnter_104 (by decide) rfl (fun c7 => ?_) (fun c7 => ?_)
  · refine u_iconst (v := 0) h dX1_mayEnter_111 (by decide) rfl ?_
    exact u_zret h hRT dX1_mayEnter_112 rfl (by omega) (by omega) (by refine ⟨congrArg (fun b => some (Value.int b)) ?_, rfl⟩; first | (simp [mayB, bI, c7, k1, k3, k5]; done) | (exfalso; simp_all; done) | (simp_all [mayB, bI, c7, k1, k3, k5]; done))
  · refine u_iconst (v := 1) h dX1_mayEnter_107 (by decide) rfl ?_
    refine u_goto (tgt := 112) h dX1_mayEnter_108 (by decide) ?_
    exact u_zret h hRT dX1_mayEnter_112 rfl (by omega) (by omega) (by refine ⟨congrArg (fun b => some (Value.int b)) ?_, rfl⟩; first | (simp [mayB, bI, c7, k1, k3, k5]; done) | (exfalso; simp_all; done) | (simp_all [mayB, bI, c7, k1, k3, k5]; done))

theorem flX1_waits_11 : FL wsX1_waits RX1 11 1 0 := ⟨RX1, TX1, 1, rfl, by decide, by decide +kernel, by decide +kernel⟩
set_option maxRecDepth 20000 in
theorem cwX1_waits_X1_stage : CWd wsX1_waits (wsV RX1 33 RX1 yX1_stage wsX1_stage) yX1_stage wsX1_stage cX1_stage 2 (some .int) 1 := ⟨gX1_waits_X1_stage, ⟨_, rfl⟩, by decide +kernel, by decide, by decide⟩
set_option maxRecDepth 20000 in
theorem cwX1_waits_X1_mayEnter : CWd wsX1_waits (wsV RX1 40 RX1 yX1_mayEnter wsX1_mayEnter) yX1_mayEnter wsX1_mayEnter cX1_mayEnter 2 (some .boolean) 1 := ⟨gX1_waits_X1_mayEnter, ⟨_, rfl⟩, by decide +kernel, by decide, by decide⟩
set_option maxHeartbeats 8000000 in
set_option maxRecDepth 100000 in
theorem kX1_waits (G : Gx) (h0 qc : Nat) (z : Zf) (v : Nat) (hv : v < 6) (hW : Wc z)  : MC G yX1_waits wsX1_waits ({ frames := 3, cells := 0, slots := 0, locals := 62 } : Room) [.ref h0, .int (nI v)] [(h0, .inr (1, [.ref qc])), (qc, aI G 54 (encC z))] (fun v' u' => v' = some (.int (bI (isLook z v))) ∧ u' = [(h0, .inr (1, [.ref qc])), (qc, aI G 54 (encC z))]) 0 0 := by
  refine mc_of (cc := cX1_waits) (maxL := 3) (ret := (some .boolean)) (by decide) rfl (Nat.le_of_ble_eq_true rfl) (fun X h hR hL hRT => ?_)
  refine u_eql (lv' := [(0, .ref h0), (1, .int (nI v))]) rfl ?_
  refine u_aload_n h dX1_waits_0 rfl 0 rfl rfl ?_
  refine u_iload_n h dX1_waits_1 rfl 1 rfl rfl ?_
  refine u_callV h (As := [.int (nI v)]) (wc := [(h0, .inr (1, [.ref qc])), (qc, aI G 54 (encC z))]) (wr := []) (kX1_stage G h0 qc (encC z) v hv) cwX1_waits_X1_stage rfl rfl hR ⟨⟨rfl, rfl⟩, by decide, by decide⟩ ⟨Nat.le_of_ble_eq_true rfl, Nat.le_of_ble_eq_true rfl⟩ (ci := 1) (qr := 0) rfl rfl [0, 1] [] rfl rfl rfl rfl (by decide) (Nat.le_of_ble_eq_true rfl) rfl dX1_waits_2 rfl (fun v9 u9 hp9 => ?_)
  obtain ⟨rfl, rfl⟩ := hp9
  refine u_wp (ws' := [(h0, .inr (1, [.ref qc])), (qc, aI G 54 (encC z))]) [0, 1] rfl rfl ?_
  refine u_eqs (st' := [.int ((encC z) v)]) rfl ?_
  refine u_top (y := (z v)) (e_st hv) ?_
  refine u_istore_n (lv' := [(2, .int (z v)), (0, .ref h0), (1, .int (nI v))]) h dX1_waits_5 rfl (by rw [hL]; decide) rfl rfl ?_
  refine u_iload_n h dX1_waits_6 rfl 0 rfl rfl ?_
  refine u_bipush (v := 6) h dX1_waits_7 (by decide) rfl ?_
  refine u_icmp_ne (tgt := 32) h dX1_waits_9 (by decide) rfl (fun c1 => ?_) (fun c1 => ?_)
  · refine u_iload_n h dX1_waits_32 rfl 0 rfl rfl ?_
    refine u_iconst (v := 3) h dX1_waits_33 (by decide) rfl ?_
    refine u_icmp_ne (tgt := 49) h dX1_waits_34 (by decide) rfl (fun c2 => ?_) (fun c2 => ?_)
    · refine u_iconst (v := 0) h dX1_waits_49 (by decide) rfl ?_
      exact u_zret h hRT dX1_waits_50 rfl (by omega) (by omega) (by refine ⟨congrArg (fun b => some (Value.int b)) ?_, rfl⟩; rw [← wait_eq hv hW]; first | (simp [bI, c1, c2]; done) | (exfalso; simp_all; done) | (simp_all [bI, c1, c2]; done))
    · refine u_aload_n h dX1_waits_37 rfl 1 rfl rfl ?_
      refine u_iload_n h dX1_waits_38 rfl 2 rfl rfl ?_
      refine u_callV h (As := [.int (nI v)]) (wc := [(h0, .inr (1, [.ref qc])), (qc, aI G 54 (encC z))]) (wr := []) (kX1_mayEnter G h0 qc z v hv) cwX1_waits_X1_mayEnter rfl rfl hR ⟨⟨rfl, rfl⟩, by decide, by decide⟩ ⟨Nat.le_of_ble_eq_true rfl, Nat.le_of_ble_eq_true rfl⟩ (ci := 1) (qr := 0) rfl rfl [0, 1] [] rfl rfl rfl rfl (by decide) (Nat.le_of_ble_eq_true rfl) rfl dX1_waits_39 rfl (fun v9 u9 hp9 => ?_)
      obtain ⟨rfl, rfl⟩ := hp9
      refine u_wp (ws' := [(h0, .inr (1, [.ref qc])), (qc, aI G 54 (encC z))]) [0, 1] rfl rfl ?_
      refine u_eqs (st' := [.int (bI (mayB z v))]) rfl ?_
      refine u_if_ne_B (tgt := 49) h dX1_waits_42 (by decide) rfl (fun c3 => ?_) (fun c3 => ?_)
      · refine u_iconst (v := 0) h dX1_waits_49 (by decide) rfl ?_
        exact u_zret h hRT dX1_waits_50 rfl (by omega) (by omega) (by refine ⟨congrArg (fun b => some (Value.int b)) ?_, rfl⟩; rw [← wait_eq hv hW]; first | (simp [bI, c1, c2, c3]; done) | (exfalso; simp_all; done) | (simp_all [bI, c1, c2, c3]; done))
      · refine u_iconst (v := 1) h dX1_waits_45 (by decide) rfl ?_
        refine u_goto (tgt := 50) h dX1_waits_46 (by decide) ?_
        exact u_zret h hRT dX1_waits_50 rfl (by omega) (by omega) (by refine ⟨congrArg (fun b => some (Value.int b)) ?_, rfl⟩; rw [← wait_eq hv hW]; first | (simp [bI, c1, c2, c3]; done) | (exfalso; simp_all; done) | (simp_all [bI, c1, c2, c3]; done))
  · refine u_aload_n h dX1_waits_12 rfl 1 rfl rfl ?_
    refine u_get h flX1_waits_11 0 (v := .ref qc) rfl rfl dX1_waits_13 rfl ?_
    refine u_bipush (v := 6) h dX1_waits_16 (by decide) rfl ?_
    refine u_iload_n h dX1_waits_18 rfl 2 rfl rfl ?_
    refine u_iadd (v := (nI (6 + v))) h dX1_waits_19 (nI_add 6 v) rfl ?_
    refine u_iald h (n := (6 + v)) 1 rfl (by omega) (by omega) dX1_waits_20 rfl ?_
    refine u_top (y := (tN (z (6 + v)))) (e_nx hv) ?_
    refine u_bipush (v := (-5)) h dX1_waits_21 (by decide) rfl ?_
    refine u_icmp_ne (tgt := 30) h dX1_waits_23 (by decide) rfl (fun c4 => ?_) (fun c4 => ?_)
    · refine u_iconst (v := 0) h dX1_waits_30 (by decide) rfl ?_
      exact u_zret h hRT dX1_waits_31 rfl (by omega) (by omega) (by refine ⟨congrArg (fun b => some (Value.int b)) ?_, rfl⟩; rw [← wait_eq hv hW]; first | (simp [bI, c1, c4]; done) | (exfalso; simp_all; done) | (simp_all [bI, c1, c4]; done))
    · refine u_iconst (v := 1) h dX1_waits_26 (by decide) rfl ?_
      refine u_goto (tgt := 31) h dX1_waits_27 (by decide) ?_
      exact u_zret h hRT dX1_waits_31 rfl (by omega) (by omega) (by refine ⟨congrArg (fun b => some (Value.int b)) ?_, rfl⟩; rw [← wait_eq hv hW]; first | (simp [bI, c1, c4]; done) | (exfalso; simp_all; done) | (simp_all [bI, c1, c4]; done))
