theorem flX5_placeOf_7 : FL wsX5_placeOf RX5 7 5 0 := ⟨RX5, TX5, 18, rfl, by decide, by decide +kernel, by decide +kernel⟩
set_option maxHeartbeats 8000000 in
set_option maxRecDepth 100000 in
theorem kX5_placeOf (G : Gx) (h0 qz : Nat) (fs : List Value) (hfz : fs[0]? = some (.ref qz)) (z : Zf) (v : Nat) (hv : v < 6) (m : Nat) (hm : m ≤ 6) (h53 : z 53 = nI m) : MC G yX5_placeOf wsX5_placeOf ({ frames := 0, cells := 0, slots := 0, locals := 0 } : Room) [.ref h0, .int (nI v)] [(h0, .inr (5, fs)), (qz, aI G 86 z)] (fun v' u' => v' = some (.int (plc z v m)) ∧ u' = [(h0, .inr (5, fs)), (qz, aI G 86 z)]) 0 0 := by
  refine mc_of (cc := cX5_placeOf) (maxL := 4) (ret := (some .int)) (by decide) rfl (Nat.le_of_ble_eq_true rfl) (fun X h hR hL hRT => ?_)
  refine u_eql (lv' := [(0, .ref h0), (1, .int (nI v))]) rfl ?_
  refine u_bipush (v := (-5)) h dX5_placeOf_0 (by decide) rfl ?_
  refine u_istore_n (lv' := [(2, .int (-5)), (0, .ref h0), (1, .int (nI v))]) h dX5_placeOf_2 rfl (by rw [hL]; decide) rfl rfl ?_
  refine u_iconst (v := 0) h dX5_placeOf_3 (by decide) rfl ?_
  refine u_istore_n (lv' := [(3, .int 0), (2, .int (-5)), (0, .ref h0), (1, .int (nI v))]) h dX5_placeOf_4 rfl (by rw [hL]; decide) rfl rfl ?_
  have LL : ∀ (k9 : Nat) (k : Nat) (p : Int32), m - k = k9 → (k ≤ m) → (p = plc z v k) → U G X 0 0 [(h0, .inr (5, fs)), (qz, aI G 86 z)] 5 [(3, .int (nI k)), (2, .int p), (0, .ref h0), (1, .int (nI v))] [] := by
    intro k9
    induction k9 using Nat.strongRecOn with
    | _ k9 ihL =>
      intro k p hk9 hk hp
      subst hk9
      refine u_iload_n h dX5_placeOf_5 rfl 0 rfl rfl ?_
      refine u_aload_n h dX5_placeOf_6 rfl 2 rfl rfl ?_
      refine u_get h flX5_placeOf_7 0 (v := .ref qz) rfl hfz dX5_placeOf_7 rfl ?_
      refine u_bipush (v := 53) h dX5_placeOf_10 (by decide) rfl ?_
      refine u_iald h (n := 53) 1 rfl (by omega) (by omega) dX5_placeOf_12 rfl ?_
      refine u_top (y := nI m) (h53) ?_
      refine u_icmp_ge_N (a := k) (b := m) (tgt := 41) h dX5_placeOf_13 (by decide) (by omega) (by omega) rfl (fun c1 => ?_) (fun c1 => ?_)
      · refine u_iload_n h dX5_placeOf_41 rfl 1 rfl rfl ?_
        exact u_iret h hRT dX5_placeOf_42 (by omega) (by omega) (by exact ⟨by rw [hp, show k = m from by omega], rfl⟩)
      · refine u_aload_n h dX5_placeOf_16 rfl 2 rfl rfl ?_
        refine u_get h flX5_placeOf_7 0 (v := .ref qz) rfl hfz dX5_placeOf_17 rfl ?_
        refine u_bipush (v := 54) h dX5_placeOf_20 (by decide) rfl ?_
        refine u_iload_n h dX5_placeOf_22 rfl 0 rfl rfl ?_
        refine u_iadd (v := (nI (54 + k))) h dX5_placeOf_23 (nI_add 54 k) rfl ?_
        refine u_iald h (n := (54 + k)) 1 rfl (by omega) (by omega) dX5_placeOf_24 rfl ?_
        refine u_iload_n h dX5_placeOf_25 rfl 3 rfl rfl ?_
        refine u_icmp_ne (tgt := 33) h dX5_placeOf_26 (by decide) rfl (fun c2 => ?_) (fun c2 => ?_)
        · refine u_iload_n h dX5_placeOf_33 rfl 1 rfl rfl ?_
          refine u_istore_n (lv' := [(2, .int p), (3, .int (nI k)), (0, .ref h0), (1, .int (nI v))]) h dX5_placeOf_34 rfl (by rw [hL]; decide) rfl rfl ?_
          refine u_iinc (k := 1) (v := (nI (k + 1))) (lv' := [(3, .int (nI (k + 1))), (2, .int p), (0, .ref h0), (1, .int (nI v))]) h dX5_placeOf_35 rfl (nI_add k 1) (by rw [hL]; decide) rfl rfl ?_
          refine u_goto (tgt := 5) h dX5_placeOf_38 (by decide) ?_
          exact ihL _ (by omega) (k + 1) p rfl (by omega) (by simp [plc, hp, c1, c2])
        · refine u_iload_n h dX5_placeOf_29 rfl 0 rfl rfl ?_
          refine u_goto (tgt := 34) h dX5_placeOf_30 (by decide) ?_
          refine u_istore_n (lv' := [(2, .int (nI k)), (3, .int (nI k)), (0, .ref h0), (1, .int (nI v))]) h dX5_placeOf_34 rfl (by rw [hL]; decide) rfl rfl ?_
          refine u_iinc (k := 1) (v := (nI (k + 1))) (lv' := [(3, .int (nI (k + 1))), (2, .int (nI k)), (0, .ref h0), (1, .int (nI v))]) h dX5_placeOf_35 rfl (nI_add k 1) (by rw [hL]; decide) rfl rfl ?_
          refine u_goto (tgt := 5) h dX5_placeOf_38 (by decide) ?_
          exact ihL _ (by omega) (k + 1) (nI k) rfl (by omega) (by simp [plc, hp, c1, c2])
  exact LL _ 0 (-5) rfl (Nat.zero_le _) rfl

theorem flX5_leaveLine_7 : FL wsX5_leaveLine RX5 7 5 0 := ⟨RX5, TX5, 18, rfl, by decide, by decide +kernel, by decide +kernel⟩
set_option maxRecDepth 20000 in
theorem cwX5_leaveLine_X5_placeOf : CWd wsX5_leaveLine (wsV RX5 82 RX5 yX5_placeOf wsX5_placeOf) yX5_placeOf wsX5_placeOf cX5_placeOf 4 (some .int) 1 := ⟨gX5_leaveLine_X5_placeOf, ⟨_, rfl⟩, by decide +kernel, by decide, by decide⟩
set_option maxHeartbeats 8000000 in
set_option maxRecDepth 100000 in
theorem kX5_leaveLine (G : Gx) (h0 qz : Nat) (fs : List Value) (hfz : fs[0]? = some (.ref qz)) (z : Zf) (v : Nat) (hv : v < 6) (m : Nat) (hm : m ≤ 6) (h53 : z 53 = nI m) : MC G yX5_leaveLine wsX5_leaveLine ({ frames := 1, cells := 0, slots := 0, locals := 23 } : Room) [.ref h0, .int (nI v)] [(h0, .inr (5, fs)), (qz, aI G 86 z)] (fun v' u' => v' = none ∧ u' = [(h0, .inr (5, fs)), (qz, aI G 86 (lvM z v))]) 0 0 := by
  refine mc_of (cc := cX5_leaveLine) (maxL := 4) (ret := none) (by decide) rfl (Nat.le_of_ble_eq_true rfl) (fun X h hR hL hRT => ?_)
  refine u_eql (lv' := [(0, .ref h0), (1, .int (nI v))]) rfl ?_
  refine u_aload_n h dX5_leaveLine_0 rfl 0 rfl rfl ?_
  refine u_iload_n h dX5_leaveLine_1 rfl 1 rfl rfl ?_
  refine u_callV h (As := [.int (nI v)]) (wc := [(h0, .inr (5, fs)), (qz, aI G 86 z)]) (wr := []) (kX5_placeOf G h0 qz fs hfz z v hv m hm h53) cwX5_leaveLine_X5_placeOf rfl rfl hR ⟨⟨rfl, rfl⟩, by decide, by decide⟩ ⟨Nat.le_of_ble_eq_true rfl, Nat.le_of_ble_eq_true rfl⟩ (ci := 5) (qr := 0) rfl rfl [0, 1] [] rfl rfl rfl rfl (by decide) (Nat.le_of_ble_eq_true rfl) rfl dX5_leaveLine_2 rfl (fun v9 u9 hp9 => ?_)
  obtain ⟨rfl, rfl⟩ := hp9
  refine u_wp (ws' := [(h0, .inr (5, fs)), (qz, aI G 86 z)]) [0, 1] rfl rfl ?_
  refine u_eqs (st' := [.int (plc z v m)]) rfl ?_
  refine u_istore_n (lv' := [(2, .int (plc z v m)), (0, .ref h0), (1, .int (nI v))]) h dX5_leaveLine_5 rfl (by rw [hL]; decide) rfl rfl ?_
  rcases plc_cases z v m with ep | ⟨p, hp, ep⟩
  · refine u_eql (lv' := [(2, .int (-5)), (0, .ref h0), (1, .int (nI v))]) (by rw [ep]) ?_
    refine u_iload_n h dX5_leaveLine_6 rfl 0 rfl rfl ?_
    refine u_bipush (v := (-5)) h dX5_leaveLine_7 (by decide) rfl ?_
    refine u_icmp_eq (tgt := 62) h dX5_leaveLine_9 (by decide) rfl (fun c1 => ?_) (fun c1 => ?_)
    · exact u_vret h hRT dX5_leaveLine_62 (by omega) (by omega) (by exact ⟨rfl, by rw [lvM_of hm h53, if_pos ep]⟩)
    · exact absurd rfl c1
  · refine u_eql (lv' := [(2, .int (nI p)), (0, .ref h0), (1, .int (nI v))]) (by rw [ep]) ?_
    refine u_iload_n h dX5_leaveLine_6 rfl 0 rfl rfl ?_
    refine u_bipush (v := (-5)) h dX5_leaveLine_7 (by decide) rfl ?_
    refine u_icmp_eq (tgt := 62) h dX5_leaveLine_9 (by decide) rfl (fun c2 => ?_) (fun c2 => ?_)
    · exact absurd c2 (nI_m5 (by omega))
    · refine u_aload_n h dX5_leaveLine_12 rfl 1 rfl rfl ?_
      refine u_get h flX5_leaveLine_7 0 (v := .ref qz) rfl hfz dX5_leaveLine_13 rfl ?_
      refine u_bipush (v := 53) h dX5_leaveLine_16 (by decide) rfl ?_
      refine u_dup2 h dX5_leaveLine_18 rfl rfl rfl ?_
      refine u_iald h (n := 53) 1 rfl (by omega) (by omega) dX5_leaveLine_19 rfl ?_
      refine u_top (y := nI m) h53 ?_
      refine u_iconst (v := 1) h dX5_leaveLine_20 (by decide) rfl ?_
      refine u_isub (v := (nI (m - 1))) h dX5_leaveLine_21 (pk_sub (a := m) (b := 1) (by omega)) rfl ?_
      refine u_iast h (n := 53) (v := (nI (m - 1))) 1 rfl (by omega) (by omega) rfl (ws' := [(h0, .inr (5, fs)), (qz, aI G 86 (upd z 53 (nI (m - 1))))]) rfl dX5_leaveLine_22 rfl ?_
      refine u_iload_n h dX5_leaveLine_23 rfl 0 rfl rfl ?_
      refine u_istore_n (lv' := [(3, .int (nI p)), (2, .int (nI p)), (0, .ref h0), (1, .int (nI v))]) h dX5_leaveLine_24 rfl (by rw [hL]; decide) rfl rfl ?_
      have LL : ∀ (k9 : Nat) (k : Nat) (w : Zf), m - k = k9 → (p ≤ k ∧ k ≤ m - 1) → (w = shl (upd z 53 (nI (m - 1))) p (k - p)) → U G X 0 0 [(h0, .inr (5, fs)), (qz, aI G 86 w)] 25 [(3, .int (nI k)), (2, .int (nI p)), (0, .ref h0), (1, .int (nI v))] [] := by
        intro k9
        induction k9 using Nat.strongRecOn with
        | _ k9 ihL =>
          intro k w hk9 hk hw
          subst hk9
          refine u_iload_n h dX5_leaveLine_25 rfl 0 rfl rfl ?_
          refine u_aload_n h dX5_leaveLine_26 rfl 2 rfl rfl ?_
          refine u_get h flX5_leaveLine_7 0 (v := .ref qz) rfl hfz dX5_leaveLine_27 rfl ?_
          refine u_bipush (v := 53) h dX5_leaveLine_30 (by decide) rfl ?_
          refine u_iald h (n := 53) 1 rfl (by omega) (by omega) dX5_leaveLine_32 rfl ?_
          refine u_top (y := nI (m - 1)) (by rw [hw, shl_53, pk_us]) ?_
          refine u_icmp_ge_N (a := k) (b := (m - 1)) (tgt := 62) h dX5_leaveLine_33 (by decide) (by omega) (by omega) rfl (fun c3 => ?_) (fun c3 => ?_)
          · exact u_vret h hRT dX5_leaveLine_62 (by omega) (by omega) (by exact ⟨rfl, by rw [lvM_of hm h53, if_neg (by rw [ep]; exact nI_m5 (by omega)), ep, ix_nI (by omega), hw, show k = m - 1 by omega, h53, show nI m - 1 = nI (m - 1) from pk_sub (a := m) (b := 1) (by omega)]⟩)
          · refine u_aload_n h dX5_leaveLine_36 rfl 2 rfl rfl ?_
            refine u_get h flX5_leaveLine_7 0 (v := .ref qz) rfl hfz dX5_leaveLine_37 rfl ?_
            refine u_bipush (v := 54) h dX5_leaveLine_40 (by decide) rfl ?_
            refine u_iload_n h dX5_leaveLine_42 rfl 0 rfl rfl ?_
            refine u_iadd (v := (nI (54 + k))) h dX5_leaveLine_43 (nI_add 54 k) rfl ?_
            refine u_aload_n h dX5_leaveLine_44 rfl 2 rfl rfl ?_
            refine u_get h flX5_leaveLine_7 0 (v := .ref qz) rfl hfz dX5_leaveLine_45 rfl ?_
            refine u_bipush (v := 54) h dX5_leaveLine_48 (by decide) rfl ?_
            refine u_iload_n h dX5_leaveLine_50 rfl 0 rfl rfl ?_
            refine u_iadd (v := (nI (54 + k))) h dX5_leaveLine_51 (nI_add 54 k) rfl ?_
            refine u_iconst (v := 1) h dX5_leaveLine_52 (by decide) rfl ?_
            refine u_iadd (v := (nI ((54 + k) + 1))) h dX5_leaveLine_53 (nI_add (54 + k) 1) rfl ?_
            refine u_iald h (n := ((54 + k) + 1)) 1 rfl (by omega) (by omega) dX5_leaveLine_54 rfl ?_
            refine u_iast h (n := (54 + k)) (v := (w ((54 + k) + 1))) 1 rfl (by omega) (by omega) rfl (ws' := [(h0, .inr (5, fs)), (qz, aI G 86 (upd w (54 + k) (w ((54 + k) + 1))))]) rfl dX5_leaveLine_55 rfl ?_
            refine u_iinc (k := 0) (v := (nI (k + 1))) (lv' := [(3, .int (nI (k + 1))), (2, .int (nI p)), (0, .ref h0), (1, .int (nI v))]) h dX5_leaveLine_56 rfl (nI_add k 1) (by rw [hL]; decide) rfl rfl ?_
            refine u_goto (tgt := 25) h dX5_leaveLine_59 (by decide) ?_
            exact ihL _ (by omega) (k + 1) (upd w (54 + k) (w ((54 + k) + 1))) rfl ⟨by omega, by omega⟩ (by rw [hw]; exact shl_step _ hk.1)
      exact LL _ p (upd z 53 (nI (m - 1))) rfl ⟨Nat.le_refl _, by omega⟩ (by rw [Nat.sub_self]; rfl)

theorem flX5_makeStep_7 : FL wsX5_makeStep RX5 7 5 0 := ⟨RX5, TX5, 18, rfl, by decide, by decide +kernel, by decide +kernel⟩
set_option maxRecDepth 20000 in
theorem cwX5_makeStep_X5_isLook : CWd wsX5_makeStep (wsV RX5 86 RX5 yX5_isLook wsX5_isLook) yX5_isLook wsX5_isLook cX5_isLook 3 (some .boolean) 1 := ⟨gX5_makeStep_X5_isLook, ⟨_, rfl⟩, by decide +kernel, by decide, by decide⟩
set_option maxRecDepth 20000 in
theorem cwX5_makeStep_X5_cost : CWd wsX5_makeStep (wsS RX5 90 yX5_cost wsX5_cost) yX5_cost wsX5_cost cX5_cost 2 (some .int) 2 := ⟨gX5_makeStep_X5_cost, ⟨_, rfl⟩, by decide +kernel, by decide, by decide⟩
set_option maxRecDepth 20000 in
theorem cwX5_makeStep_X5_change : CWd wsX5_makeStep (wsV RX5 94 RX5 yX5_change wsX5_change) yX5_change wsX5_change cX5_change 2 none 1 := ⟨gX5_makeStep_X5_change, ⟨_, rfl⟩, by decide +kernel, by decide, by decide⟩
set_option maxRecDepth 20000 in
theorem cwX5_makeStep_X5_leaveLine : CWd wsX5_makeStep (wsV RX5 97 RX5 yX5_leaveLine wsX5_leaveLine) yX5_leaveLine wsX5_leaveLine cX5_leaveLine 4 none 1 := ⟨gX5_makeStep_X5_leaveLine, ⟨_, rfl⟩, by decide +kernel, by decide, by decide⟩
set_option maxHeartbeats 8000000 in
set_option maxRecDepth 100000 in
theorem kX5_makeStep (G : Gx) (h0 qz : Nat) (fs : List Value) (hfz : fs[0]? = some (.ref qz)) (z : Zf) (v : Nat) (hv : v < 6) (hW : Wf z) : MC G yX5_makeStep wsX5_makeStep ({ frames := 2, cells := 0, slots := 0, locals := 46 } : Room) [.ref h0, .int (nI v)] [(h0, .inr (5, fs)), (qz, aI G 86 z)] (fun v' u' => v' = none ∧ u' = [(h0, .inr (5, fs)), (qz, aI G 86 (stM z v))]) 0 0 := by
  refine mc_of (cc := cX5_makeStep) (maxL := 4) (ret := none) (by decide) rfl (Nat.le_of_ble_eq_true rfl) (fun X h hR hL hRT => ?_)
  refine u_eql (lv' := [(0, .ref h0), (1, .int (nI v))]) rfl ?_
  refine u_aload_n h dX5_makeStep_0 rfl 0 rfl rfl ?_
  refine u_get h flX5_makeStep_7 0 (v := .ref qz) rfl hfz dX5_makeStep_1 rfl ?_
  refine u_iconst (v := 0) h dX5_makeStep_4 (by decide) rfl ?_
  refine u_iload_n h dX5_makeStep_5 rfl 1 rfl rfl ?_
  refine u_iadd (v := (nI v)) h dX5_makeStep_6 (by have h9 := nI_add 0 v; rw [Nat.zero_add] at h9; exact h9) rfl ?_
  refine u_iald h (n := v) 1 rfl (by omega) (by omega) dX5_makeStep_7 rfl ?_
  refine u_istore_n (lv' := [(2, .int (z v)), (0, .ref h0), (1, .int (nI v))]) h dX5_makeStep_8 rfl (by rw [hL]; decide) rfl rfl ?_
  refine u_aload_n h dX5_makeStep_9 rfl 1 rfl rfl ?_
  refine u_iload_n h dX5_makeStep_10 rfl 2 rfl rfl ?_
  refine u_callV h (As := [.int (nI v)]) (wc := [(h0, .inr (5, fs)), (qz, aI G 86 z)]) (wr := []) (kX5_isLook G h0 qz fs hfz z v hv hW) cwX5_makeStep_X5_isLook rfl rfl hR ⟨⟨rfl, rfl⟩, by decide, by decide⟩ ⟨Nat.le_of_ble_eq_true rfl, Nat.le_of_ble_eq_true rfl⟩ (ci := 5) (qr := 0) rfl rfl [0, 1] [] rfl rfl rfl rfl (by decide) (Nat.le_of_ble_eq_true rfl) rfl dX5_makeStep_11 rfl (fun v9 u9 hp9 => ?_)
  obtain ⟨rfl, rfl⟩ := hp9
  refine u_wp (ws' := [(h0, .inr (5, fs)), (qz, aI G 86 z)]) [0, 1] rfl rfl ?_
  refine u_eqs (st' := [.int (bI (isLook z v))]) rfl ?_
  refine u_istore_n (lv' := [(3, .int (bI (isLook z v))), (2, .int (z v)), (0, .ref h0), (1, .int (nI v))]) h dX5_makeStep_14 rfl (by rw [hL]; decide) rfl rfl ?_
  refine u_aload_n h dX5_makeStep_15 rfl 2 rfl rfl ?_
  refine u_get h flX5_makeStep_7 0 (v := .ref qz) rfl hfz dX5_makeStep_16 rfl ?_
  refine u_bipush (v := 62) h dX5_makeStep_19 (by decide) rfl ?_
  refine u_iload_n h dX5_makeStep_21 rfl 3 rfl rfl ?_
  refine u_iadd (v := (nI (62 + v))) h dX5_makeStep_22 (nI_add 62 v) rfl ?_
  refine u_dup2 h dX5_makeStep_23 rfl rfl rfl ?_
  refine u_iald h (n := (62 + v)) 1 rfl (by omega) (by omega) dX5_makeStep_24 rfl ?_
  refine u_iconst (v := 1) h dX5_makeStep_25 (by decide) rfl ?_
  refine u_iadd (v := ((z (62 + v)) + 1)) h dX5_makeStep_26 rfl rfl ?_
  refine u_iast h (n := (62 + v)) (v := ((z (62 + v)) + 1)) 1 rfl (by omega) (by omega) rfl (ws' := [(h0, .inr (5, fs)), (qz, aI G 86 (upd z (62 + v) ((z (62 + v)) + 1)))]) rfl dX5_makeStep_27 rfl ?_
  refine u_aload_n h dX5_makeStep_28 rfl 2 rfl rfl ?_
  refine u_get h flX5_makeStep_7 0 (v := .ref qz) rfl hfz dX5_makeStep_29 rfl ?_
  refine u_bipush (v := 68) h dX5_makeStep_32 (by decide) rfl ?_
  refine u_iload_n h dX5_makeStep_34 rfl 3 rfl rfl ?_
  refine u_iadd (v := (nI (68 + v))) h dX5_makeStep_35 (nI_add 68 v) rfl ?_
  refine u_dup2 h dX5_makeStep_36 rfl rfl rfl ?_
  refine u_iald h (n := (68 + v)) 1 rfl (by omega) (by omega) dX5_makeStep_37 rfl ?_
  refine u_top (y := (z (68 + v))) (by rw [pk_un (by omega)]) ?_
  refine u_iload_n h dX5_makeStep_38 rfl 0 rfl rfl ?_
  have J1 : ∀ x2 : Int32, x2 = (bI (isLook z v)) → U G X 0 0 [(h0, .inr (5, fs)), (qz, aI G 86 (upd z (62 + v) ((z (62 + v)) + 1)))] 47 [(3, .int (bI (isLook z v))), (2, .int (z v)), (0, .ref h0), (1, .int (nI v))] [.int x2, .int (z (68 + v)), .int (nI (68 + v)), .ref qz] := by
    intro x2 e9
    subst e9
    refine u_iadd (v := ((z (68 + v)) + (bI (isLook z v)))) h dX5_makeStep_47 rfl rfl ?_
    refine u_iast h (n := (68 + v)) (v := ((z (68 + v)) + (bI (isLook z v)))) 1 rfl (by omega) (by omega) rfl (ws' := [(h0, .inr (5, fs)), (qz, aI G 86 (upd (upd z (62 + v) ((z (62 + v)) + 1)) (68 + v) ((z (68 + v)) + (bI (isLook z v)))))]) rfl dX5_makeStep_48 rfl ?_
    refine u_aload_n h dX5_makeStep_49 rfl 2 rfl rfl ?_
    refine u_get h flX5_makeStep_7 0 (v := .ref qz) rfl hfz dX5_makeStep_50 rfl ?_
    refine u_bipush (v := 80) h dX5_makeStep_53 (by decide) rfl ?_
    refine u_iload_n h dX5_makeStep_55 rfl 3 rfl rfl ?_
    refine u_iadd (v := (nI (80 + v))) h dX5_makeStep_56 (nI_add 80 v) rfl ?_
    refine u_dup2 h dX5_makeStep_57 rfl rfl rfl ?_
    refine u_iald h (n := (80 + v)) 1 rfl (by omega) (by omega) dX5_makeStep_58 rfl ?_
    refine u_top (y := (z (80 + v))) (by rw [pk_un (by omega), pk_un (by omega)]) ?_
    refine u_aload_n h dX5_makeStep_59 rfl 2 rfl rfl ?_
    refine u_get h flX5_makeStep_7 0 (v := .ref qz) rfl hfz dX5_makeStep_60 rfl ?_
    refine u_bipush (v := 60) h dX5_makeStep_63 (by decide) rfl ?_
    refine u_iald h (n := 60) 1 rfl (by omega) (by omega) dX5_makeStep_65 rfl ?_
    refine u_top (y := (z 60)) (by rw [pk_un (by omega), pk_un (by omega)]) ?_
    refine u_iload_n h dX5_makeStep_66 rfl 1 rfl rfl ?_
    refine u_callS h (As := [.int (z 60), .int (z v)]) (wc := []) (wr := [(h0, .inr (5, fs)), (qz, aI G 86 (upd (upd z (62 + v) ((z (62 + v)) + 1)) (68 + v) ((z (68 + v)) + (bI (isLook z v)))))]) (kX5_cost G (z 60) (z v)) cwX5_makeStep_X5_cost rfl rfl hR ⟨⟨rfl, rfl⟩, by decide, by decide⟩ ⟨Nat.le_of_ble_eq_true rfl, Nat.le_of_ble_eq_true rfl⟩ [] [0, 1] rfl rfl rfl rfl (by decide) (Nat.le_of_ble_eq_true rfl) rfl dX5_makeStep_67 rfl (fun v9 u9 hp9 => ?_)
    obtain ⟨rfl, rfl⟩ := hp9
    refine u_wp (ws' := [(h0, .inr (5, fs)), (qz, aI G 86 (upd (upd z (62 + v) ((z (62 + v)) + 1)) (68 + v) ((z (68 + v)) + (bI (isLook z v)))))]) [0, 1] rfl rfl ?_
    refine u_eqs (st' := [.int (costM (z 60) (z v)), .int (z (80 + v)), .int (nI (80 + v)), .ref qz]) rfl ?_
    refine u_iadd (v := ((z (80 + v)) + (costM (z 60) (z v)))) h dX5_makeStep_70 rfl rfl ?_
    refine u_iast h (n := (80 + v)) (v := ((z (80 + v)) + (costM (z 60) (z v)))) 1 rfl (by omega) (by omega) rfl (ws' := [(h0, .inr (5, fs)), (qz, aI G 86 (upd (upd (upd z (62 + v) ((z (62 + v)) + 1)) (68 + v) ((z (68 + v)) + (bI (isLook z v)))) (80 + v) ((z (80 + v)) + (costM (z 60) (z v)))))]) rfl dX5_makeStep_71 rfl ?_
    refine u_eqw (ws' := [(h0, .inr (5, fs)), (qz, aI G 86 (st3 z v))]) (by simp [st3]) ?_
    refine u_iload_n h dX5_makeStep_72 rfl 0 rfl rfl ?_
    refine u_if_eq_B (tgt := 77) h dX5_makeStep_73 (by decide) rfl (fun c3 => ?_) (fun c3 => ?_)
    · refine u_aload_n h dX5_makeStep_77 rfl 2 rfl rfl ?_
      refine u_iload_n h dX5_makeStep_78 rfl 3 rfl rfl ?_
      refine u_callV h (As := [.int (nI v)]) (wc := [(h0, .inr (5, fs)), (qz, aI G 86 (st3 z v))]) (wr := []) (kX5_change G h0 qz fs hfz (st3 z v) v hv (st3_wf hW)) cwX5_makeStep_X5_change rfl rfl hR ⟨⟨rfl, rfl⟩, by decide, by decide⟩ ⟨Nat.le_of_ble_eq_true rfl, Nat.le_of_ble_eq_true rfl⟩ (ci := 5) (qr := 0) rfl rfl [0, 1] [] rfl rfl rfl rfl (by decide) (Nat.le_of_ble_eq_true rfl) rfl dX5_makeStep_79 rfl (fun v9 u9 hp9 => ?_)
      obtain ⟨rfl, rfl⟩ := hp9
      refine u_wp (ws' := [(h0, .inr (5, fs)), (qz, aI G 86 (chM (st3 z v) v))]) [0, 1] rfl rfl ?_
      refine u_eqs (st' := []) rfl ?_
      obtain ⟨m, hm, h53⟩ := hW.m
      have h4 : chM (st3 z v) v 53 = nI m := by rw [chM_hi (st3_wf hW) hv (by omega), st3_lo (by omega)]; exact h53
      refine u_aload_n h dX5_makeStep_82 rfl 2 rfl rfl ?_
      refine u_get h flX5_makeStep_7 0 (v := .ref qz) rfl hfz dX5_makeStep_83 rfl ?_
      refine u_iconst (v := 0) h dX5_makeStep_86 (by decide) rfl ?_
      refine u_iload_n h dX5_makeStep_87 rfl 3 rfl rfl ?_
      refine u_iadd (v := (nI v)) h dX5_makeStep_88 (by have h9 := nI_add 0 v; rw [Nat.zero_add] at h9; exact h9) rfl ?_
      refine u_iald h (n := v) 1 rfl (by omega) (by omega) dX5_makeStep_89 rfl ?_
      refine u_if_ne (tgt := 111) h dX5_makeStep_90 (by decide) rfl (fun c4 => ?_) (fun c4 => ?_)
      · refine u_eqw (ws' := [(h0, .inr (5, fs)), (qz, aI G 86 (st5 (chM (st3 z v) v) v))]) (by simp [st5, c3, c4]) ?_
        refine u_aload_n h dX5_makeStep_111 rfl 2 rfl rfl ?_
        refine u_get h flX5_makeStep_7 0 (v := .ref qz) rfl hfz dX5_makeStep_112 rfl ?_
        refine u_bipush (v := 60) h dX5_makeStep_115 (by decide) rfl ?_
        refine u_iald h (n := 60) 1 rfl (by omega) (by omega) dX5_makeStep_117 rfl ?_
        refine u_iconst (v := 3) h dX5_makeStep_118 (by decide) rfl ?_
        refine u_icmp_ge (tgt := 166) h dX5_makeStep_119 (by decide) rfl (fun c5 => ?_) (fun c5 => ?_)
        · exact u_vret h hRT dX5_makeStep_166 (by omega) (by omega) (by refine ⟨rfl, ?_⟩; first | (simp [stM, st6, c3, c4, c5, Int32.not_lt.mpr c5]; done) | (exfalso; simp_all; done) | (simp_all [stM, st6, c3, c4, c5, Int32.not_lt.mpr c5]; done))
        · refine u_iload_n h dX5_makeStep_122 rfl 1 rfl rfl ?_
          refine u_iconst (v := 2) h dX5_makeStep_123 (by decide) rfl ?_
          refine u_icmp_ge (tgt := 166) h dX5_makeStep_124 (by decide) rfl (fun c6 => ?_) (fun c6 => ?_)
          · exact u_vret h hRT dX5_makeStep_166 (by omega) (by omega) (by refine ⟨rfl, ?_⟩; first | (simp [stM, st6, c3, c4, c5, Int32.not_le.mp c5, c6, Int32.not_lt.mpr c6]; done) | (exfalso; simp_all; done) | (simp_all [stM, st6, c3, c4, c5, Int32.not_le.mp c5, c6, Int32.not_lt.mpr c6]; done))
          · refine u_aload_n h dX5_makeStep_127 rfl 2 rfl rfl ?_
            refine u_get h flX5_makeStep_7 0 (v := .ref qz) rfl hfz dX5_makeStep_128 rfl ?_
            refine u_iconst (v := 0) h dX5_makeStep_131 (by decide) rfl ?_
            refine u_iload_n h dX5_makeStep_132 rfl 3 rfl rfl ?_
            refine u_iadd (v := (nI v)) h dX5_makeStep_133 (by have h9 := nI_add 0 v; rw [Nat.zero_add] at h9; exact h9) rfl ?_
            refine u_iald h (n := v) 1 rfl (by omega) (by omega) dX5_makeStep_134 rfl ?_
            refine u_iconst (v := 2) h dX5_makeStep_135 (by decide) rfl ?_
            refine u_icmp_lt (tgt := 166) h dX5_makeStep_136 (by decide) rfl (fun c7 => ?_) (fun c7 => ?_)
            · exact u_vret h hRT dX5_makeStep_166 (by omega) (by omega) (by refine ⟨rfl, ?_⟩; first | (simp [stM, st6, c3, c4, c5, Int32.not_le.mp c5, c6, Int32.not_le.mp c6, c7, Int32.not_le.mpr c7]; done) | (exfalso; simp_all; done) | (simp_all [stM, st6, c3, c4, c5, Int32.not_le.mp c5, c6, Int32.not_le.mp c6, c7, Int32.not_le.mpr c7]; done))
            · refine u_aload_n h dX5_makeStep_139 rfl 2 rfl rfl ?_
              refine u_get h flX5_makeStep_7 0 (v := .ref qz) rfl hfz dX5_makeStep_140 rfl ?_
              refine u_bipush (v := 54) h dX5_makeStep_143 (by decide) rfl ?_
              refine u_aload_n h dX5_makeStep_145 rfl 2 rfl rfl ?_
              refine u_get h flX5_makeStep_7 0 (v := .ref qz) rfl hfz dX5_makeStep_146 rfl ?_
              refine u_bipush (v := 53) h dX5_makeStep_149 (by decide) rfl ?_
              refine u_iald h (n := 53) 1 rfl (by omega) (by omega) dX5_makeStep_151 rfl ?_
              obtain ⟨n, hn, e5⟩ := st5_53 hv hm h4
              refine u_top (y := nI n) e5 ?_
              refine u_iadd (v := (nI (54 + n))) h dX5_makeStep_152 (nI_add 54 n) rfl ?_
              refine u_iload_n h dX5_makeStep_153 rfl 3 rfl rfl ?_
              refine u_iast h (n := (54 + n)) (v := (nI v)) 1 rfl (by omega) (by omega) rfl (ws' := [(h0, .inr (5, fs)), (qz, aI G 86 (upd (st5 (chM (st3 z v) v) v) (54 + n) (nI v)))]) rfl dX5_makeStep_154 rfl ?_
              refine u_aload_n h dX5_makeStep_155 rfl 2 rfl rfl ?_
              refine u_get h flX5_makeStep_7 0 (v := .ref qz) rfl hfz dX5_makeStep_156 rfl ?_
              refine u_bipush (v := 53) h dX5_makeStep_159 (by decide) rfl ?_
              refine u_dup2 h dX5_makeStep_161 rfl rfl rfl ?_
              refine u_iald h (n := 53) 1 rfl (by omega) (by omega) dX5_makeStep_162 rfl ?_
              refine u_top (y := ((st5 (chM (st3 z v) v) v) 53)) (by rw [pk_un (by omega)]) ?_
              refine u_iconst (v := 1) h dX5_makeStep_163 (by decide) rfl ?_
              refine u_iadd (v := (((st5 (chM (st3 z v) v) v) 53) + 1)) h dX5_makeStep_164 rfl rfl ?_
              refine u_iast h (n := 53) (v := (((st5 (chM (st3 z v) v) v) 53) + 1)) 1 rfl (by omega) (by omega) rfl (ws' := [(h0, .inr (5, fs)), (qz, aI G 86 (upd (upd (st5 (chM (st3 z v) v) v) (54 + n) (nI v)) 53 (((st5 (chM (st3 z v) v) v) 53) + 1)))]) rfl dX5_makeStep_165 rfl ?_
              exact u_vret h hRT dX5_makeStep_166 (by omega) (by omega) (by refine ⟨rfl, ?_⟩; first | (simp [stM, st6, c3, c4, c5, Int32.not_le.mp c5, c6, Int32.not_le.mp c6, c7, Int32.not_lt.mp c7, e5, ix_nI (show n < 2 ^ 31 by omega)]; done) | (exfalso; simp_all; done) | (simp_all [stM, st6, c3, c4, c5, Int32.not_le.mp c5, c6, Int32.not_le.mp c6, c7, Int32.not_lt.mp c7, e5, ix_nI (show n < 2 ^ 31 by omega)]; done))
      · refine u_aload_n h dX5_makeStep_93 rfl 2 rfl rfl ?_
        refine u_get h flX5_makeStep_7 0 (v := .ref qz) rfl hfz dX5_makeStep_94 rfl ?_
        refine u_bipush (v := 74) h dX5_makeStep_97 (by decide) rfl ?_
        refine u_iload_n h dX5_makeStep_99 rfl 3 rfl rfl ?_
        refine u_iadd (v := (nI (74 + v))) h dX5_makeStep_100 (nI_add 74 v) rfl ?_
        refine u_dup2 h dX5_makeStep_101 rfl rfl rfl ?_
        refine u_iald h (n := (74 + v)) 1 rfl (by omega) (by omega) dX5_makeStep_102 rfl ?_
        refine u_iconst (v := 1) h dX5_makeStep_103 (by decide) rfl ?_
        refine u_iadd (v := (((chM (st3 z v) v) (74 + v)) + 1)) h dX5_makeStep_104 rfl rfl ?_
        refine u_iast h (n := (74 + v)) (v := (((chM (st3 z v) v) (74 + v)) + 1)) 1 rfl (by omega) (by omega) rfl (ws' := [(h0, .inr (5, fs)), (qz, aI G 86 (upd (chM (st3 z v) v) (74 + v) (((chM (st3 z v) v) (74 + v)) + 1)))]) rfl dX5_makeStep_105 rfl ?_
        refine u_aload_n h dX5_makeStep_106 rfl 2 rfl rfl ?_
        refine u_iload_n h dX5_makeStep_107 rfl 3 rfl rfl ?_
        refine u_callV h (As := [.int (nI v)]) (wc := [(h0, .inr (5, fs)), (qz, aI G 86 (upd (chM (st3 z v) v) (74 + v) (((chM (st3 z v) v) (74 + v)) + 1)))]) (wr := []) (kX5_leaveLine G h0 qz fs hfz (upd (chM (st3 z v) v) (74 + v) (((chM (st3 z v) v) (74 + v)) + 1)) v hv m hm (by rw [pk_un (by omega)]; exact h4)) cwX5_makeStep_X5_leaveLine rfl rfl hR ⟨⟨rfl, rfl⟩, by decide, by decide⟩ ⟨Nat.le_of_ble_eq_true rfl, Nat.le_of_ble_eq_true rfl⟩ (ci := 5) (qr := 0) rfl rfl [0, 1] [] rfl rfl rfl rfl (by decide) (Nat.le_of_ble_eq_true rfl) rfl dX5_makeStep_108 rfl (fun v9 u9 hp9 => ?_)
        obtain ⟨rfl, rfl⟩ := hp9
        refine u_wp (ws' := [(h0, .inr (5, fs)), (qz, aI G 86 (lvM (upd (chM (st3 z v) v) (74 + v) (((chM (st3 z v) v) (74 + v)) + 1)) v))]) [0, 1] rfl rfl ?_
        refine u_eqs (st' := []) rfl ?_
        refine u_eqw (ws' := [(h0, .inr (5, fs)), (qz, aI G 86 (st5 (chM (st3 z v) v) v))]) (by simp [st5, c3, c4]) ?_
        refine u_aload_n h dX5_makeStep_111 rfl 2 rfl rfl ?_
        refine u_get h flX5_makeStep_7 0 (v := .ref qz) rfl hfz dX5_makeStep_112 rfl ?_
        refine u_bipush (v := 60) h dX5_makeStep_115 (by decide) rfl ?_
        refine u_iald h (n := 60) 1 rfl (by omega) (by omega) dX5_makeStep_117 rfl ?_
        refine u_iconst (v := 3) h dX5_makeStep_118 (by decide) rfl ?_
        refine u_icmp_ge (tgt := 166) h dX5_makeStep_119 (by decide) rfl (fun c8 => ?_) (fun c8 => ?_)
        · exact u_vret h hRT dX5_makeStep_166 (by omega) (by omega) (by refine ⟨rfl, ?_⟩; first | (simp [stM, st6, c3, c4, c8, Int32.not_lt.mpr c8]; done) | (exfalso; simp_all; done) | (simp_all [stM, st6, c3, c4, c8, Int32.not_lt.mpr c8]; done))
        · refine u_iload_n h dX5_makeStep_122 rfl 1 rfl rfl ?_
          refine u_iconst (v := 2) h dX5_makeStep_123 (by decide) rfl ?_
          refine u_icmp_ge (tgt := 166) h dX5_makeStep_124 (by decide) rfl (fun c9 => ?_) (fun c9 => ?_)
          · exact u_vret h hRT dX5_makeStep_166 (by omega) (by omega) (by refine ⟨rfl, ?_⟩; first | (simp [stM, st6, c3, c4, c8, Int32.not_le.mp c8, c9, Int32.not_lt.mpr c9]; done) | (exfalso; simp_all; done) | (simp_all [stM, st6, c3, c4, c8, Int32.not_le.mp c8, c9, Int32.not_lt.mpr c9]; done))
          · refine u_aload_n h dX5_makeStep_127 rfl 2 rfl rfl ?_
            refine u_get h flX5_makeStep_7 0 (v := .ref qz) rfl hfz dX5_makeStep_128 rfl ?_
            refine u_iconst (v := 0) h dX5_makeStep_131 (by decide) rfl ?_
            refine u_iload_n h dX5_makeStep_132 rfl 3 rfl rfl ?_
            refine u_iadd (v := (nI v)) h dX5_makeStep_133 (by have h9 := nI_add 0 v; rw [Nat.zero_add] at h9; exact h9) rfl ?_
            refine u_iald h (n := v) 1 rfl (by omega) (by omega) dX5_makeStep_134 rfl ?_
            refine u_iconst (v := 2) h dX5_makeStep_135 (by decide) rfl ?_
            refine u_icmp_lt (tgt := 166) h dX5_makeStep_136 (by decide) rfl (fun c10 => ?_) (fun c10 => ?_)
            · exact u_vret h hRT dX5_makeStep_166 (by omega) (by omega) (by refine ⟨rfl, ?_⟩; first | (simp [stM, st6, c3, c4, c8, Int32.not_le.mp c8, c9, Int32.not_le.mp c9, c10, Int32.not_le.mpr c10]; done) | (exfalso; simp_all; done) | (simp_all [stM, st6, c3, c4, c8, Int32.not_le.mp c8, c9, Int32.not_le.mp c9, c10, Int32.not_le.mpr c10]; done))
            · refine u_aload_n h dX5_makeStep_139 rfl 2 rfl rfl ?_
              refine u_get h flX5_makeStep_7 0 (v := .ref qz) rfl hfz dX5_makeStep_140 rfl ?_
              refine u_bipush (v := 54) h dX5_makeStep_143 (by decide) rfl ?_
              refine u_aload_n h dX5_makeStep_145 rfl 2 rfl rfl ?_
              refine u_get h flX5_makeStep_7 0 (v := .ref qz) rfl hfz dX5_makeStep_146 rfl ?_
              refine u_bipush (v := 53) h dX5_makeStep_149 (by decide) rfl ?_
              refine u_iald h (n := 53) 1 rfl (by omega) (by omega) dX5_makeStep_151 rfl ?_
              obtain ⟨n, hn, e5⟩ := st5_53 hv hm h4
              refine u_top (y := nI n) e5 ?_
              refine u_iadd (v := (nI (54 + n))) h dX5_makeStep_152 (nI_add 54 n) rfl ?_
              refine u_iload_n h dX5_makeStep_153 rfl 3 rfl rfl ?_
              refine u_iast h (n := (54 + n)) (v := (nI v)) 1 rfl (by omega) (by omega) rfl (ws' := [(h0, .inr (5, fs)), (qz, aI G 86 (upd (st5 (chM (st3 z v) v) v) (54 + n) (nI v)))]) rfl dX5_makeStep_154 rfl ?_
              refine u_aload_n h dX5_makeStep_155 rfl 2 rfl rfl ?_
              refine u_get h flX5_makeStep_7 0 (v := .ref qz) rfl hfz dX5_makeStep_156 rfl ?_
              refine u_bipush (v := 53) h dX5_makeStep_159 (by decide) rfl ?_
              refine u_dup2 h dX5_makeStep_161 rfl rfl rfl ?_
              refine u_iald h (n := 53) 1 rfl (by omega) (by omega) dX5_makeStep_162 rfl ?_
              refine u_top (y := ((st5 (chM (st3 z v) v) v) 53)) (by rw [pk_un (by omega)]) ?_
              refine u_iconst (v := 1) h dX5_makeStep_163 (by decide) rfl ?_
              refine u_iadd (v := (((st5 (chM (st3 z v) v) v) 53) + 1)) h dX5_makeStep_164 rfl rfl ?_
              refine u_iast h (n := 53) (v := (((st5 (chM (st3 z v) v) v) 53) + 1)) 1 rfl (by omega) (by omega) rfl (ws' := [(h0, .inr (5, fs)), (qz, aI G 86 (upd (upd (st5 (chM (st3 z v) v) v) (54 + n) (nI v)) 53 (((st5 (chM (st3 z v) v) v) 53) + 1)))]) rfl dX5_makeStep_165 rfl ?_
              exact u_vret h hRT dX5_makeStep_166 (by omega) (by omega) (by refine ⟨rfl, ?_⟩; first | (simp [stM, st6, c3, c4, c8, Int32.not_le.mp c8, c9, Int32.not_le.mp c9, c10, Int32.not_lt.mp c10, e5, ix_nI (show n < 2 ^ 31 by omega)]; done) | (exfalso; simp_all; done) | (simp_all [stM, st6, c3, c4, c8, Int32.not_le.mp c8, c9, Int32.not_le.mp c9, c10, Int32.not_lt.mp c10, e5, ix_nI (show n < 2 ^ 31 by omega)]; done))
    · exact u_vret h hRT dX5_makeStep_76 (by omega) (by omega) (by refine ⟨rfl, ?_⟩; simp [stM, c3])
  refine u_if_eq_B (tgt := 46) h dX5_makeStep_39 (by decide) rfl (fun c11 => ?_) (fun c11 => ?_)
  · refine u_iconst (v := 0) h dX5_makeStep_46 (by decide) rfl ?_
    exact J1 _ (by first | (simp [bI, c11]; done) | (exfalso; first | skip))
  · refine u_iconst (v := 1) h dX5_makeStep_42 (by decide) rfl ?_
    refine u_goto (tgt := 47) h dX5_makeStep_43 (by decide) ?_
    exact J1 _ (by first | (simp [bI, c11]; done) | (exfalso; first | skip))
