theorem flX2_openBracket_26 : FL wsX2_openBracket RX2 26 2 4 := ⟨RX2, TX2, 5, rfl, by decide, by decide +kernel, by decide +kernel⟩
theorem flX2_openBracket_15 : FL wsX2_openBracket RX2 15 2 1 := ⟨RX2, TX2, 5, rfl, by decide, by decide +kernel, by decide +kernel⟩
theorem flX2_openBracket_22 : FL wsX2_openBracket RX2 22 2 3 := ⟨RX2, TX2, 5, rfl, by decide, by decide +kernel, by decide +kernel⟩
theorem flX2_openBracket_19 : FL wsX2_openBracket RX2 19 2 2 := ⟨RX2, TX2, 5, rfl, by decide, by decide +kernel, by decide +kernel⟩
theorem fwX2_openBracket_26 : FW wsX2_openBracket RX2 26 2 4 false .int := ⟨RX2, TX2, 5, tyX2, rfl, by decide, by decide +kernel, by decide +kernel, tyX2_ok, nmX2, rfl, by decide +kernel, rfl⟩
set_option maxHeartbeats 8000000 in
set_option maxRecDepth 100000 in
theorem kX2_openBracket (G : Gx) (h0 qp qs qr : Nat) (P d m : Nat) (f sa ra : Zf) (hd : d < 60) : MC G yX2_openBracket wsX2_openBracket ({ frames := 0, cells := 0, slots := 0, locals := 0 } : Room) [.ref h0, .int (nI m)] [(h0, .inr (2, [.ref qp, .ref qs, .ref qr, .int (nI P), .int (nI d)])), (qp, aB G 2000 f), (qs, aI G 60 sa), (qr, aI G 60 ra)] (fun v' u' => v' = none ∧ u' = [(h0, .inr (2, [.ref qp, .ref qs, .ref qr, .int (nI P), .int (nI (d + 1))])), (qp, aB G 2000 f), (qs, aI G 60 (upd sa d (nI P))), (qr, aI G 60 (upd ra d (nI m)))]) 0 0 := by
  refine mc_of (cc := cX2_openBracket) (maxL := 2) (ret := none) (by decide) rfl (Nat.le_of_ble_eq_true rfl) (fun X h hR hL hRT => ?_)
  refine u_eql (lv' := [(0, .ref h0), (1, .int (nI m))]) rfl ?_
  refine u_aload_n h dX2_openBracket_0 rfl 0 rfl rfl ?_
  refine u_get h flX2_openBracket_26 0 (v := .int (nI d)) rfl rfl dX2_openBracket_1 rfl ?_
  refine u_bipush (v := 60) h dX2_openBracket_4 (by decide) rfl ?_
  refine u_icmp_ge_N (a := d) (b := 60) (tgt := 42) h dX2_openBracket_6 (by decide) (by omega) (by omega) rfl (fun c1 => ?_) (fun c1 => ?_)
  · omega
  · refine u_aload_n h dX2_openBracket_9 rfl 0 rfl rfl ?_
    refine u_get h flX2_openBracket_15 0 (v := .ref qs) rfl rfl dX2_openBracket_10 rfl ?_
    refine u_aload_n h dX2_openBracket_13 rfl 0 rfl rfl ?_
    refine u_get h flX2_openBracket_26 0 (v := .int (nI d)) rfl rfl dX2_openBracket_14 rfl ?_
    refine u_aload_n h dX2_openBracket_17 rfl 0 rfl rfl ?_
    refine u_get h flX2_openBracket_22 0 (v := .int (nI P)) rfl rfl dX2_openBracket_18 rfl ?_
    refine u_iast h (n := d) (v := (nI P)) 2 rfl (by omega) (by omega) rfl (ws' := [(h0, .inr (2, [.ref qp, .ref qs, .ref qr, .int (nI P), .int (nI d)])), (qp, aB G 2000 f), (qs, aI G 60 (upd sa d (nI P))), (qr, aI G 60 ra)]) rfl dX2_openBracket_21 rfl ?_
    refine u_aload_n h dX2_openBracket_22 rfl 0 rfl rfl ?_
    refine u_get h flX2_openBracket_19 0 (v := .ref qr) rfl rfl dX2_openBracket_23 rfl ?_
    refine u_aload_n h dX2_openBracket_26 rfl 0 rfl rfl ?_
    refine u_get h flX2_openBracket_26 0 (v := .int (nI d)) rfl rfl dX2_openBracket_27 rfl ?_
    refine u_iload_n h dX2_openBracket_30 rfl 1 rfl rfl ?_
    refine u_iast h (n := d) (v := (nI m)) 3 rfl (by omega) (by omega) rfl (ws' := [(h0, .inr (2, [.ref qp, .ref qs, .ref qr, .int (nI P), .int (nI d)])), (qp, aB G 2000 f), (qs, aI G 60 (upd sa d (nI P))), (qr, aI G 60 (upd ra d (nI m)))]) rfl dX2_openBracket_31 rfl ?_
    refine u_aload_n h dX2_openBracket_32 rfl 0 rfl rfl ?_
    refine u_dup h dX2_openBracket_33 rfl rfl ?_
    refine u_get h flX2_openBracket_26 0 (v := .int (nI d)) rfl rfl dX2_openBracket_34 rfl ?_
    refine u_iconst (v := 1) h dX2_openBracket_37 (by decide) rfl ?_
    refine u_iadd (v := (nI (d + 1))) h dX2_openBracket_38 (nI_add d 1) rfl ?_
    refine u_put h fwX2_openBracket_26 (ws' := [(h0, .inr (2, [.ref qp, .ref qs, .ref qr, .int (nI P), .int (nI (d + 1))])), (qp, aB G 2000 f), (qs, aI G 60 (upd sa d (nI P))), (qr, aI G 60 (upd ra d (nI m)))]) 0 rfl (Nat.le_of_ble_eq_true rfl) rfl rfl rfl dX2_openBracket_39 rfl ?_
    exact u_vret h hRT dX2_openBracket_42 (by omega) (by omega) (by exact ⟨rfl, rfl⟩)

theorem flX2_closeBracket_26 : FL wsX2_closeBracket RX2 26 2 4 := ⟨RX2, TX2, 5, rfl, by decide, by decide +kernel, by decide +kernel⟩
theorem fwX2_closeBracket_26 : FW wsX2_closeBracket RX2 26 2 4 false .int := ⟨RX2, TX2, 5, tyX2, rfl, by decide, by decide +kernel, by decide +kernel, tyX2_ok, nmX2, rfl, by decide +kernel, rfl⟩
theorem flX2_closeBracket_15 : FL wsX2_closeBracket RX2 15 2 1 := ⟨RX2, TX2, 5, rfl, by decide, by decide +kernel, by decide +kernel⟩
theorem flX2_closeBracket_19 : FL wsX2_closeBracket RX2 19 2 2 := ⟨RX2, TX2, 5, rfl, by decide, by decide +kernel, by decide +kernel⟩
set_option maxRecDepth 20000 in
theorem cwX2_closeBracket_X2_repeat : CWd wsX2_closeBracket (wsV RX2 47 RX2 yX2_repeat wsX2_repeat) yX2_repeat wsX2_repeat cX2_repeat 5 (some .boolean) 2 := ⟨gX2_closeBracket_X2_repeat, ⟨_, rfl⟩, by decide +kernel, by decide, by decide⟩
set_option maxHeartbeats 8000000 in
set_option maxRecDepth 100000 in
theorem kX2_closeBracket (G : Gx) (h0 qp qs qr : Nat) (p : List Nat) (f sa ra : Zf) (d s m : Nat) (hd : 0 < d) (hd6 : d ≤ 60) (hP0 : Pl f p) (hs : s ≤ p.length) (hl : p.length ≤ 2000) (hm : 1 ≤ m) (hm9 : m ≤ 9) (hv : ∀ v ∈ p, v < 6) (hsa : sa (d - 1) = nI s) (hra : ra (d - 1) = nI m) : MC G yX2_closeBracket wsX2_closeBracket ({ frames := 2, cells := 0, slots := 0, locals := 54 } : Room) [.ref h0] [(h0, .inr (2, [.ref qp, .ref qs, .ref qr, .int (nI p.length), .int (nI d)])), (qp, aB G 2000 f), (qs, aI G 60 sa), (qr, aI G 60 ra)] (fun v' u' => v' = some (.int (bI (decide (s + (p.length - s) * m ≤ 2000)))) ∧ ∃ f' : Zf, (s + (p.length - s) * m ≤ 2000 → Pl f' (p ++ cpN (p.drop s) (m - 1))) ∧ u' = [(h0, .inr (2, [.ref qp, .ref qs, .ref qr, .int (nI (if s + (p.length - s) * m ≤ 2000 then s + (p.length - s) * m else p.length)), .int (nI (d - 1))])), (qp, aB G 2000 f'), (qs, aI G 60 sa), (qr, aI G 60 ra)]) 0 0 := by
  refine mc_of (cc := cX2_closeBracket) (maxL := 1) (ret := (some .boolean)) (by decide) rfl (Nat.le_of_ble_eq_true rfl) (fun X h hR hL hRT => ?_)
  refine u_eql (lv' := [(0, .ref h0)]) rfl ?_
  refine u_aload_n h dX2_closeBracket_0 rfl 0 rfl rfl ?_
  refine u_get h flX2_closeBracket_26 0 (v := .int (nI d)) rfl rfl dX2_closeBracket_1 rfl ?_
  refine u_iconst (v := 1) h dX2_closeBracket_4 (by decide) rfl ?_
  refine u_icmp_ge_N (a := d) (b := 1) (tgt := 10) h dX2_closeBracket_5 (by decide) (by omega) (by omega) rfl (fun c1 => ?_) (fun c1 => ?_)
  · refine u_aload_n h dX2_closeBracket_10 rfl 0 rfl rfl ?_
    refine u_dup h dX2_closeBracket_11 rfl rfl ?_
    refine u_get h flX2_closeBracket_26 0 (v := .int (nI d)) rfl rfl dX2_closeBracket_12 rfl ?_
    refine u_iconst (v := 1) h dX2_closeBracket_15 (by decide) rfl ?_
    refine u_isub (v := (nI (d - 1))) h dX2_closeBracket_16 (pk_sub (a := d) (b := 1) (by omega)) rfl ?_
    refine u_put h fwX2_closeBracket_26 (ws' := [(h0, .inr (2, [.ref qp, .ref qs, .ref qr, .int (nI p.length), .int (nI (d - 1))])), (qp, aB G 2000 f), (qs, aI G 60 sa), (qr, aI G 60 ra)]) 0 rfl (Nat.le_of_ble_eq_true rfl) rfl rfl rfl dX2_closeBracket_17 rfl ?_
    refine u_aload_n h dX2_closeBracket_20 rfl 0 rfl rfl ?_
    refine u_aload_n h dX2_closeBracket_21 rfl 0 rfl rfl ?_
    refine u_get h flX2_closeBracket_15 0 (v := .ref qs) rfl rfl dX2_closeBracket_22 rfl ?_
    refine u_aload_n h dX2_closeBracket_25 rfl 0 rfl rfl ?_
    refine u_get h flX2_closeBracket_26 0 (v := .int (nI (d - 1))) rfl rfl dX2_closeBracket_26 rfl ?_
    refine u_iald h (n := (d - 1)) 2 rfl (by omega) (by omega) dX2_closeBracket_29 rfl ?_
    refine u_top (y := nI s) hsa ?_
    refine u_aload_n h dX2_closeBracket_30 rfl 0 rfl rfl ?_
    refine u_get h flX2_closeBracket_19 0 (v := .ref qr) rfl rfl dX2_closeBracket_31 rfl ?_
    refine u_aload_n h dX2_closeBracket_34 rfl 0 rfl rfl ?_
    refine u_get h flX2_closeBracket_26 0 (v := .int (nI (d - 1))) rfl rfl dX2_closeBracket_35 rfl ?_
    refine u_iald h (n := (d - 1)) 3 rfl (by omega) (by omega) dX2_closeBracket_38 rfl ?_
    refine u_top (y := nI m) hra ?_
    refine u_callV h (As := [.int (nI s), .int (nI m)]) (wc := [(h0, .inr (2, [.ref qp, .ref qs, .ref qr, .int (nI p.length), .int (nI (d - 1))])), (qp, aB G 2000 f)]) (wr := [(qs, aI G 60 sa), (qr, aI G 60 ra)]) (kX2_repeat G h0 qp qs qr (nI (d - 1)) p f s m hP0 hs hl hm hm9 hv) cwX2_closeBracket_X2_repeat rfl rfl hR ⟨⟨rfl, rfl⟩, by decide, by decide⟩ ⟨Nat.le_of_ble_eq_true rfl, Nat.le_of_ble_eq_true rfl⟩ (ci := 2) (qr := 0) rfl rfl [0, 1] [2, 3] rfl rfl rfl rfl (by decide) (Nat.le_of_ble_eq_true rfl) rfl dX2_closeBracket_39 rfl (fun v9 u9 hp9 => ?_)
    obtain ⟨rfl, f2, hf2, rfl⟩ := hp9
    refine u_wp (ws' := [(h0, .inr (2, [.ref qp, .ref qs, .ref qr, .int (nI (if s + (p.length - s) * m ≤ 2000 then s + (p.length - s) * m else p.length)), .int (nI (d - 1))])), (qp, aB G 2000 f2), (qs, aI G 60 sa), (qr, aI G 60 ra)]) [2, 3, 0, 1] rfl rfl ?_
    refine u_eqs (st' := [.int (bI (decide (s + (p.length - s) * m ≤ 2000)))]) rfl ?_
    exact u_zret h hRT dX2_closeBracket_42 (bI_nar _) (by omega) (by omega) (by exact ⟨rfl, f2, hf2, rfl⟩)
  · omega

theorem flX2_append_22 : FL wsX2_append RX2 22 2 3 := ⟨RX2, TX2, 5, rfl, by decide, by decide +kernel, by decide +kernel⟩
theorem flX2_append_9 : FL wsX2_append RX2 9 2 0 := ⟨RX2, TX2, 5, rfl, by decide, by decide +kernel, by decide +kernel⟩
theorem fwX2_append_22 : FW wsX2_append RX2 22 2 3 false .int := ⟨RX2, TX2, 5, tyX2, rfl, by decide, by decide +kernel, by decide +kernel, tyX2_ok, nmX2, rfl, by decide +kernel, rfl⟩
set_option maxRecDepth 20000 in
theorem cwX2_append_X2_isLetter : CWd wsX2_append (wsS RX2 29 yX2_isLetter wsX2_isLetter) yX2_isLetter wsX2_isLetter cX2_isLetter 1 (some .boolean) 1 := ⟨gX2_append_X2_isLetter, ⟨_, rfl⟩, by decide +kernel, by decide, by decide⟩
set_option maxHeartbeats 8000000 in
set_option maxRecDepth 100000 in
theorem kX2_append (G : Gx) (h0 qp qs qr : Nat) (dp : Int32) (P : Nat) (f : Zf) (x : Int32) (v : Nat) (hv : v < 6) (hlt : isLt x = true) (hc : x - 97 = nI v) (hP : P ≤ 2000) : MC G yX2_append wsX2_append ({ frames := 1, cells := 0, slots := 0, locals := 20 } : Room) [.ref h0, .int x] [(h0, .inr (2, [.ref qp, .ref qs, .ref qr, .int (nI P), .int dp])), (qp, aB G 2000 f)] (fun v' u' => v' = some (.int (bI (decide (P < 2000)))) ∧ u' = [(h0, .inr (2, [.ref qp, .ref qs, .ref qr, .int (nI (if P < 2000 then P + 1 else P)), .int dp])), (qp, aB G 2000 (if P < 2000 then upd f P (nI v) else f))]) 0 0 := by
  refine mc_of (cc := cX2_append) (maxL := 2) (ret := (some .boolean)) (by decide) rfl (Nat.le_of_ble_eq_true rfl) (fun X h hR hL hRT => ?_)
  refine u_eql (lv' := [(0, .ref h0), (1, .int x)]) rfl ?_
  refine u_aload_n h dX2_append_0 rfl 0 rfl rfl ?_
  refine u_get h flX2_append_22 0 (v := .int (nI P)) rfl rfl dX2_append_1 rfl ?_
  refine u_sipush (v := 2000) h dX2_append_4 (by decide) rfl ?_
  refine u_icmp_ge_N (a := P) (b := 2000) (tgt := 17) h dX2_append_7 (by decide) (by omega) (by omega) rfl (fun c1 => ?_) (fun c1 => ?_)
  · refine u_iconst (v := 0) h dX2_append_17 (by decide) rfl ?_
    exact u_zret h hRT dX2_append_18 rfl (by omega) (by omega) (by exact ⟨by rw [decide_eq_false (by omega)]; rfl, by rw [if_neg (by omega), if_neg (by omega)]⟩)
  · refine u_iload_n h dX2_append_10 rfl 1 rfl rfl ?_
    refine u_callS h (As := [.int x]) (wc := []) (wr := [(h0, .inr (2, [.ref qp, .ref qs, .ref qr, .int (nI P), .int dp])), (qp, aB G 2000 f)]) (kX2_isLetter G x) cwX2_append_X2_isLetter rfl rfl hR ⟨⟨rfl, rfl⟩, by decide, by decide⟩ ⟨Nat.le_of_ble_eq_true rfl, Nat.le_of_ble_eq_true rfl⟩ [] [0, 1] rfl rfl rfl rfl (by decide) (Nat.le_of_ble_eq_true rfl) rfl dX2_append_11 rfl (fun v9 u9 hp9 => ?_)
    obtain ⟨rfl, rfl⟩ := hp9
    refine u_wp (ws' := [(h0, .inr (2, [.ref qp, .ref qs, .ref qr, .int (nI P), .int dp])), (qp, aB G 2000 f)]) [0, 1] rfl rfl ?_
    refine u_eqs (st' := [.int (bI (isLt x))]) rfl ?_
    refine u_if_ne_B (tgt := 19) h dX2_append_14 (by decide) rfl (fun c2 => ?_) (fun c2 => ?_)
    · refine u_aload_n h dX2_append_19 rfl 0 rfl rfl ?_
      refine u_get h flX2_append_9 0 (v := .ref qp) rfl rfl dX2_append_20 rfl ?_
      refine u_aload_n h dX2_append_23 rfl 0 rfl rfl ?_
      refine u_get h flX2_append_22 0 (v := .int (nI P)) rfl rfl dX2_append_24 rfl ?_
      refine u_iload_n h dX2_append_27 rfl 1 rfl rfl ?_
      refine u_bipush (v := 97) h dX2_append_28 (by decide) rfl ?_
      refine u_isub (v := (x - 97)) h dX2_append_30 rfl rfl ?_
      refine u_i2b (v := (nI v)) h dX2_append_31 (by rw [hc]; exact (i2b_v hv).1) rfl ?_
      refine u_bast h (n := P) (v := (nI v)) 1 rfl (by omega) (by omega) (i2b_v hv).2 (ws' := [(h0, .inr (2, [.ref qp, .ref qs, .ref qr, .int (nI P), .int dp])), (qp, aB G 2000 (upd f P (nI v)))]) rfl dX2_append_32 rfl ?_
      refine u_aload_n h dX2_append_33 rfl 0 rfl rfl ?_
      refine u_dup h dX2_append_34 rfl rfl ?_
      refine u_get h flX2_append_22 0 (v := .int (nI P)) rfl rfl dX2_append_35 rfl ?_
      refine u_iconst (v := 1) h dX2_append_38 (by decide) rfl ?_
      refine u_iadd (v := (nI (P + 1))) h dX2_append_39 (nI_add P 1) rfl ?_
      refine u_put h fwX2_append_22 (ws' := [(h0, .inr (2, [.ref qp, .ref qs, .ref qr, .int (nI (P + 1)), .int dp])), (qp, aB G 2000 (upd f P (nI v)))]) 0 rfl (Nat.le_of_ble_eq_true rfl) rfl rfl rfl dX2_append_40 rfl ?_
      refine u_iconst (v := 1) h dX2_append_43 (by decide) rfl ?_
      exact u_zret h hRT dX2_append_44 rfl (by omega) (by omega) (by exact ⟨by rw [decide_eq_true (by omega)]; rfl, by rw [if_pos (by omega), if_pos (by omega)]⟩)
    · exact absurd hlt (by rw [c2]; decide)

theorem flX2_visitorAt_22 : FL wsX2_visitorAt RX2 22 2 3 := ⟨RX2, TX2, 5, rfl, by decide, by decide +kernel, by decide +kernel⟩
theorem flX2_visitorAt_9 : FL wsX2_visitorAt RX2 9 2 0 := ⟨RX2, TX2, 5, rfl, by decide, by decide +kernel, by decide +kernel⟩
set_option maxHeartbeats 8000000 in
set_option maxRecDepth 100000 in
theorem kX2_visitorAt (G : Gx) (h0 qp qs qr : Nat) (dp : Int32) (P : Nat) (f : Zf) (i v : Nat) (hi : i < P) (hP : P ≤ 2000) (hf : f i = nI v) : MC G yX2_visitorAt wsX2_visitorAt ({ frames := 0, cells := 0, slots := 0, locals := 0 } : Room) [.ref h0, .int (nI i)] [(h0, .inr (2, [.ref qp, .ref qs, .ref qr, .int (nI P), .int dp])), (qp, aB G 2000 f)] (fun v' u' => v' = some (.int (nI v)) ∧ u' = [(h0, .inr (2, [.ref qp, .ref qs, .ref qr, .int (nI P), .int dp])), (qp, aB G 2000 f)]) 0 0 := by
  refine mc_of (cc := cX2_visitorAt) (maxL := 2) (ret := (some .int)) (by decide) rfl (Nat.le_of_ble_eq_true rfl) (fun X h hR hL hRT => ?_)
  refine u_eql (lv' := [(0, .ref h0), (1, .int (nI i))]) rfl ?_
  refine u_iload_n h dX2_visitorAt_0 rfl 1 rfl rfl ?_
  refine u_if_lt_N (a := i) (tgt := 21) h dX2_visitorAt_1 (by decide) (by omega) rfl (fun c1 => ?_) (fun c1 => ?_)
  · omega
  · refine u_iload_n h dX2_visitorAt_4 rfl 1 rfl rfl ?_
    refine u_aload_n h dX2_visitorAt_5 rfl 0 rfl rfl ?_
    refine u_get h flX2_visitorAt_22 0 (v := .int (nI P)) rfl rfl dX2_visitorAt_6 rfl ?_
    refine u_icmp_ge_N (a := i) (b := P) (tgt := 21) h dX2_visitorAt_9 (by decide) (by omega) (by omega) rfl (fun c2 => ?_) (fun c2 => ?_)
    · omega
    · refine u_aload_n h dX2_visitorAt_12 rfl 0 rfl rfl ?_
      refine u_get h flX2_visitorAt_9 0 (v := .ref qp) rfl rfl dX2_visitorAt_13 rfl ?_
      refine u_iload_n h dX2_visitorAt_16 rfl 1 rfl rfl ?_
      refine u_bald h (n := i) 1 rfl (by omega) (by omega) dX2_visitorAt_17 rfl ?_
      refine u_goto (tgt := 22) h dX2_visitorAt_18 (by decide) ?_
      exact u_iret h hRT dX2_visitorAt_22 (by omega) (by omega) (by exact ⟨by rw [hf], rfl⟩)
