/-- the trial's lock behind a step of v from row i, and the back it has then -/
def xW (Z : Nat → Zf) (i v : Nat) : Zf := if isLook (Z i) v = true then Z i else chM (Z i) v
def xb (Z : Nat → Zf) (bk : Zf) (i v : Nat) (bt : Int32) : Int32 := if xW Z i v v = 0 then bk i ||| bt else bk i
noncomputable def foC (Z : Nat → Zf) (bk : Zf) (n i v : Nat) (bt : Int32) : Bool := decide (bk i &&& bt = 0) && !xHas Z bk (xW Z i v) (xb Z bk i v bt) n
noncomputable def foN (Z : Nat → Zf) (bk : Zf) (n i v : Nat) (bt : Int32) : Nat := if foC Z bk n i v bt = true then xn n else n
noncomputable def foZ (Z : Nat → Zf) (bk : Zf) (n i v : Nat) (bt : Int32) : Nat → Zf := if foC Z bk n i v bt = true then xZ Z n (xW Z i v) else Z
noncomputable def foB (Z : Nat → Zf) (bk : Zf) (n i v : Nat) (bt : Int32) : Zf := if foC Z bk n i v bt = true then xB bk n (xb Z bk i v bt) else bk
noncomputable def foK (Z : Nat → Zf) (bk : Zf) (n i v : Nat) (bt : Int32) : Bool := !foC Z bk n i v bt || decide (n < 300)
theorem foN_le {Z : Nat → Zf} {bk : Zf} {n i v : Nat} {bt : Int32} (h : n ≤ 300) : n ≤ foN Z bk n i v bt ∧ foN Z bk n i v bt ≤ 300 := by
  unfold foN
  split
  · exact xn_le h
  · omega

theorem flX0_found_26 : FL wsX0_found RX0 26 0 3 := ⟨RX0, TX0, 4, rfl, by decide, by decide +kernel, by decide +kernel⟩
set_option maxHeartbeats 8000000 in
set_option maxRecDepth 100000 in
theorem kX0_found (G : Gx) (h0 ql qb qt n : Nat) : MC G yX0_found wsX0_found ({ frames := 0, cells := 0, slots := 0, locals := 0 } : Room) [.ref h0] [(h0, .inr (0, [.ref ql, .ref qb, .ref qt, .int (nI n)]))] (fun v' u' => v' = some (.int (nI n)) ∧ u' = [(h0, .inr (0, [.ref ql, .ref qb, .ref qt, .int (nI n)]))]) 0 0 := by
  refine mc_of (cc := cX0_found) (maxL := 1) (ret := (some .int)) (by decide) rfl (Nat.le_of_ble_eq_true rfl) (fun X h hR hL hRT => ?_)
  refine u_eql (lv' := [(0, .ref h0)]) rfl ?_
  refine u_aload_n h dX0_found_0 rfl 0 rfl rfl ?_
  refine u_get h flX0_found_26 0 (v := .int (nI n)) rfl rfl dX0_found_1 rfl ?_
  exact u_iret h hRT dX0_found_4 (by omega) (by omega) (by exact ⟨rfl, rfl⟩)

theorem flX0_append_26 : FL wsX0_append RX0 26 0 3 := ⟨RX0, TX0, 4, rfl, by decide, by decide +kernel, by decide +kernel⟩
theorem flX0_append_13 : FL wsX0_append RX0 13 0 0 := ⟨RX0, TX0, 4, rfl, by decide, by decide +kernel, by decide +kernel⟩
theorem flX0_append_22 : FL wsX0_append RX0 22 0 2 := ⟨RX0, TX0, 4, rfl, by decide, by decide +kernel, by decide +kernel⟩
theorem flX0_append_17 : FL wsX0_append RX0 17 0 1 := ⟨RX0, TX0, 4, rfl, by decide, by decide +kernel, by decide +kernel⟩
theorem fwX0_append_26 : FW wsX0_append RX0 26 0 3 false .int := ⟨RX0, TX0, 4, tyX0, rfl, by decide, by decide +kernel, by decide +kernel, tyX0_ok, nmX0, rfl, by decide +kernel, rfl⟩
theorem nwX0_append_11 : NW wsX0_append RX0 11 1 1 [.null] := ⟨RX1, TX1, tyX1, rfl, by decide +kernel, tyX1_ok, by decide, by decide +kernel, by decide +kernel, by decide +kernel⟩
set_option maxRecDepth 20000 in
theorem cwX0_append_X1_copyFrom : CWd wsX0_append (wsV RX0 30 RX1 yX1_copyFrom wsX1_copyFrom) yX1_copyFrom wsX1_copyFrom cX1_copyFrom 2 none 1 := ⟨gX0_append_X1_copyFrom, ⟨_, rfl⟩, by decide +kernel, by decide, by decide⟩
set_option maxRecDepth 20000 in
theorem cwX0_append_X1_init : CWd wsX0_append wsX1_init yX1_init wsX1_init cX1_init 1 none 0 := ⟨gX0_append_X1_init, ⟨_, rfl⟩, by decide +kernel, by decide, by decide⟩
set_option maxHeartbeats 8000000 in
set_option maxRecDepth 100000 in
theorem kX0_append (G : Gx) (h0 ql qb qt qw : Nat) (pl pc : Nat → Nat) (Z : Nat → Zf) (bk w : Zf) (n K : Nat) (hnK : n ≤ K) (hK : K ≤ 300) (b : Int32) : MC G yX0_append wsX0_append ({ frames := 2, cells := 2 * (max K (xn n) - K), slots := 55 * (max K (xn n) - K), locals := 51 } : Room) [.ref h0, .int b] ([(h0, .inr (0, [.ref ql, .ref qb, .ref qt, .int (nI n)])), (ql, aL G 300 (fL pl K)), (qb, aI G 300 bk), (qt, .inr (1, [.ref qw])), (qw, aI G 54 (encC w))] ++ pool G pl pc Z K) (fun v' u' => v' = some (.int (bI (decide (n < 300)))) ∧ ∃ pl' pc' : Nat → Nat, u' = [(h0, .inr (0, [.ref ql, .ref qb, .ref qt, .int (nI (xn n))])), (ql, aL G 300 (fL pl' (max K (xn n)))), (qb, aI G 300 (xB bk n b)), (qt, .inr (1, [.ref qw])), (qw, aI G 54 (encC w))] ++ pool G pl' pc' (xZ Z n w) (max K (xn n))) (2 * (max K (xn n) - K)) (55 * (max K (xn n) - K)) := by
  refine mc_of (cc := cX0_append) (maxL := 2) (ret := (some .boolean)) (by decide) rfl (Nat.le_of_ble_eq_true rfl) (fun X h hR hL hRT => ?_)
  refine u_eql (lv' := [(0, .ref h0), (1, .int b)]) rfl ?_
  refine u_aload_n h dX0_append_0 rfl 0 rfl rfl ?_
  refine u_get h flX0_append_26 0 (v := .int (nI n)) rfl rfl dX0_append_1 rfl ?_
  refine u_sipush (v := 300) h dX0_append_4 (by decide) rfl ?_
  refine u_icmp_lt_N (a := n) (b := 300) (tgt := 12) h dX0_append_7 (by decide) (by omega) (by omega) rfl (fun c1 => ?_) (fun c1 => ?_)
  · have hxn : xn n = n + 1 := if_pos c1
    by_cases hk : n < K
    · have hmx : max K (xn n) = K := by omega
      refine u_aload_n h dX0_append_12 rfl 0 rfl rfl ?_
      refine u_get h flX0_append_13 0 (v := .ref ql) rfl rfl dX0_append_13 rfl ?_
      refine u_aload_n h dX0_append_16 rfl 0 rfl rfl ?_
      refine u_get h flX0_append_26 0 (v := .int (nI n)) rfl rfl dX0_append_17 rfl ?_
      refine u_lald h (n := n) 1 rfl (by omega) (by omega) (v := .ref (pl n)) (by rw [fL_lt hk]; rfl) dX0_append_20 rfl ?_
      refine u_ifnonnull (tgt := 40) h dX0_append_21 (by decide) ?_
      refine u_perm (ws' := [(h0, .inr (0, [.ref ql, .ref qb, .ref qt, .int (nI n)])), (ql, aL G 300 (fL pl K)), (qb, aI G 300 bk), (qt, .inr (1, [.ref qw])), (qw, aI G 54 (encC w)), ((pl n), .inr (1, [.ref (pc n)])), ((pc n), aI G 54 (encC (Z n)))] ++ poolx G pl pc Z n K) (perm_tail [(h0, .inr (0, [.ref ql, .ref qb, .ref qt, .int (nI n)])), (ql, aL G 300 (fL pl K)), (qb, aI G 300 bk), (qt, .inr (1, [.ref qw])), (qw, aI G 54 (encC w))] (pool_perm hk)) ?_
      refine u_aload_n h dX0_append_40 rfl 0 rfl rfl ?_
      refine u_get h flX0_append_13 0 (v := .ref ql) rfl rfl dX0_append_41 rfl ?_
      refine u_aload_n h dX0_append_44 rfl 0 rfl rfl ?_
      refine u_get h flX0_append_26 0 (v := .int (nI n)) rfl rfl dX0_append_45 rfl ?_
      refine u_lald h (n := n) 1 rfl (by omega) (by omega) (v := .ref (pl n)) (by rw [fL_lt hk]; rfl) dX0_append_48 rfl ?_
      refine u_aload_n h dX0_append_49 rfl 0 rfl rfl ?_
      refine u_get h flX0_append_22 0 (v := .ref qt) rfl rfl dX0_append_50 rfl ?_
      refine u_wpT (W := [(h0, .inr (0, [.ref ql, .ref qb, .ref qt, .int (nI n)])), (ql, aL G 300 (fL pl K)), (qb, aI G 300 bk), (qt, .inr (1, [.ref qw])), (qw, aI G 54 (encC w)), ((pl n), .inr (1, [.ref (pc n)])), ((pc n), aI G 54 (encC (Z n)))]) (W' := [((pl n), .inr (1, [.ref (pc n)])), ((pc n), aI G 54 (encC (Z n))), (qt, .inr (1, [.ref qw])), (qw, aI G 54 (encC w)), (h0, .inr (0, [.ref ql, .ref qb, .ref qt, .int (nI n)])), (ql, aL G 300 (fL pl K)), (qb, aI G 300 bk)]) (T := poolx G pl pc Z n K) [5, 6, 3, 4, 0, 1, 2] rfl rfl ?_
      refine u_eqw (ws' := [((pl n), .inr (1, [.ref (pc n)])), ((pc n), aI G 54 (encC (Z n))), (qt, .inr (1, [.ref qw])), (qw, aI G 54 (encC w))] ++ ([(h0, .inr (0, [.ref ql, .ref qb, .ref qt, .int (nI n)])), (ql, aL G 300 (fL pl K)), (qb, aI G 300 bk)] ++ poolx G pl pc Z n K)) rfl ?_
      refine u_callVA h (As := [.ref qt]) (wc := [((pl n), .inr (1, [.ref (pc n)])), ((pc n), aI G 54 (encC (Z n))), (qt, .inr (1, [.ref qw])), (qw, aI G 54 (encC w))]) (wr := [(h0, .inr (0, [.ref ql, .ref qb, .ref qt, .int (nI n)])), (ql, aL G 300 (fL pl K)), (qb, aI G 300 bk)] ++ poolx G pl pc Z n K) (kX1_copyFrom G (pl n) (pc n) qt qw (Z n) w) cwX0_append_X1_copyFrom rfl rfl hR ⟨⟨rfl, rfl⟩, Nat.le_of_ble_eq_true rfl, Nat.le_of_ble_eq_true rfl⟩ ⟨Nat.zero_le _, Nat.zero_le _⟩ (ci := 1) (qr := 0) rfl rfl (Nat.le_of_ble_eq_true rfl) rfl dX0_append_53 rfl (fun v9 u9 hp9 => ?_)
      obtain ⟨rfl, rfl⟩ := hp9
      refine u_eqw (ws' := [((pl n), .inr (1, [.ref (pc n)])), ((pc n), aI G 54 (encC w)), (qt, .inr (1, [.ref qw])), (qw, aI G 54 (encC w)), (h0, .inr (0, [.ref ql, .ref qb, .ref qt, .int (nI n)])), (ql, aL G 300 (fL pl K)), (qb, aI G 300 bk)] ++ poolx G pl pc Z n K) rfl ?_
      refine u_eqc (cells' := 0) (slots' := 0) (Nat.add_zero _) (Nat.add_zero _) ?_
      refine u_wpT (W := [((pl n), .inr (1, [.ref (pc n)])), ((pc n), aI G 54 (encC w)), (qt, .inr (1, [.ref qw])), (qw, aI G 54 (encC w)), (h0, .inr (0, [.ref ql, .ref qb, .ref qt, .int (nI n)])), (ql, aL G 300 (fL pl K)), (qb, aI G 300 bk)]) (W' := [(h0, .inr (0, [.ref ql, .ref qb, .ref qt, .int (nI n)])), (ql, aL G 300 (fL pl K)), (qb, aI G 300 bk), (qt, .inr (1, [.ref qw])), (qw, aI G 54 (encC w)), ((pl n), .inr (1, [.ref (pc n)])), ((pc n), aI G 54 (encC w))]) (T := poolx G pl pc Z n K) [4, 5, 6, 2, 3, 0, 1] rfl rfl ?_
      refine u_eqs (st' := []) rfl ?_
      refine u_aload_n h dX0_append_56 rfl 0 rfl rfl ?_
      refine u_get h flX0_append_17 0 (v := .ref qb) rfl rfl dX0_append_57 rfl ?_
      refine u_aload_n h dX0_append_60 rfl 0 rfl rfl ?_
      refine u_get h flX0_append_26 0 (v := .int (nI n)) rfl rfl dX0_append_61 rfl ?_
      refine u_iload_n h dX0_append_64 rfl 1 rfl rfl ?_
      refine u_iast h (n := n) (v := b) 2 rfl (by omega) (by omega) rfl (ws' := [(h0, .inr (0, [.ref ql, .ref qb, .ref qt, .int (nI n)])), (ql, aL G 300 (fL pl K)), (qb, aI G 300 (upd bk n b)), (qt, .inr (1, [.ref qw])), (qw, aI G 54 (encC w)), ((pl n), .inr (1, [.ref (pc n)])), ((pc n), aI G 54 (encC w))] ++ poolx G pl pc Z n K) rfl dX0_append_65 rfl ?_
      refine u_aload_n h dX0_append_66 rfl 0 rfl rfl ?_
      refine u_dup h dX0_append_67 rfl rfl ?_
      refine u_get h flX0_append_26 0 (v := .int (nI n)) rfl rfl dX0_append_68 rfl ?_
      refine u_iconst (v := 1) h dX0_append_71 (by decide) rfl ?_
      refine u_iadd (v := (nI (n + 1))) h dX0_append_72 (nI_add n 1) rfl ?_
      refine u_put h fwX0_append_26 (ws' := [(h0, .inr (0, [.ref ql, .ref qb, .ref qt, .int (nI (n + 1))])), (ql, aL G 300 (fL pl K)), (qb, aI G 300 (upd bk n b)), (qt, .inr (1, [.ref qw])), (qw, aI G 54 (encC w)), ((pl n), .inr (1, [.ref (pc n)])), ((pc n), aI G 54 (encC w))] ++ poolx G pl pc Z n K) 0 rfl (Nat.le_of_ble_eq_true rfl) rfl rfl rfl dX0_append_73 rfl ?_
      refine u_perm (ws' := [(h0, .inr (0, [.ref ql, .ref qb, .ref qt, .int (nI (n + 1))])), (ql, aL G 300 (fL pl K)), (qb, aI G 300 (upd bk n b)), (qt, .inr (1, [.ref qw])), (qw, aI G 54 (encC w))] ++ pool G pl pc (updZ Z n w) K) (perm_tail [(h0, .inr (0, [.ref ql, .ref qb, .ref qt, .int (nI (n + 1))])), (ql, aL G 300 (fL pl K)), (qb, aI G 300 (upd bk n b)), (qt, .inr (1, [.ref qw])), (qw, aI G 54 (encC w))] (pool_set hk).symm) ?_
      refine u_iconst (v := 1) h dX0_append_76 (by decide) rfl ?_
      exact u_zret h hRT dX0_append_77 rfl (by omega) (by omega) (by exact ⟨by rw [decide_eq_true c1]; rfl, pl, pc, by rw [hmx, hxn, xZ, xB, if_pos c1, if_pos c1]⟩)
    · have hKn : K = n := by omega
      have hmx : max K (xn n) = n + 1 := by omega
      refine u_aload_n h dX0_append_12 rfl 0 rfl rfl ?_
      refine u_get h flX0_append_13 0 (v := .ref ql) rfl rfl dX0_append_13 rfl ?_
      refine u_aload_n h dX0_append_16 rfl 0 rfl rfl ?_
      refine u_get h flX0_append_26 0 (v := .int (nI n)) rfl rfl dX0_append_17 rfl ?_
      refine u_lald h (n := n) 1 rfl (by omega) (by omega) (v := .null) (by rw [fL_ge (Nat.not_lt.mp hk)]; rfl) dX0_append_20 rfl ?_
      refine u_ifnonnullN h dX0_append_21 rfl ?_
      refine u_aload_n h dX0_append_24 rfl 0 rfl rfl ?_
      refine u_get h flX0_append_13 0 (v := .ref ql) rfl rfl dX0_append_25 rfl ?_
      refine u_aload_n h dX0_append_28 rfl 0 rfl rfl ?_
      refine u_get h flX0_append_26 0 (v := .int (nI n)) rfl rfl dX0_append_29 rfl ?_
      refine u_new h nwX0_append_11 hR (by show 0 + 1 ≤ 2 * (max K (xn n) - K); omega) (by show 0 + 1 ≤ 55 * (max K (xn n) - K); omega) dX0_append_32 rfl (fun q2 => ?_)
      refine u_perm (ws' := [(h0, .inr (0, [.ref ql, .ref qb, .ref qt, .int (nI n)])), (ql, aL G 300 (fL pl K)), (qb, aI G 300 bk), (qt, .inr (1, [.ref qw])), (qw, aI G 54 (encC w)), (q2, .inr (1, [.null]))] ++ pool G pl pc Z K) (perm_mid [(h0, .inr (0, [.ref ql, .ref qb, .ref qt, .int (nI n)])), (ql, aL G 300 (fL pl K)), (qb, aI G 300 bk), (qt, .inr (1, [.ref qw])), (qw, aI G 54 (encC w))] (pool G pl pc Z K) [(q2, .inr (1, [.null]))]) ?_
      refine u_eqc (cells' := 0 + 1) (slots' := 0 + 1) rfl rfl ?_
      refine u_dup h dX0_append_35 rfl rfl ?_
      refine u_wpT (W := [(h0, .inr (0, [.ref ql, .ref qb, .ref qt, .int (nI n)])), (ql, aL G 300 (fL pl K)), (qb, aI G 300 bk), (qt, .inr (1, [.ref qw])), (qw, aI G 54 (encC w)), (q2, .inr (1, [.null]))]) (W' := [(q2, .inr (1, [.null])), (h0, .inr (0, [.ref ql, .ref qb, .ref qt, .int (nI n)])), (ql, aL G 300 (fL pl K)), (qb, aI G 300 bk), (qt, .inr (1, [.ref qw])), (qw, aI G 54 (encC w))]) (T := pool G pl pc Z K) [5, 0, 1, 2, 3, 4] rfl rfl ?_
      refine u_eqw (ws' := [(q2, .inr (1, [.null]))] ++ ([(h0, .inr (0, [.ref ql, .ref qb, .ref qt, .int (nI n)])), (ql, aL G 300 (fL pl K)), (qb, aI G 300 bk), (qt, .inr (1, [.ref qw])), (qw, aI G 54 (encC w))] ++ pool G pl pc Z K)) rfl ?_
      refine u_callIA h (As := []) (wc := [(q2, .inr (1, [.null]))]) (wr := [(h0, .inr (0, [.ref ql, .ref qb, .ref qt, .int (nI n)])), (ql, aL G 300 (fL pl K)), (qb, aI G 300 bk), (qt, .inr (1, [.ref qw])), (qw, aI G 54 (encC w))] ++ pool G pl pc Z K) (kX1_init G q2) cwX0_append_X1_init rfl (by decide +kernel) (by decide +kernel) (by decide +kernel) rfl hR ⟨⟨rfl, rfl⟩, Nat.le_of_ble_eq_true rfl, Nat.le_of_ble_eq_true rfl⟩ ⟨by show 0 + 1 + 1 ≤ 2 * (max K (xn n) - K); omega, by show 0 + 1 + 54 ≤ 55 * (max K (xn n) - K); omega⟩ (Nat.le_of_ble_eq_true rfl) rfl dX0_append_36 rfl (fun v9 u9 hp9 => ?_)
      obtain ⟨rfl, q3, rfl⟩ := hp9
      refine u_eqw (ws' := [(q2, .inr (1, [.ref q3])), (q3, aI G 54 (encC zI)), (h0, .inr (0, [.ref ql, .ref qb, .ref qt, .int (nI n)])), (ql, aL G 300 (fL pl K)), (qb, aI G 300 bk), (qt, .inr (1, [.ref qw])), (qw, aI G 54 (encC w))] ++ pool G pl pc Z K) rfl ?_
      refine u_eqc (cells' := 2) (slots' := 55) rfl rfl ?_
      refine u_wpT (W := [(q2, .inr (1, [.ref q3])), (q3, aI G 54 (encC zI)), (h0, .inr (0, [.ref ql, .ref qb, .ref qt, .int (nI n)])), (ql, aL G 300 (fL pl K)), (qb, aI G 300 bk), (qt, .inr (1, [.ref qw])), (qw, aI G 54 (encC w))]) (W' := [(h0, .inr (0, [.ref ql, .ref qb, .ref qt, .int (nI n)])), (ql, aL G 300 (fL pl K)), (qb, aI G 300 bk), (qt, .inr (1, [.ref qw])), (qw, aI G 54 (encC w)), (q2, .inr (1, [.ref q3])), (q3, aI G 54 (encC zI))]) (T := pool G pl pc Z K) [2, 3, 4, 5, 6, 0, 1] rfl rfl ?_
      refine u_eqs (st' := [.ref q2, .int (nI n), .ref ql]) rfl ?_
      refine u_last h (n := n) 1 5 rfl rfl (by omega) (by omega) (ws' := [(h0, .inr (0, [.ref ql, .ref qb, .ref qt, .int (nI n)])), (ql, aL G 300 (va_up (fL pl K) n (some q2))), (qb, aI G 300 bk), (qt, .inr (1, [.ref qw])), (qw, aI G 54 (encC w)), (q2, .inr (1, [.ref q3])), (q3, aI G 54 (encC zI))] ++ pool G pl pc Z K) rfl dX0_append_39 rfl ?_
      refine u_eqw (ws' := [(h0, .inr (0, [.ref ql, .ref qb, .ref qt, .int (nI n)])), (ql, aL G 300 (fL (updN pl n q2) (n + 1))), (qb, aI G 300 bk), (qt, .inr (1, [.ref qw])), (qw, aI G 54 (encC w)), (q2, .inr (1, [.ref q3])), (q3, aI G 54 (encC zI))] ++ pool G pl pc Z K) (by rw [hKn, fL_up]) ?_
      refine u_aload_n h dX0_append_40 rfl 0 rfl rfl ?_
      refine u_get h flX0_append_13 0 (v := .ref ql) rfl rfl dX0_append_41 rfl ?_
      refine u_aload_n h dX0_append_44 rfl 0 rfl rfl ?_
      refine u_get h flX0_append_26 0 (v := .int (nI n)) rfl rfl dX0_append_45 rfl ?_
      refine u_lald h (n := n) 1 rfl (by omega) (by omega) (v := .ref q2) (by rw [fL_lt (by omega), updN_s]; rfl) dX0_append_48 rfl ?_
      refine u_aload_n h dX0_append_49 rfl 0 rfl rfl ?_
      refine u_get h flX0_append_22 0 (v := .ref qt) rfl rfl dX0_append_50 rfl ?_
      refine u_wpT (W := [(h0, .inr (0, [.ref ql, .ref qb, .ref qt, .int (nI n)])), (ql, aL G 300 (fL (updN pl n q2) (n + 1))), (qb, aI G 300 bk), (qt, .inr (1, [.ref qw])), (qw, aI G 54 (encC w)), (q2, .inr (1, [.ref q3])), (q3, aI G 54 (encC zI))]) (W' := [(q2, .inr (1, [.ref q3])), (q3, aI G 54 (encC zI)), (qt, .inr (1, [.ref qw])), (qw, aI G 54 (encC w)), (h0, .inr (0, [.ref ql, .ref qb, .ref qt, .int (nI n)])), (ql, aL G 300 (fL (updN pl n q2) (n + 1))), (qb, aI G 300 bk)]) (T := pool G pl pc Z K) [5, 6, 3, 4, 0, 1, 2] rfl rfl ?_
      refine u_eqw (ws' := [(q2, .inr (1, [.ref q3])), (q3, aI G 54 (encC zI)), (qt, .inr (1, [.ref qw])), (qw, aI G 54 (encC w))] ++ ([(h0, .inr (0, [.ref ql, .ref qb, .ref qt, .int (nI n)])), (ql, aL G 300 (fL (updN pl n q2) (n + 1))), (qb, aI G 300 bk)] ++ pool G pl pc Z K)) rfl ?_
      refine u_callVA h (As := [.ref qt]) (wc := [(q2, .inr (1, [.ref q3])), (q3, aI G 54 (encC zI)), (qt, .inr (1, [.ref qw])), (qw, aI G 54 (encC w))]) (wr := [(h0, .inr (0, [.ref ql, .ref qb, .ref qt, .int (nI n)])), (ql, aL G 300 (fL (updN pl n q2) (n + 1))), (qb, aI G 300 bk)] ++ pool G pl pc Z K) (kX1_copyFrom G q2 q3 qt qw zI w) cwX0_append_X1_copyFrom rfl rfl hR ⟨⟨rfl, rfl⟩, Nat.le_of_ble_eq_true rfl, Nat.le_of_ble_eq_true rfl⟩ ⟨by show 2 + 0 ≤ 2 * (max K (xn n) - K); omega, by show 55 + 0 ≤ 55 * (max K (xn n) - K); omega⟩ (ci := 1) (qr := 0) rfl rfl (Nat.le_of_ble_eq_true rfl) rfl dX0_append_53 rfl (fun v9 u9 hp9 => ?_)
      obtain ⟨rfl, rfl⟩ := hp9
      refine u_eqw (ws' := [(q2, .inr (1, [.ref q3])), (q3, aI G 54 (encC w)), (qt, .inr (1, [.ref qw])), (qw, aI G 54 (encC w)), (h0, .inr (0, [.ref ql, .ref qb, .ref qt, .int (nI n)])), (ql, aL G 300 (fL (updN pl n q2) (n + 1))), (qb, aI G 300 bk)] ++ pool G pl pc Z K) rfl ?_
      refine u_eqc (cells' := 2) (slots' := 55) (Nat.add_zero _) (Nat.add_zero _) ?_
      refine u_wpT (W := [(q2, .inr (1, [.ref q3])), (q3, aI G 54 (encC w)), (qt, .inr (1, [.ref qw])), (qw, aI G 54 (encC w)), (h0, .inr (0, [.ref ql, .ref qb, .ref qt, .int (nI n)])), (ql, aL G 300 (fL (updN pl n q2) (n + 1))), (qb, aI G 300 bk)]) (W' := [(h0, .inr (0, [.ref ql, .ref qb, .ref qt, .int (nI n)])), (ql, aL G 300 (fL (updN pl n q2) (n + 1))), (qb, aI G 300 bk), (qt, .inr (1, [.ref qw])), (qw, aI G 54 (encC w)), (q2, .inr (1, [.ref q3])), (q3, aI G 54 (encC w))]) (T := pool G pl pc Z K) [4, 5, 6, 2, 3, 0, 1] rfl rfl ?_
      refine u_eqs (st' := []) rfl ?_
      refine u_aload_n h dX0_append_56 rfl 0 rfl rfl ?_
      refine u_get h flX0_append_17 0 (v := .ref qb) rfl rfl dX0_append_57 rfl ?_
      refine u_aload_n h dX0_append_60 rfl 0 rfl rfl ?_
      refine u_get h flX0_append_26 0 (v := .int (nI n)) rfl rfl dX0_append_61 rfl ?_
      refine u_iload_n h dX0_append_64 rfl 1 rfl rfl ?_
      refine u_iast h (n := n) (v := b) 2 rfl (by omega) (by omega) rfl (ws' := [(h0, .inr (0, [.ref ql, .ref qb, .ref qt, .int (nI n)])), (ql, aL G 300 (fL (updN pl n q2) (n + 1))), (qb, aI G 300 (upd bk n b)), (qt, .inr (1, [.ref qw])), (qw, aI G 54 (encC w)), (q2, .inr (1, [.ref q3])), (q3, aI G 54 (encC w))] ++ pool G pl pc Z K) rfl dX0_append_65 rfl ?_
      refine u_aload_n h dX0_append_66 rfl 0 rfl rfl ?_
      refine u_dup h dX0_append_67 rfl rfl ?_
      refine u_get h flX0_append_26 0 (v := .int (nI n)) rfl rfl dX0_append_68 rfl ?_
      refine u_iconst (v := 1) h dX0_append_71 (by decide) rfl ?_
      refine u_iadd (v := (nI (n + 1))) h dX0_append_72 (nI_add n 1) rfl ?_
      refine u_put h fwX0_append_26 (ws' := [(h0, .inr (0, [.ref ql, .ref qb, .ref qt, .int (nI (n + 1))])), (ql, aL G 300 (fL (updN pl n q2) (n + 1))), (qb, aI G 300 (upd bk n b)), (qt, .inr (1, [.ref qw])), (qw, aI G 54 (encC w)), (q2, .inr (1, [.ref q3])), (q3, aI G 54 (encC w))] ++ pool G pl pc Z K) 0 rfl (Nat.le_of_ble_eq_true rfl) rfl rfl rfl dX0_append_73 rfl ?_
      refine u_perm (ws' := [(h0, .inr (0, [.ref ql, .ref qb, .ref qt, .int (nI (n + 1))])), (ql, aL G 300 (fL (updN pl n q2) (n + 1))), (qb, aI G 300 (upd bk n b)), (qt, .inr (1, [.ref qw])), (qw, aI G 54 (encC w))] ++ (pool G pl pc Z K ++ [(q2, .inr (1, [.ref q3])), (q3, aI G 54 (encC w))])) (perm_tail [(h0, .inr (0, [.ref ql, .ref qb, .ref qt, .int (nI (n + 1))])), (ql, aL G 300 (fL (updN pl n q2) (n + 1))), (qb, aI G 300 (upd bk n b)), (qt, .inr (1, [.ref qw])), (qw, aI G 54 (encC w))] (perm_comm [(q2, .inr (1, [.ref q3])), (q3, aI G 54 (encC w))] (pool G pl pc Z K))) ?_
      refine u_eqw (ws' := [(h0, .inr (0, [.ref ql, .ref qb, .ref qt, .int (nI (n + 1))])), (ql, aL G 300 (fL (updN pl n q2) (n + 1))), (qb, aI G 300 (upd bk n b)), (qt, .inr (1, [.ref qw])), (qw, aI G 54 (encC w))] ++ pool G (updN pl n q2) (updN pc n q3) (updZ Z n w) (n + 1)) (by rw [hKn, pool_snoc]) ?_
      refine u_iconst (v := 1) h dX0_append_76 (by decide) rfl ?_
      exact u_zret h hRT dX0_append_77 rfl (by omega) (by omega) (by exact ⟨by rw [decide_eq_true c1]; rfl, updN pl n q2, updN pc n q3, by rw [hmx, hxn, xZ, xB, if_pos c1, if_pos c1]⟩)
  · refine u_iconst (v := 0) h dX0_append_10 (by decide) rfl ?_
    exact u_zret h hRT dX0_append_11 rfl (by omega) (by omega) (by have hn3 : ¬ n < 300 := (by omega); have hxn : xn n = n := if_neg hn3; have hmx : max K (xn n) = K := (by omega); exact ⟨by rw [decide_eq_false hn3]; rfl, pl, pc, by rw [hmx, hxn, xZ, xB, if_neg hn3, if_neg hn3]⟩)

theorem flX0_isKnown_26 : FL wsX0_isKnown RX0 26 0 3 := ⟨RX0, TX0, 4, rfl, by decide, by decide +kernel, by decide +kernel⟩
theorem flX0_isKnown_17 : FL wsX0_isKnown RX0 17 0 1 := ⟨RX0, TX0, 4, rfl, by decide, by decide +kernel, by decide +kernel⟩
theorem flX0_isKnown_13 : FL wsX0_isKnown RX0 13 0 0 := ⟨RX0, TX0, 4, rfl, by decide, by decide +kernel, by decide +kernel⟩
theorem flX0_isKnown_22 : FL wsX0_isKnown RX0 22 0 2 := ⟨RX0, TX0, 4, rfl, by decide, by decide +kernel, by decide +kernel⟩
set_option maxRecDepth 20000 in
theorem cwX0_isKnown_X1_sameAs : CWd wsX0_isKnown (wsV RX0 53 RX1 yX1_sameAs wsX1_sameAs) yX1_sameAs wsX1_sameAs cX1_sameAs 3 (some .boolean) 1 := ⟨gX0_isKnown_X1_sameAs, ⟨_, rfl⟩, by decide +kernel, by decide, by decide⟩
set_option maxHeartbeats 8000000 in
set_option maxRecDepth 100000 in
theorem kX0_isKnown (G : Gx) (h0 ql qb qt qw : Nat) (pl pc : Nat → Nat) (Z : Nat → Zf) (bk w : Zf) (n K : Nat) (hnK : n ≤ K) (hK : K ≤ 300) (b : Int32) : MC G yX0_isKnown wsX0_isKnown ({ frames := 1, cells := 0, slots := 0, locals := 22 } : Room) [.ref h0, .int b] ([(h0, .inr (0, [.ref ql, .ref qb, .ref qt, .int (nI n)])), (ql, aL G 300 (fL pl K)), (qb, aI G 300 bk), (qt, .inr (1, [.ref qw])), (qw, aI G 54 (encC w))] ++ pool G pl pc Z K) (fun v' u' => v' = some (.int (bI (xHas Z bk w b n))) ∧ u' = [(h0, .inr (0, [.ref ql, .ref qb, .ref qt, .int (nI n)])), (ql, aL G 300 (fL pl K)), (qb, aI G 300 bk), (qt, .inr (1, [.ref qw])), (qw, aI G 54 (encC w))] ++ pool G pl pc Z K) 0 0 := by
  refine mc_of (cc := cX0_isKnown) (maxL := 3) (ret := (some .boolean)) (by decide) rfl (Nat.le_of_ble_eq_true rfl) (fun X h hR hL hRT => ?_)
  refine u_eql (lv' := [(0, .ref h0), (1, .int b)]) rfl ?_
  refine u_iconst (v := 0) h dX0_isKnown_0 (by decide) rfl ?_
  refine u_istore_n (lv' := [(2, .int 0), (0, .ref h0), (1, .int b)]) h dX0_isKnown_1 rfl (by rw [hL]; decide) rfl rfl ?_
  have LL : ∀ (k9 : Nat) (i : Nat), n - i = k9 → (i ≤ n) → (∀ k : Nat, k < i → ¬ (bk k = b ∧ sameE w (Z k) = true)) → U G X 0 0 ([(h0, .inr (0, [.ref ql, .ref qb, .ref qt, .int (nI n)])), (ql, aL G 300 (fL pl K)), (qb, aI G 300 bk), (qt, .inr (1, [.ref qw])), (qw, aI G 54 (encC w))] ++ pool G pl pc Z K) 2 [(2, .int (nI i)), (0, .ref h0), (1, .int b)] [] := by
    intro k9
    induction k9 using Nat.strongRecOn with
    | _ k9 ihL =>
      intro i hk9 hi hno
      subst hk9
      refine u_iload_n h dX0_isKnown_2 rfl 0 rfl rfl ?_
      refine u_aload_n h dX0_isKnown_3 rfl 1 rfl rfl ?_
      refine u_get h flX0_isKnown_26 0 (v := .int (nI n)) rfl rfl dX0_isKnown_4 rfl ?_
      refine u_icmp_ge_N (a := i) (b := n) (tgt := 60) h dX0_isKnown_7 (by decide) (by omega) (by omega) rfl (fun c1 => ?_) (fun c1 => ?_)
      · refine u_iconst (v := 0) h dX0_isKnown_60 (by decide) rfl ?_
        exact u_zret h hRT dX0_isKnown_61 rfl (by omega) (by omega) (by exact ⟨by rw [xHas_no (fun k hk => hno k (by omega))]; rfl, rfl⟩)
      · refine u_iload_n h dX0_isKnown_10 rfl 0 rfl rfl ?_
        refine u_sipush (v := 300) h dX0_isKnown_11 (by decide) rfl ?_
        refine u_icmp_ge_N (a := i) (b := 300) (tgt := 60) h dX0_isKnown_14 (by decide) (by omega) (by omega) rfl (fun c2 => ?_) (fun c2 => ?_)
        · omega
        · refine u_aload_n h dX0_isKnown_17 rfl 1 rfl rfl ?_
          refine u_get h flX0_isKnown_17 0 (v := .ref qb) rfl rfl dX0_isKnown_18 rfl ?_
          refine u_iload_n h dX0_isKnown_21 rfl 0 rfl rfl ?_
          refine u_iald h (n := i) 2 rfl (by omega) (by omega) dX0_isKnown_22 rfl ?_
          refine u_iload_n h dX0_isKnown_23 rfl 2 rfl rfl ?_
          refine u_icmp_ne (tgt := 54) h dX0_isKnown_24 (by decide) rfl (fun c3 => ?_) (fun c3 => ?_)
          · refine u_iinc (k := 0) (v := (nI (i + 1))) (lv' := [(2, .int (nI (i + 1))), (0, .ref h0), (1, .int b)]) h dX0_isKnown_54 rfl (nI_add i 1) (by rw [hL]; decide) rfl rfl ?_
            refine u_goto (tgt := 2) h dX0_isKnown_57 (by decide) ?_
            exact ihL _ (by omega) (i + 1) rfl (by omega) (fun k hk => by rcases Nat.lt_or_ge k i with q9 | q9; exact hno k q9; rw [show k = i by omega]; exact fun q8 => c3 q8.1)
          · refine u_aload_n h dX0_isKnown_27 rfl 1 rfl rfl ?_
            refine u_get h flX0_isKnown_13 0 (v := .ref ql) rfl rfl dX0_isKnown_28 rfl ?_
            refine u_iload_n h dX0_isKnown_31 rfl 0 rfl rfl ?_
            refine u_lald h (n := i) 1 rfl (by omega) (by omega) (v := .ref (pl i)) (by rw [fL_lt (by omega)]; rfl) dX0_isKnown_32 rfl ?_
            refine u_ifnull h dX0_isKnown_33 rfl ?_
            refine u_perm (ws' := [(h0, .inr (0, [.ref ql, .ref qb, .ref qt, .int (nI n)])), (ql, aL G 300 (fL pl K)), (qb, aI G 300 bk), (qt, .inr (1, [.ref qw])), (qw, aI G 54 (encC w)), ((pl i), .inr (1, [.ref (pc i)])), ((pc i), aI G 54 (encC (Z i)))] ++ poolx G pl pc Z i K) (perm_tail [(h0, .inr (0, [.ref ql, .ref qb, .ref qt, .int (nI n)])), (ql, aL G 300 (fL pl K)), (qb, aI G 300 bk), (qt, .inr (1, [.ref qw])), (qw, aI G 54 (encC w))] (pool_perm (show i < K by omega))) ?_
            refine u_aload_n h dX0_isKnown_36 rfl 1 rfl rfl ?_
            refine u_get h flX0_isKnown_22 0 (v := .ref qt) rfl rfl dX0_isKnown_37 rfl ?_
            refine u_aload_n h dX0_isKnown_40 rfl 1 rfl rfl ?_
            refine u_get h flX0_isKnown_13 0 (v := .ref ql) rfl rfl dX0_isKnown_41 rfl ?_
            refine u_iload_n h dX0_isKnown_44 rfl 0 rfl rfl ?_
            refine u_lald h (n := i) 1 rfl (by omega) (by omega) (v := .ref (pl i)) (by rw [fL_lt (by omega)]; rfl) dX0_isKnown_45 rfl ?_
            refine u_wpT (W := [(h0, .inr (0, [.ref ql, .ref qb, .ref qt, .int (nI n)])), (ql, aL G 300 (fL pl K)), (qb, aI G 300 bk), (qt, .inr (1, [.ref qw])), (qw, aI G 54 (encC w)), ((pl i), .inr (1, [.ref (pc i)])), ((pc i), aI G 54 (encC (Z i)))]) (W' := [(qt, .inr (1, [.ref qw])), (qw, aI G 54 (encC w)), ((pl i), .inr (1, [.ref (pc i)])), ((pc i), aI G 54 (encC (Z i))), (h0, .inr (0, [.ref ql, .ref qb, .ref qt, .int (nI n)])), (ql, aL G 300 (fL pl K)), (qb, aI G 300 bk)]) (T := poolx G pl pc Z i K) [3, 4, 5, 6, 0, 1, 2] rfl rfl ?_
            refine u_eqw (ws' := [(qt, .inr (1, [.ref qw])), (qw, aI G 54 (encC w)), ((pl i), .inr (1, [.ref (pc i)])), ((pc i), aI G 54 (encC (Z i)))] ++ ([(h0, .inr (0, [.ref ql, .ref qb, .ref qt, .int (nI n)])), (ql, aL G 300 (fL pl K)), (qb, aI G 300 bk)] ++ poolx G pl pc Z i K)) rfl ?_
            refine u_callVA h (As := [.ref (pl i)]) (wc := [(qt, .inr (1, [.ref qw])), (qw, aI G 54 (encC w)), ((pl i), .inr (1, [.ref (pc i)])), ((pc i), aI G 54 (encC (Z i)))]) (wr := [(h0, .inr (0, [.ref ql, .ref qb, .ref qt, .int (nI n)])), (ql, aL G 300 (fL pl K)), (qb, aI G 300 bk)] ++ poolx G pl pc Z i K) (kX1_sameAs G qt qw (pl i) (pc i) w (Z i)) cwX0_isKnown_X1_sameAs rfl rfl hR ⟨⟨rfl, rfl⟩, Nat.le_of_ble_eq_true rfl, Nat.le_of_ble_eq_true rfl⟩ ⟨Nat.zero_le _, Nat.zero_le _⟩ (ci := 1) (qr := 0) rfl rfl (Nat.le_of_ble_eq_true rfl) rfl dX0_isKnown_46 rfl (fun v9 u9 hp9 => ?_)
            obtain ⟨rfl, rfl⟩ := hp9
            refine u_eqw (ws' := [(qt, .inr (1, [.ref qw])), (qw, aI G 54 (encC w)), ((pl i), .inr (1, [.ref (pc i)])), ((pc i), aI G 54 (encC (Z i))), (h0, .inr (0, [.ref ql, .ref qb, .ref qt, .int (nI n)])), (ql, aL G 300 (fL pl K)), (qb, aI G 300 bk)] ++ poolx G pl pc Z i K) rfl ?_
            refine u_eqc (cells' := 0) (slots' := 0) (Nat.add_zero _) (Nat.add_zero _) ?_
            refine u_wpT (W := [(qt, .inr (1, [.ref qw])), (qw, aI G 54 (encC w)), ((pl i), .inr (1, [.ref (pc i)])), ((pc i), aI G 54 (encC (Z i))), (h0, .inr (0, [.ref ql, .ref qb, .ref qt, .int (nI n)])), (ql, aL G 300 (fL pl K)), (qb, aI G 300 bk)]) (W' := [(h0, .inr (0, [.ref ql, .ref qb, .ref qt, .int (nI n)])), (ql, aL G 300 (fL pl K)), (qb, aI G 300 bk), (qt, .inr (1, [.ref qw])), (qw, aI G 54 (encC w)), ((pl i), .inr (1, [.ref (pc i)])), ((pc i), aI G 54 (encC (Z i)))]) (T := poolx G pl pc Z i K) [4, 5, 6, 0, 1, 2, 3] rfl rfl ?_
            refine u_eqs (st' := [.int (bI (sameE w (Z i)))]) rfl ?_
            refine u_perm (ws' := [(h0, .inr (0, [.ref ql, .ref qb, .ref qt, .int (nI n)])), (ql, aL G 300 (fL pl K)), (qb, aI G 300 bk), (qt, .inr (1, [.ref qw])), (qw, aI G 54 (encC w))] ++ pool G pl pc Z K) (perm_tail [(h0, .inr (0, [.ref ql, .ref qb, .ref qt, .int (nI n)])), (ql, aL G 300 (fL pl K)), (qb, aI G 300 bk), (qt, .inr (1, [.ref qw])), (qw, aI G 54 (encC w))] (pool_perm (show i < K by omega)).symm) ?_
            refine u_if_eq_B (tgt := 54) h dX0_isKnown_49 (by decide) rfl (fun c4 => ?_) (fun c4 => ?_)
            · refine u_iinc (k := 0) (v := (nI (i + 1))) (lv' := [(2, .int (nI (i + 1))), (0, .ref h0), (1, .int b)]) h dX0_isKnown_54 rfl (nI_add i 1) (by rw [hL]; decide) rfl rfl ?_
              refine u_goto (tgt := 2) h dX0_isKnown_57 (by decide) ?_
              exact ihL _ (by omega) (i + 1) rfl (by omega) (fun k hk => by rcases Nat.lt_or_ge k i with q9 | q9; exact hno k q9; rw [show k = i by omega]; exact fun q8 => by rw [c4] at q8; exact absurd q8.2 (by decide))
            · refine u_iconst (v := 1) h dX0_isKnown_52 (by decide) rfl ?_
              exact u_zret h hRT dX0_isKnown_53 rfl (by omega) (by omega) (by exact ⟨by rw [xHas_of (show i < n by omega) c3 c4]; rfl, rfl⟩)
  exact LL _ 0 rfl (Nat.zero_le _) (fun k hk => absurd hk (Nat.not_lt_zero k))

theorem flX0_follow_13 : FL wsX0_follow RX0 13 0 0 := ⟨RX0, TX0, 4, rfl, by decide, by decide +kernel, by decide +kernel⟩
theorem flX0_follow_17 : FL wsX0_follow RX0 17 0 1 := ⟨RX0, TX0, 4, rfl, by decide, by decide +kernel, by decide +kernel⟩
theorem flX0_follow_22 : FL wsX0_follow RX0 22 0 2 := ⟨RX0, TX0, 4, rfl, by decide, by decide +kernel, by decide +kernel⟩
set_option maxRecDepth 20000 in
theorem cwX0_follow_X1_copyFrom : CWd wsX0_follow (wsV RX0 30 RX1 yX1_copyFrom wsX1_copyFrom) yX1_copyFrom wsX1_copyFrom cX1_copyFrom 2 none 1 := ⟨gX0_follow_X1_copyFrom, ⟨_, rfl⟩, by decide +kernel, by decide, by decide⟩
set_option maxRecDepth 20000 in
theorem cwX0_follow_X1_advance : CWd wsX0_follow (wsV RX0 42 RX1 yX1_advance wsX1_advance) yX1_advance wsX1_advance cX1_advance 2 none 1 := ⟨gX0_follow_X1_advance, ⟨_, rfl⟩, by decide +kernel, by decide, by decide⟩
set_option maxRecDepth 20000 in
theorem cwX0_follow_X1_stage : CWd wsX0_follow (wsV RX0 46 RX1 yX1_stage wsX1_stage) yX1_stage wsX1_stage cX1_stage 2 (some .int) 1 := ⟨gX0_follow_X1_stage, ⟨_, rfl⟩, by decide +kernel, by decide, by decide⟩
set_option maxRecDepth 20000 in
theorem cwX0_follow_X0_isKnown : CWd wsX0_follow (wsV RX0 50 RX0 yX0_isKnown wsX0_isKnown) yX0_isKnown wsX0_isKnown cX0_isKnown 3 (some .boolean) 1 := ⟨gX0_follow_X0_isKnown, ⟨_, rfl⟩, by decide +kernel, by decide, by decide⟩
set_option maxRecDepth 20000 in
theorem cwX0_follow_X0_append : CWd wsX0_follow (wsV RX0 34 RX0 yX0_append wsX0_append) yX0_append wsX0_append cX0_append 2 (some .boolean) 1 := ⟨gX0_follow_X0_append, ⟨_, rfl⟩, by decide +kernel, by decide, by decide⟩
set_option maxHeartbeats 8000000 in
set_option maxRecDepth 100000 in
theorem kX0_follow (G : Gx) (h0 ql qb qt qw : Nat) (pl pc : Nat → Nat) (Z : Nat → Zf) (bk w : Zf) (n K : Nat) (hnK : n ≤ K) (hK : K ≤ 300) (i v : Nat) (bt : Int32) (hin : i < n) (hv : v < 6) (hW : Wc (Z i)) : MC G yX0_follow wsX0_follow ({ frames := 5, cells := 2 * (max K (foN Z bk n i v bt) - K), slots := 55 * (max K (foN Z bk n i v bt) - K), locals := 105 } : Room) [.ref h0, .int (nI i), .int (nI v), .int bt] ([(h0, .inr (0, [.ref ql, .ref qb, .ref qt, .int (nI n)])), (ql, aL G 300 (fL pl K)), (qb, aI G 300 bk), (qt, .inr (1, [.ref qw])), (qw, aI G 54 (encC w))] ++ pool G pl pc Z K) (fun v' u' => v' = some (.int (bI (foK Z bk n i v bt))) ∧ ∃ (w' : Zf) (pl' pc' : Nat → Nat), u' = [(h0, .inr (0, [.ref ql, .ref qb, .ref qt, .int (nI (foN Z bk n i v bt))])), (ql, aL G 300 (fL pl' (max K (foN Z bk n i v bt)))), (qb, aI G 300 (foB Z bk n i v bt)), (qt, .inr (1, [.ref qw])), (qw, aI G 54 (encC w'))] ++ pool G pl' pc' (foZ Z bk n i v bt) (max K (foN Z bk n i v bt))) (2 * (max K (foN Z bk n i v bt) - K)) (55 * (max K (foN Z bk n i v bt) - K)) := by
  refine mc_of (cc := cX0_follow) (maxL := 6) (ret := (some .boolean)) (by decide) rfl (Nat.le_of_ble_eq_true rfl) (fun X h hR hL hRT => ?_)
  refine u_eql (lv' := [(0, .ref h0), (1, .int (nI i)), (2, .int (nI v)), (3, .int bt)]) rfl ?_
  refine u_aload_n h dX0_follow_0 rfl 0 rfl rfl ?_
  refine u_get h flX0_follow_13 0 (v := .ref ql) rfl rfl dX0_follow_1 rfl ?_
  refine u_iload_n h dX0_follow_4 rfl 1 rfl rfl ?_
  refine u_lald h (n := i) 1 rfl (by omega) (by omega) (v := .ref (pl i)) (by rw [fL_lt (by omega)]; rfl) dX0_follow_5 rfl ?_
  refine u_astore (lv' := [(4, .ref (pl i)), (0, .ref h0), (1, .int (nI i)), (2, .int (nI v)), (3, .int bt)]) h dX0_follow_6 (by rw [hL]; decide) rfl rfl ?_
  refine u_aload h dX0_follow_8 0 rfl rfl ?_
  refine u_ifnull h dX0_follow_10 rfl ?_
  refine u_aload_n h dX0_follow_13 rfl 1 rfl rfl ?_
  refine u_get h flX0_follow_17 0 (v := .ref qb) rfl rfl dX0_follow_14 rfl ?_
  refine u_iload_n h dX0_follow_17 rfl 2 rfl rfl ?_
  refine u_iald h (n := i) 2 rfl (by omega) (by omega) dX0_follow_18 rfl ?_
  refine u_iload_n h dX0_follow_19 rfl 4 rfl rfl ?_
  refine u_iand (v := ((bk i) &&& bt)) h dX0_follow_20 rfl rfl ?_
  refine u_if_eq (tgt := 26) h dX0_follow_21 (by decide) rfl (fun c1 => ?_) (fun c1 => ?_)
  · refine u_aload_n h dX0_follow_26 rfl 1 rfl rfl ?_
    refine u_get h flX0_follow_22 0 (v := .ref qt) rfl rfl dX0_follow_27 rfl ?_
    refine u_perm (ws' := [(h0, .inr (0, [.ref ql, .ref qb, .ref qt, .int (nI n)])), (ql, aL G 300 (fL pl K)), (qb, aI G 300 bk), (qt, .inr (1, [.ref qw])), (qw, aI G 54 (encC w)), ((pl i), .inr (1, [.ref (pc i)])), ((pc i), aI G 54 (encC (Z i)))] ++ poolx G pl pc Z i K) (perm_tail [(h0, .inr (0, [.ref ql, .ref qb, .ref qt, .int (nI n)])), (ql, aL G 300 (fL pl K)), (qb, aI G 300 bk), (qt, .inr (1, [.ref qw])), (qw, aI G 54 (encC w))] (pool_perm (show i < K by omega))) ?_
    refine u_aload h dX0_follow_30 0 rfl rfl ?_
    refine u_wpT (W := [(h0, .inr (0, [.ref ql, .ref qb, .ref qt, .int (nI n)])), (ql, aL G 300 (fL pl K)), (qb, aI G 300 bk), (qt, .inr (1, [.ref qw])), (qw, aI G 54 (encC w)), ((pl i), .inr (1, [.ref (pc i)])), ((pc i), aI G 54 (encC (Z i)))]) (W' := [(qt, .inr (1, [.ref qw])), (qw, aI G 54 (encC w)), ((pl i), .inr (1, [.ref (pc i)])), ((pc i), aI G 54 (encC (Z i))), (h0, .inr (0, [.ref ql, .ref qb, .ref qt, .int (nI n)])), (ql, aL G 300 (fL pl K)), (qb, aI G 300 bk)]) (T := poolx G pl pc Z i K) [3, 4, 5, 6, 0, 1, 2] rfl rfl ?_
    refine u_eqw (ws' := [(qt, .inr (1, [.ref qw])), (qw, aI G 54 (encC w)), ((pl i), .inr (1, [.ref (pc i)])), ((pc i), aI G 54 (encC (Z i)))] ++ ([(h0, .inr (0, [.ref ql, .ref qb, .ref qt, .int (nI n)])), (ql, aL G 300 (fL pl K)), (qb, aI G 300 bk)] ++ poolx G pl pc Z i K)) rfl ?_
    refine u_callVA h (As := [.ref (pl i)]) (wc := [(qt, .inr (1, [.ref qw])), (qw, aI G 54 (encC w)), ((pl i), .inr (1, [.ref (pc i)])), ((pc i), aI G 54 (encC (Z i)))]) (wr := [(h0, .inr (0, [.ref ql, .ref qb, .ref qt, .int (nI n)])), (ql, aL G 300 (fL pl K)), (qb, aI G 300 bk)] ++ poolx G pl pc Z i K) (kX1_copyFrom G qt qw (pl i) (pc i) w (Z i)) cwX0_follow_X1_copyFrom rfl rfl hR ⟨⟨rfl, rfl⟩, Nat.le_of_ble_eq_true rfl, Nat.le_of_ble_eq_true rfl⟩ ⟨Nat.zero_le _, Nat.zero_le _⟩ (ci := 1) (qr := 0) rfl rfl (Nat.le_of_ble_eq_true rfl) rfl dX0_follow_32 rfl (fun v9 u9 hp9 => ?_)
    obtain ⟨rfl, rfl⟩ := hp9
    refine u_eqw (ws' := [(qt, .inr (1, [.ref qw])), (qw, aI G 54 (encC (Z i))), ((pl i), .inr (1, [.ref (pc i)])), ((pc i), aI G 54 (encC (Z i))), (h0, .inr (0, [.ref ql, .ref qb, .ref qt, .int (nI n)])), (ql, aL G 300 (fL pl K)), (qb, aI G 300 bk)] ++ poolx G pl pc Z i K) rfl ?_
    refine u_eqc (cells' := 0) (slots' := 0) (Nat.add_zero _) (Nat.add_zero _) ?_
    refine u_wpT (W := [(qt, .inr (1, [.ref qw])), (qw, aI G 54 (encC (Z i))), ((pl i), .inr (1, [.ref (pc i)])), ((pc i), aI G 54 (encC (Z i))), (h0, .inr (0, [.ref ql, .ref qb, .ref qt, .int (nI n)])), (ql, aL G 300 (fL pl K)), (qb, aI G 300 bk)]) (W' := [(h0, .inr (0, [.ref ql, .ref qb, .ref qt, .int (nI n)])), (ql, aL G 300 (fL pl K)), (qb, aI G 300 bk), (qt, .inr (1, [.ref qw])), (qw, aI G 54 (encC (Z i))), ((pl i), .inr (1, [.ref (pc i)])), ((pc i), aI G 54 (encC (Z i)))]) (T := poolx G pl pc Z i K) [4, 5, 6, 0, 1, 2, 3] rfl rfl ?_
    refine u_eqs (st' := []) rfl ?_
    refine u_perm (ws' := [(h0, .inr (0, [.ref ql, .ref qb, .ref qt, .int (nI n)])), (ql, aL G 300 (fL pl K)), (qb, aI G 300 bk), (qt, .inr (1, [.ref qw])), (qw, aI G 54 (encC (Z i)))] ++ pool G pl pc Z K) (perm_tail [(h0, .inr (0, [.ref ql, .ref qb, .ref qt, .int (nI n)])), (ql, aL G 300 (fL pl K)), (qb, aI G 300 bk), (qt, .inr (1, [.ref qw])), (qw, aI G 54 (encC (Z i)))] (pool_perm (show i < K by omega)).symm) ?_
    refine u_aload_n h dX0_follow_35 rfl 1 rfl rfl ?_
    refine u_get h flX0_follow_22 0 (v := .ref qt) rfl rfl dX0_follow_36 rfl ?_
    refine u_iload_n h dX0_follow_39 rfl 3 rfl rfl ?_
    refine u_wpT (W := [(h0, .inr (0, [.ref ql, .ref qb, .ref qt, .int (nI n)])), (ql, aL G 300 (fL pl K)), (qb, aI G 300 bk), (qt, .inr (1, [.ref qw])), (qw, aI G 54 (encC (Z i)))]) (W' := [(qt, .inr (1, [.ref qw])), (qw, aI G 54 (encC (Z i))), (h0, .inr (0, [.ref ql, .ref qb, .ref qt, .int (nI n)])), (ql, aL G 300 (fL pl K)), (qb, aI G 300 bk)]) (T := pool G pl pc Z K) [3, 4, 0, 1, 2] rfl rfl ?_
    refine u_eqw (ws' := [(qt, .inr (1, [.ref qw])), (qw, aI G 54 (encC (Z i)))] ++ ([(h0, .inr (0, [.ref ql, .ref qb, .ref qt, .int (nI n)])), (ql, aL G 300 (fL pl K)), (qb, aI G 300 bk)] ++ pool G pl pc Z K)) rfl ?_
    refine u_callVA h (As := [.int (nI v)]) (wc := [(qt, .inr (1, [.ref qw])), (qw, aI G 54 (encC (Z i)))]) (wr := [(h0, .inr (0, [.ref ql, .ref qb, .ref qt, .int (nI n)])), (ql, aL G 300 (fL pl K)), (qb, aI G 300 bk)] ++ pool G pl pc Z K) (kX1_advance G qt qw (Z i) v hv hW) cwX0_follow_X1_advance rfl rfl hR ⟨⟨rfl, rfl⟩, Nat.le_of_ble_eq_true rfl, Nat.le_of_ble_eq_true rfl⟩ ⟨Nat.zero_le _, Nat.zero_le _⟩ (ci := 1) (qr := 0) rfl rfl (Nat.le_of_ble_eq_true rfl) rfl dX0_follow_40 rfl (fun v9 u9 hp9 => ?_)
    obtain ⟨rfl, rfl⟩ := hp9
    refine u_eqw (ws' := [(qt, .inr (1, [.ref qw])), (qw, aI G 54 (encC (if isLook (Z i) v = true then (Z i) else chM (Z i) v))), (h0, .inr (0, [.ref ql, .ref qb, .ref qt, .int (nI n)])), (ql, aL G 300 (fL pl K)), (qb, aI G 300 bk)] ++ pool G pl pc Z K) rfl ?_
    refine u_eqc (cells' := 0) (slots' := 0) (Nat.add_zero _) (Nat.add_zero _) ?_
    refine u_wpT (W := [(qt, .inr (1, [.ref qw])), (qw, aI G 54 (encC (if isLook (Z i) v = true then (Z i) else chM (Z i) v))), (h0, .inr (0, [.ref ql, .ref qb, .ref qt, .int (nI n)])), (ql, aL G 300 (fL pl K)), (qb, aI G 300 bk)]) (W' := [(h0, .inr (0, [.ref ql, .ref qb, .ref qt, .int (nI n)])), (ql, aL G 300 (fL pl K)), (qb, aI G 300 bk), (qt, .inr (1, [.ref qw])), (qw, aI G 54 (encC (if isLook (Z i) v = true then (Z i) else chM (Z i) v)))]) (T := pool G pl pc Z K) [2, 3, 4, 0, 1] rfl rfl ?_
    refine u_eqs (st' := []) rfl ?_
    refine u_eqw (ws' := [(h0, .inr (0, [.ref ql, .ref qb, .ref qt, .int (nI n)])), (ql, aL G 300 (fL pl K)), (qb, aI G 300 bk), (qt, .inr (1, [.ref qw])), (qw, aI G 54 (encC (xW Z i v)))] ++ pool G pl pc Z K) rfl ?_
    refine u_aload_n h dX0_follow_43 rfl 1 rfl rfl ?_
    refine u_get h flX0_follow_22 0 (v := .ref qt) rfl rfl dX0_follow_44 rfl ?_
    refine u_iload_n h dX0_follow_47 rfl 3 rfl rfl ?_
    refine u_wpT (W := [(h0, .inr (0, [.ref ql, .ref qb, .ref qt, .int (nI n)])), (ql, aL G 300 (fL pl K)), (qb, aI G 300 bk), (qt, .inr (1, [.ref qw])), (qw, aI G 54 (encC (xW Z i v)))]) (W' := [(qt, .inr (1, [.ref qw])), (qw, aI G 54 (encC (xW Z i v))), (h0, .inr (0, [.ref ql, .ref qb, .ref qt, .int (nI n)])), (ql, aL G 300 (fL pl K)), (qb, aI G 300 bk)]) (T := pool G pl pc Z K) [3, 4, 0, 1, 2] rfl rfl ?_
    refine u_eqw (ws' := [(qt, .inr (1, [.ref qw])), (qw, aI G 54 (encC (xW Z i v)))] ++ ([(h0, .inr (0, [.ref ql, .ref qb, .ref qt, .int (nI n)])), (ql, aL G 300 (fL pl K)), (qb, aI G 300 bk)] ++ pool G pl pc Z K)) rfl ?_
    refine u_callVA h (As := [.int (nI v)]) (wc := [(qt, .inr (1, [.ref qw])), (qw, aI G 54 (encC (xW Z i v)))]) (wr := [(h0, .inr (0, [.ref ql, .ref qb, .ref qt, .int (nI n)])), (ql, aL G 300 (fL pl K)), (qb, aI G 300 bk)] ++ pool G pl pc Z K) (kX1_stage G qt qw (encC (xW Z i v)) v hv) cwX0_follow_X1_stage rfl rfl hR ⟨⟨rfl, rfl⟩, Nat.le_of_ble_eq_true rfl, Nat.le_of_ble_eq_true rfl⟩ ⟨Nat.zero_le _, Nat.zero_le _⟩ (ci := 1) (qr := 0) rfl rfl (Nat.le_of_ble_eq_true rfl) rfl dX0_follow_48 rfl (fun v9 u9 hp9 => ?_)
    obtain ⟨rfl, rfl⟩ := hp9
    refine u_eqw (ws' := [(qt, .inr (1, [.ref qw])), (qw, aI G 54 (encC (xW Z i v))), (h0, .inr (0, [.ref ql, .ref qb, .ref qt, .int (nI n)])), (ql, aL G 300 (fL pl K)), (qb, aI G 300 bk)] ++ pool G pl pc Z K) rfl ?_
    refine u_eqc (cells' := 0) (slots' := 0) (Nat.add_zero _) (Nat.add_zero _) ?_
    refine u_wpT (W := [(qt, .inr (1, [.ref qw])), (qw, aI G 54 (encC (xW Z i v))), (h0, .inr (0, [.ref ql, .ref qb, .ref qt, .int (nI n)])), (ql, aL G 300 (fL pl K)), (qb, aI G 300 bk)]) (W' := [(h0, .inr (0, [.ref ql, .ref qb, .ref qt, .int (nI n)])), (ql, aL G 300 (fL pl K)), (qb, aI G 300 bk), (qt, .inr (1, [.ref qw])), (qw, aI G 54 (encC (xW Z i v)))]) (T := pool G pl pc Z K) [2, 3, 4, 0, 1] rfl rfl ?_
    refine u_eqs (st' := [.int ((encC (xW Z i v)) v)]) rfl ?_
    refine u_top (y := xW Z i v v) (e_st hv) ?_
    refine u_if_ne (tgt := 65) h dX0_follow_51 (by decide) rfl (fun c2 => ?_) (fun c2 => ?_)
    · refine u_aload_n h dX0_follow_65 rfl 1 rfl rfl ?_
      refine u_get h flX0_follow_17 0 (v := .ref qb) rfl rfl dX0_follow_66 rfl ?_
      refine u_iload_n h dX0_follow_69 rfl 2 rfl rfl ?_
      refine u_iald h (n := i) 2 rfl (by omega) (by omega) dX0_follow_70 rfl ?_
      refine u_top (y := xb Z bk i v bt) (by unfold xb; rw [if_neg c2]) ?_
      refine u_istore (lv' := [(5, .int (xb Z bk i v bt)), (4, .ref (pl i)), (0, .ref h0), (1, .int (nI i)), (2, .int (nI v)), (3, .int bt)]) h dX0_follow_71 (by rw [hL]; decide) rfl rfl ?_
      refine u_aload_n h dX0_follow_73 rfl 2 rfl rfl ?_
      refine u_iload h dX0_follow_74 0 rfl rfl ?_
      refine u_perm (ws' := ([(h0, .inr (0, [.ref ql, .ref qb, .ref qt, .int (nI n)])), (ql, aL G 300 (fL pl K)), (qb, aI G 300 bk), (qt, .inr (1, [.ref qw])), (qw, aI G 54 (encC (xW Z i v)))] ++ pool G pl pc Z K) ++ ([] : va_W)) (perm_mid2 [(h0, .inr (0, [.ref ql, .ref qb, .ref qt, .int (nI n)])), (ql, aL G 300 (fL pl K)), (qb, aI G 300 bk), (qt, .inr (1, [.ref qw])), (qw, aI G 54 (encC (xW Z i v)))] [] (pool G pl pc Z K)) ?_
      refine u_callVA h (As := [.int (xb Z bk i v bt)]) (wc := [(h0, .inr (0, [.ref ql, .ref qb, .ref qt, .int (nI n)])), (ql, aL G 300 (fL pl K)), (qb, aI G 300 bk), (qt, .inr (1, [.ref qw])), (qw, aI G 54 (encC (xW Z i v)))] ++ pool G pl pc Z K) (wr := []) (kX0_isKnown G h0 ql qb qt qw pl pc Z bk (xW Z i v) n K hnK hK (xb Z bk i v bt)) cwX0_follow_X0_isKnown rfl rfl hR ⟨⟨rfl, rfl⟩, Nat.le_of_ble_eq_true rfl, Nat.le_of_ble_eq_true rfl⟩ ⟨Nat.zero_le _, Nat.zero_le _⟩ (ci := 0) (qr := 0) rfl rfl (Nat.le_of_ble_eq_true rfl) rfl dX0_follow_76 rfl (fun v9 u9 hp9 => ?_)
      obtain ⟨rfl, rfl⟩ := hp9
      refine u_perm (ws' := [(h0, .inr (0, [.ref ql, .ref qb, .ref qt, .int (nI n)])), (ql, aL G 300 (fL pl K)), (qb, aI G 300 bk), (qt, .inr (1, [.ref qw])), (qw, aI G 54 (encC (xW Z i v)))] ++ pool G pl pc Z K) (perm_mid3 [(h0, .inr (0, [.ref ql, .ref qb, .ref qt, .int (nI n)])), (ql, aL G 300 (fL pl K)), (qb, aI G 300 bk), (qt, .inr (1, [.ref qw])), (qw, aI G 54 (encC (xW Z i v)))] [] (pool G pl pc Z K)) ?_
      refine u_eqc (cells' := 0) (slots' := 0) (Nat.add_zero _) (Nat.add_zero _) ?_
      refine u_eqs (st' := [.int (bI (xHas Z bk (xW Z i v) (xb Z bk i v bt) n))]) rfl ?_
      refine u_if_ne_B (tgt := 91) h dX0_follow_79 (by decide) rfl (fun c3 => ?_) (fun c3 => ?_)
      · refine u_iconst (v := 1) h dX0_follow_91 (by decide) rfl ?_
        refine u_goto (tgt := 96) h dX0_follow_92 (by decide) ?_
        exact u_zret h hRT dX0_follow_96 rfl (by omega) (by omega) (by have hC : foC Z bk n i v bt = false := (by unfold foC; rw [c3]; simp); have hN : foN Z bk n i v bt = n := if_neg (by rw [hC]; decide); have hmx : max K n = K := (by omega); exact ⟨by rw [foK, hC]; rfl, xW Z i v, pl, pc, by rw [foZ, foB, hN, hmx, if_neg (by rw [hC]; decide), if_neg (by rw [hC]; decide)]⟩)
      · have hC : foC Z bk n i v bt = true := by unfold foC; rw [decide_eq_true c1, c3]; rfl
        have hN : foN Z bk n i v bt = xn n := if_pos hC
        refine u_aload_n h dX0_follow_82 rfl 2 rfl rfl ?_
        refine u_iload h dX0_follow_83 0 rfl rfl ?_
        refine u_perm (ws' := ([(h0, .inr (0, [.ref ql, .ref qb, .ref qt, .int (nI n)])), (ql, aL G 300 (fL pl K)), (qb, aI G 300 bk), (qt, .inr (1, [.ref qw])), (qw, aI G 54 (encC (xW Z i v)))] ++ pool G pl pc Z K) ++ ([] : va_W)) (perm_mid2 [(h0, .inr (0, [.ref ql, .ref qb, .ref qt, .int (nI n)])), (ql, aL G 300 (fL pl K)), (qb, aI G 300 bk), (qt, .inr (1, [.ref qw])), (qw, aI G 54 (encC (xW Z i v)))] [] (pool G pl pc Z K)) ?_
        refine u_callVA h (As := [.int (xb Z bk i v bt)]) (wc := [(h0, .inr (0, [.ref ql, .ref qb, .ref qt, .int (nI n)])), (ql, aL G 300 (fL pl K)), (qb, aI G 300 bk), (qt, .inr (1, [.ref qw])), (qw, aI G 54 (encC (xW Z i v)))] ++ pool G pl pc Z K) (wr := []) (kX0_append G h0 ql qb qt qw pl pc Z bk (xW Z i v) n K hnK hK (xb Z bk i v bt)) cwX0_follow_X0_append rfl rfl hR ⟨⟨rfl, rfl⟩, Nat.le_of_ble_eq_true rfl, Nat.le_of_ble_eq_true rfl⟩ ⟨by show 0 + (2 * (max K (xn n) - K)) ≤ 2 * (max K (foN Z bk n i v bt) - K); rw [hN]; omega, by show 0 + (55 * (max K (xn n) - K)) ≤ 55 * (max K (foN Z bk n i v bt) - K); rw [hN]; omega⟩ (ci := 0) (qr := 0) rfl rfl (Nat.le_of_ble_eq_true rfl) rfl dX0_follow_85 rfl (fun v9 u9 hp9 => ?_)
        obtain ⟨rfl, p4, p5, rfl⟩ := hp9
        refine u_perm (ws' := [(h0, .inr (0, [.ref ql, .ref qb, .ref qt, .int (nI (xn n))])), (ql, aL G 300 (fL p4 (max K (xn n)))), (qb, aI G 300 (xB bk n (xb Z bk i v bt))), (qt, .inr (1, [.ref qw])), (qw, aI G 54 (encC (xW Z i v)))] ++ pool G p4 p5 (xZ Z n (xW Z i v)) (max K (xn n))) (perm_mid3 [(h0, .inr (0, [.ref ql, .ref qb, .ref qt, .int (nI (xn n))])), (ql, aL G 300 (fL p4 (max K (xn n)))), (qb, aI G 300 (xB bk n (xb Z bk i v bt))), (qt, .inr (1, [.ref qw])), (qw, aI G 54 (encC (xW Z i v)))] [] (pool G p4 p5 (xZ Z n (xW Z i v)) (max K (xn n)))) ?_
        refine u_eqc (cells' := 2 * (max K (xn n) - K)) (slots' := 55 * (max K (xn n) - K)) (Nat.zero_add _) (Nat.zero_add _) ?_
        refine u_eqs (st' := [.int (bI (decide (n < 300)))]) rfl ?_
        refine u_if_eq_B (tgt := 95) h dX0_follow_88 (by decide) rfl (fun c6 => ?_) (fun c6 => ?_)
        · refine u_iconst (v := 0) h dX0_follow_95 (by decide) rfl ?_
          exact u_zret h hRT dX0_follow_96 rfl (by omega) (by omega) (by exact ⟨by rw [foK, hC, c6]; rfl, xW Z i v, p4, p5, by rw [foZ, foB, hN, if_pos hC, if_pos hC]⟩)
        · refine u_iconst (v := 1) h dX0_follow_91 (by decide) rfl ?_
          refine u_goto (tgt := 96) h dX0_follow_92 (by decide) ?_
          exact u_zret h hRT dX0_follow_96 rfl (by omega) (by omega) (by exact ⟨by rw [foK, hC, c6]; rfl, xW Z i v, p4, p5, by rw [foZ, foB, hN, if_pos hC, if_pos hC]⟩)
    · refine u_aload_n h dX0_follow_54 rfl 1 rfl rfl ?_
      refine u_get h flX0_follow_17 0 (v := .ref qb) rfl rfl dX0_follow_55 rfl ?_
      refine u_iload_n h dX0_follow_58 rfl 2 rfl rfl ?_
      refine u_iald h (n := i) 2 rfl (by omega) (by omega) dX0_follow_59 rfl ?_
      refine u_iload_n h dX0_follow_60 rfl 4 rfl rfl ?_
      refine u_ior (v := ((bk i) ||| bt)) h dX0_follow_61 rfl rfl ?_
      refine u_goto (tgt := 71) h dX0_follow_62 (by decide) ?_
      refine u_top (y := xb Z bk i v bt) (by unfold xb; rw [if_pos c2]) ?_
      refine u_istore (lv' := [(5, .int (xb Z bk i v bt)), (4, .ref (pl i)), (0, .ref h0), (1, .int (nI i)), (2, .int (nI v)), (3, .int bt)]) h dX0_follow_71 (by rw [hL]; decide) rfl rfl ?_
      refine u_aload_n h dX0_follow_73 rfl 2 rfl rfl ?_
      refine u_iload h dX0_follow_74 0 rfl rfl ?_
      refine u_perm (ws' := ([(h0, .inr (0, [.ref ql, .ref qb, .ref qt, .int (nI n)])), (ql, aL G 300 (fL pl K)), (qb, aI G 300 bk), (qt, .inr (1, [.ref qw])), (qw, aI G 54 (encC (xW Z i v)))] ++ pool G pl pc Z K) ++ ([] : va_W)) (perm_mid2 [(h0, .inr (0, [.ref ql, .ref qb, .ref qt, .int (nI n)])), (ql, aL G 300 (fL pl K)), (qb, aI G 300 bk), (qt, .inr (1, [.ref qw])), (qw, aI G 54 (encC (xW Z i v)))] [] (pool G pl pc Z K)) ?_
      refine u_callVA h (As := [.int (xb Z bk i v bt)]) (wc := [(h0, .inr (0, [.ref ql, .ref qb, .ref qt, .int (nI n)])), (ql, aL G 300 (fL pl K)), (qb, aI G 300 bk), (qt, .inr (1, [.ref qw])), (qw, aI G 54 (encC (xW Z i v)))] ++ pool G pl pc Z K) (wr := []) (kX0_isKnown G h0 ql qb qt qw pl pc Z bk (xW Z i v) n K hnK hK (xb Z bk i v bt)) cwX0_follow_X0_isKnown rfl rfl hR ⟨⟨rfl, rfl⟩, Nat.le_of_ble_eq_true rfl, Nat.le_of_ble_eq_true rfl⟩ ⟨Nat.zero_le _, Nat.zero_le _⟩ (ci := 0) (qr := 0) rfl rfl (Nat.le_of_ble_eq_true rfl) rfl dX0_follow_76 rfl (fun v9 u9 hp9 => ?_)
      obtain ⟨rfl, rfl⟩ := hp9
      refine u_perm (ws' := [(h0, .inr (0, [.ref ql, .ref qb, .ref qt, .int (nI n)])), (ql, aL G 300 (fL pl K)), (qb, aI G 300 bk), (qt, .inr (1, [.ref qw])), (qw, aI G 54 (encC (xW Z i v)))] ++ pool G pl pc Z K) (perm_mid3 [(h0, .inr (0, [.ref ql, .ref qb, .ref qt, .int (nI n)])), (ql, aL G 300 (fL pl K)), (qb, aI G 300 bk), (qt, .inr (1, [.ref qw])), (qw, aI G 54 (encC (xW Z i v)))] [] (pool G pl pc Z K)) ?_
      refine u_eqc (cells' := 0) (slots' := 0) (Nat.add_zero _) (Nat.add_zero _) ?_
      refine u_eqs (st' := [.int (bI (xHas Z bk (xW Z i v) (xb Z bk i v bt) n))]) rfl ?_
      refine u_if_ne_B (tgt := 91) h dX0_follow_79 (by decide) rfl (fun c7 => ?_) (fun c7 => ?_)
      · refine u_iconst (v := 1) h dX0_follow_91 (by decide) rfl ?_
        refine u_goto (tgt := 96) h dX0_follow_92 (by decide) ?_
        exact u_zret h hRT dX0_follow_96 rfl (by omega) (by omega) (by have hC : foC Z bk n i v bt = false := (by unfold foC; rw [c7]; simp); have hN : foN Z bk n i v bt = n := if_neg (by rw [hC]; decide); have hmx : max K n = K := (by omega); exact ⟨by rw [foK, hC]; rfl, xW Z i v, pl, pc, by rw [foZ, foB, hN, hmx, if_neg (by rw [hC]; decide), if_neg (by rw [hC]; decide)]⟩)
      · have hC : foC Z bk n i v bt = true := by unfold foC; rw [decide_eq_true c1, c7]; rfl
        have hN : foN Z bk n i v bt = xn n := if_pos hC
        refine u_aload_n h dX0_follow_82 rfl 2 rfl rfl ?_
        refine u_iload h dX0_follow_83 0 rfl rfl ?_
        refine u_perm (ws' := ([(h0, .inr (0, [.ref ql, .ref qb, .ref qt, .int (nI n)])), (ql, aL G 300 (fL pl K)), (qb, aI G 300 bk), (qt, .inr (1, [.ref qw])), (qw, aI G 54 (encC (xW Z i v)))] ++ pool G pl pc Z K) ++ ([] : va_W)) (perm_mid2 [(h0, .inr (0, [.ref ql, .ref qb, .ref qt, .int (nI n)])), (ql, aL G 300 (fL pl K)), (qb, aI G 300 bk), (qt, .inr (1, [.ref qw])), (qw, aI G 54 (encC (xW Z i v)))] [] (pool G pl pc Z K)) ?_
        refine u_callVA h (As := [.int (xb Z bk i v bt)]) (wc := [(h0, .inr (0, [.ref ql, .ref qb, .ref qt, .int (nI n)])), (ql, aL G 300 (fL pl K)), (qb, aI G 300 bk), (qt, .inr (1, [.ref qw])), (qw, aI G 54 (encC (xW Z i v)))] ++ pool G pl pc Z K) (wr := []) (kX0_append G h0 ql qb qt qw pl pc Z bk (xW Z i v) n K hnK hK (xb Z bk i v bt)) cwX0_follow_X0_append rfl rfl hR ⟨⟨rfl, rfl⟩, Nat.le_of_ble_eq_true rfl, Nat.le_of_ble_eq_true rfl⟩ ⟨by show 0 + (2 * (max K (xn n) - K)) ≤ 2 * (max K (foN Z bk n i v bt) - K); rw [hN]; omega, by show 0 + (55 * (max K (xn n) - K)) ≤ 55 * (max K (foN Z bk n i v bt) - K); rw [hN]; omega⟩ (ci := 0) (qr := 0) rfl rfl (Nat.le_of_ble_eq_true rfl) rfl dX0_follow_85 rfl (fun v9 u9 hp9 => ?_)
        obtain ⟨rfl, p8, p9, rfl⟩ := hp9
        refine u_perm (ws' := [(h0, .inr (0, [.ref ql, .ref qb, .ref qt, .int (nI (xn n))])), (ql, aL G 300 (fL p8 (max K (xn n)))), (qb, aI G 300 (xB bk n (xb Z bk i v bt))), (qt, .inr (1, [.ref qw])), (qw, aI G 54 (encC (xW Z i v)))] ++ pool G p8 p9 (xZ Z n (xW Z i v)) (max K (xn n))) (perm_mid3 [(h0, .inr (0, [.ref ql, .ref qb, .ref qt, .int (nI (xn n))])), (ql, aL G 300 (fL p8 (max K (xn n)))), (qb, aI G 300 (xB bk n (xb Z bk i v bt))), (qt, .inr (1, [.ref qw])), (qw, aI G 54 (encC (xW Z i v)))] [] (pool G p8 p9 (xZ Z n (xW Z i v)) (max K (xn n)))) ?_
        refine u_eqc (cells' := 2 * (max K (xn n) - K)) (slots' := 55 * (max K (xn n) - K)) (Nat.zero_add _) (Nat.zero_add _) ?_
        refine u_eqs (st' := [.int (bI (decide (n < 300)))]) rfl ?_
        refine u_if_eq_B (tgt := 95) h dX0_follow_88 (by decide) rfl (fun c10 => ?_) (fun c10 => ?_)
        · refine u_iconst (v := 0) h dX0_follow_95 (by decide) rfl ?_
          exact u_zret h hRT dX0_follow_96 rfl (by omega) (by omega) (by exact ⟨by rw [foK, hC, c10]; rfl, xW Z i v, p8, p9, by rw [foZ, foB, hN, if_pos hC, if_pos hC]⟩)
        · refine u_iconst (v := 1) h dX0_follow_91 (by decide) rfl ?_
          refine u_goto (tgt := 96) h dX0_follow_92 (by decide) ?_
          exact u_zret h hRT dX0_follow_96 rfl (by omega) (by omega) (by exact ⟨by rw [foK, hC, c10]; rfl, xW Z i v, p8, p9, by rw [foZ, foB, hN, if_pos hC, if_pos hC]⟩)
  · refine u_iconst (v := 1) h dX0_follow_24 (by decide) rfl ?_
    exact u_zret h hRT dX0_follow_25 rfl (by omega) (by omega) (by have hC : foC Z bk n i v bt = false := (by unfold foC; rw [decide_eq_false c1]; rfl); have hN : foN Z bk n i v bt = n := if_neg (by rw [hC]; decide); have hmx : max K n = K := (by omega); exact ⟨by rw [foK, hC]; rfl, w, pl, pc, by rw [foZ, foB, hN, hmx, if_neg (by rw [hC]; decide), if_neg (by rw [hC]; decide)]⟩)
