theorem fwX0_explore_26 : FW wsX0_explore RX0 26 0 3 false .int := ⟨RX0, TX0, 4, tyX0, rfl, by decide, by decide +kernel, by decide +kernel, tyX0_ok, nmX0, rfl, by decide +kernel, rfl⟩
theorem flX0_explore_22 : FL wsX0_explore RX0 22 0 2 := ⟨RX0, TX0, 4, rfl, by decide, by decide +kernel, by decide +kernel⟩
theorem flX0_explore_26 : FL wsX0_explore RX0 26 0 3 := ⟨RX0, TX0, 4, rfl, by decide, by decide +kernel, by decide +kernel⟩
set_option maxRecDepth 20000 in
theorem cwX0_explore_X1_copyFrom : CWd wsX0_explore (wsV RX0 30 RX1 yX1_copyFrom wsX1_copyFrom) yX1_copyFrom wsX1_copyFrom cX1_copyFrom 2 none 1 := ⟨gX0_explore_X1_copyFrom, ⟨_, rfl⟩, by decide +kernel, by decide, by decide⟩
set_option maxRecDepth 20000 in
theorem cwX0_explore_X0_append : CWd wsX0_explore (wsV RX0 34 RX0 yX0_append wsX0_append) yX0_append wsX0_append cX0_append 2 (some .boolean) 1 := ⟨gX0_explore_X0_append, ⟨_, rfl⟩, by decide +kernel, by decide, by decide⟩
set_option maxRecDepth 20000 in
theorem cwX0_explore_X0_follow : CWd wsX0_explore (wsV RX0 38 RX0 yX0_follow wsX0_follow) yX0_follow wsX0_follow cX0_follow 6 (some .boolean) 3 := ⟨gX0_explore_X0_follow, ⟨_, rfl⟩, by decide +kernel, by decide, by decide⟩
set_option maxHeartbeats 8000000 in
set_option maxRecDepth 100000 in
theorem kX0_explore (G : Gx) (h0 ql qb qt qw : Nat) (pl pc : Nat → Nat) (Z : Nat → Zf) (bk w : Zf) (l0 lc K : Nat) (x9 : Int32) (F z : Zf) (a b J : Nat) (hK : K ≤ 300) (hI : Inv z) (ha : a < 6) (hb : b < 6) (hO : OrOk F z a b J) : MC G yX0_explore wsX0_explore ({ frames := 6, cells := 2 * (max K (orS F z a b J).2.1 - K), slots := 55 * (max K (orS F z a b J).2.1 - K), locals := 130 } : Room) [.ref h0, .ref l0, .int (nI a), .int (nI b)] ([(h0, .inr (0, [.ref ql, .ref qb, .ref qt, .int x9])), (ql, aL G 300 (fL pl K)), (qb, aI G 300 bk), (qt, .inr (1, [.ref qw])), (qw, aI G 54 (encC w)), (l0, .inr (1, [.ref lc])), (lc, aI G 54 (encC z))] ++ pool G pl pc Z K) (fun v' u' => v' = some (.int (bI (orS F z a b J).2.2)) ∧ ∃ (p' c' : Nat → Nat) (Z' : Nat → Zf) (b' w' : Zf), Rel (orS F z a b J).1 z (orS F z a b J).2.1 Z' b' ∧ u' = [(h0, .inr (0, [.ref ql, .ref qb, .ref qt, .int (nI ((orS F z a b J).2.1))])), (ql, aL G 300 (fL p' (max K ((orS F z a b J).2.1)))), (qb, aI G 300 b'), (qt, .inr (1, [.ref qw])), (qw, aI G 54 (encC w')), (l0, .inr (1, [.ref lc])), (lc, aI G 54 (encC z))] ++ pool G p' c' Z' (max K ((orS F z a b J).2.1))) (2 * (max K (orS F z a b J).2.1 - K)) (55 * (max K (orS F z a b J).2.1 - K)) := by
  refine mc_of (cc := cX0_explore) (maxL := 5) (ret := (some .boolean)) (by decide) rfl (Nat.le_of_ble_eq_true rfl) (fun X h hR hL hRT => ?_)
  refine u_eql (lv' := [(0, .ref h0), (1, .ref l0), (2, .int (nI a)), (3, .int (nI b))]) rfl ?_
  refine u_aload_n h dX0_explore_0 rfl 0 rfl rfl ?_
  refine u_iconst (v := 0) h dX0_explore_1 (by decide) rfl ?_
  refine u_put h fwX0_explore_26 (ws' := [(h0, .inr (0, [.ref ql, .ref qb, .ref qt, .int 0])), (ql, aL G 300 (fL pl K)), (qb, aI G 300 bk), (qt, .inr (1, [.ref qw])), (qw, aI G 54 (encC w)), (l0, .inr (1, [.ref lc])), (lc, aI G 54 (encC z))] ++ pool G pl pc Z K) 0 rfl (Nat.le_of_ble_eq_true rfl) rfl rfl rfl dX0_explore_2 rfl ?_
  refine u_aload_n h dX0_explore_5 rfl 0 rfl rfl ?_
  refine u_get h flX0_explore_22 0 (v := .ref qt) rfl rfl dX0_explore_6 rfl ?_
  refine u_aload_n h dX0_explore_9 rfl 1 rfl rfl ?_
  refine u_wpT (W := [(h0, .inr (0, [.ref ql, .ref qb, .ref qt, .int 0])), (ql, aL G 300 (fL pl K)), (qb, aI G 300 bk), (qt, .inr (1, [.ref qw])), (qw, aI G 54 (encC w)), (l0, .inr (1, [.ref lc])), (lc, aI G 54 (encC z))]) (W' := [(qt, .inr (1, [.ref qw])), (qw, aI G 54 (encC w)), (l0, .inr (1, [.ref lc])), (lc, aI G 54 (encC z)), (h0, .inr (0, [.ref ql, .ref qb, .ref qt, .int 0])), (ql, aL G 300 (fL pl K)), (qb, aI G 300 bk)]) (T := pool G pl pc Z K) [3, 4, 5, 6, 0, 1, 2] rfl rfl ?_
  refine u_eqw (ws' := [(qt, .inr (1, [.ref qw])), (qw, aI G 54 (encC w)), (l0, .inr (1, [.ref lc])), (lc, aI G 54 (encC z))] ++ ([(h0, .inr (0, [.ref ql, .ref qb, .ref qt, .int 0])), (ql, aL G 300 (fL pl K)), (qb, aI G 300 bk)] ++ pool G pl pc Z K)) rfl ?_
  refine u_callVA h (As := [.ref l0]) (wc := [(qt, .inr (1, [.ref qw])), (qw, aI G 54 (encC w)), (l0, .inr (1, [.ref lc])), (lc, aI G 54 (encC z))]) (wr := [(h0, .inr (0, [.ref ql, .ref qb, .ref qt, .int 0])), (ql, aL G 300 (fL pl K)), (qb, aI G 300 bk)] ++ pool G pl pc Z K) (kX1_copyFrom G qt qw l0 lc w z) cwX0_explore_X1_copyFrom rfl rfl hR ⟨⟨rfl, rfl⟩, Nat.le_of_ble_eq_true rfl, Nat.le_of_ble_eq_true rfl⟩ ⟨Nat.zero_le _, Nat.zero_le _⟩ (ci := 1) (qr := 0) rfl rfl (Nat.le_of_ble_eq_true rfl) rfl dX0_explore_10 rfl (fun v9 u9 hp9 => ?_)
  obtain ⟨rfl, rfl⟩ := hp9
  refine u_eqw (ws' := [(qt, .inr (1, [.ref qw])), (qw, aI G 54 (encC z)), (l0, .inr (1, [.ref lc])), (lc, aI G 54 (encC z)), (h0, .inr (0, [.ref ql, .ref qb, .ref qt, .int 0])), (ql, aL G 300 (fL pl K)), (qb, aI G 300 bk)] ++ pool G pl pc Z K) rfl ?_
  refine u_eqc (cells' := 0) (slots' := 0) (Nat.add_zero _) (Nat.add_zero _) ?_
  refine u_wpT (W := [(qt, .inr (1, [.ref qw])), (qw, aI G 54 (encC z)), (l0, .inr (1, [.ref lc])), (lc, aI G 54 (encC z)), (h0, .inr (0, [.ref ql, .ref qb, .ref qt, .int 0])), (ql, aL G 300 (fL pl K)), (qb, aI G 300 bk)]) (W' := [(h0, .inr (0, [.ref ql, .ref qb, .ref qt, .int 0])), (ql, aL G 300 (fL pl K)), (qb, aI G 300 bk), (qt, .inr (1, [.ref qw])), (qw, aI G 54 (encC z)), (l0, .inr (1, [.ref lc])), (lc, aI G 54 (encC z))]) (T := pool G pl pc Z K) [4, 5, 6, 0, 1, 2, 3] rfl rfl ?_
  refine u_eqs (st' := []) rfl ?_
  refine u_eqw (ws' := [(h0, .inr (0, [.ref ql, .ref qb, .ref qt, .int (nI 0)])), (ql, aL G 300 (fL pl K)), (qb, aI G 300 bk), (qt, .inr (1, [.ref qw])), (qw, aI G 54 (encC z)), (l0, .inr (1, [.ref lc])), (lc, aI G 54 (encC z))] ++ pool G pl pc Z K) rfl ?_
  have hN0 : (orS F z a b 0).2.1 = xn 0 := (orS_0 F z a b).1
  have hJ0 := orS_mono F z a b (Nat.zero_le J)
  have hJ3 := orS_le F z a b J
  refine u_aload_n h dX0_explore_13 rfl 0 rfl rfl ?_
  refine u_iconst (v := 0) h dX0_explore_14 (by decide) rfl ?_
  refine u_perm (ws' := ([(h0, .inr (0, [.ref ql, .ref qb, .ref qt, .int (nI 0)])), (ql, aL G 300 (fL pl K)), (qb, aI G 300 bk), (qt, .inr (1, [.ref qw])), (qw, aI G 54 (encC z))] ++ pool G pl pc Z K) ++ ([(l0, .inr (1, [.ref lc])), (lc, aI G 54 (encC z))] : va_W)) (perm_mid2 [(h0, .inr (0, [.ref ql, .ref qb, .ref qt, .int (nI 0)])), (ql, aL G 300 (fL pl K)), (qb, aI G 300 bk), (qt, .inr (1, [.ref qw])), (qw, aI G 54 (encC z))] [(l0, .inr (1, [.ref lc])), (lc, aI G 54 (encC z))] (pool G pl pc Z K)) ?_
  refine u_callVA h (As := [.int 0]) (wc := [(h0, .inr (0, [.ref ql, .ref qb, .ref qt, .int (nI 0)])), (ql, aL G 300 (fL pl K)), (qb, aI G 300 bk), (qt, .inr (1, [.ref qw])), (qw, aI G 54 (encC z))] ++ pool G pl pc Z K) (wr := [(l0, .inr (1, [.ref lc])), (lc, aI G 54 (encC z))]) (kX0_append G h0 ql qb qt qw pl pc Z bk z 0 K (Nat.zero_le K) hK 0) cwX0_explore_X0_append rfl rfl hR ⟨⟨rfl, rfl⟩, Nat.le_of_ble_eq_true rfl, Nat.le_of_ble_eq_true rfl⟩ ⟨by show 0 + (2 * (max K (xn 0) - K)) ≤ 2 * (max K (orS F z a b J).2.1 - K); rw [← hN0]; omega, by show 0 + (55 * (max K (xn 0) - K)) ≤ 55 * (max K (orS F z a b J).2.1 - K); rw [← hN0]; omega⟩ (ci := 0) (qr := 0) rfl rfl (Nat.le_of_ble_eq_true rfl) rfl dX0_explore_15 rfl (fun v9 u9 hp9 => ?_)
  obtain ⟨rfl, p0, c0, rfl⟩ := hp9
  refine u_perm (ws' := [(h0, .inr (0, [.ref ql, .ref qb, .ref qt, .int (nI (xn 0))])), (ql, aL G 300 (fL p0 (max K (xn 0)))), (qb, aI G 300 (xB bk 0 0)), (qt, .inr (1, [.ref qw])), (qw, aI G 54 (encC z)), (l0, .inr (1, [.ref lc])), (lc, aI G 54 (encC z))] ++ pool G p0 c0 (xZ Z 0 z) (max K (xn 0))) (perm_mid3 [(h0, .inr (0, [.ref ql, .ref qb, .ref qt, .int (nI (xn 0))])), (ql, aL G 300 (fL p0 (max K (xn 0)))), (qb, aI G 300 (xB bk 0 0)), (qt, .inr (1, [.ref qw])), (qw, aI G 54 (encC z))] [(l0, .inr (1, [.ref lc])), (lc, aI G 54 (encC z))] (pool G p0 c0 (xZ Z 0 z) (max K (xn 0)))) ?_
  refine u_eqc (cells' := 2 * ((max K (orS F z a b 0).2.1) - K)) (slots' := 55 * ((max K (orS F z a b 0).2.1) - K)) (by rw [hN0, Nat.zero_add]) (by rw [hN0, Nat.zero_add]) ?_
  refine u_eqs (st' := [.int (bI (decide (0 < 300)))]) rfl ?_
  refine u_pop h dX0_explore_18 rfl rfl ?_
  refine u_eqw (ws' := [(h0, .inr (0, [.ref ql, .ref qb, .ref qt, .int (nI ((orS F z a b 0).2.1))])), (ql, aL G 300 (fL p0 (max K (orS F z a b 0).2.1))), (qb, aI G 300 (xB bk 0 0)), (qt, .inr (1, [.ref qw])), (qw, aI G 54 (encC z)), (l0, .inr (1, [.ref lc])), (lc, aI G 54 (encC z))] ++ pool G p0 c0 (xZ Z 0 z) (max K (orS F z a b 0).2.1)) (by rw [hN0]) ?_
  have hR0 := rel_0 (f := F) (a := a) (b := b) (Z := Z) (bk := bk) hI
  refine u_iconst (v := 0) h dX0_explore_19 (by decide) rfl ?_
  refine u_istore (lv' := [(4, .int 0), (0, .ref h0), (1, .ref l0), (2, .int (nI a)), (3, .int (nI b))]) h dX0_explore_20 (by rw [hL]; decide) rfl rfl ?_
  have LL : ∀ (k9 : Nat) (i : Nat) (gp : Nat → Nat) (gc : Nat → Nat) (gz : Nat → Zf) (gb : Zf) (gw : Zf), J - i = k9 → (i ≤ J) → ((orS F z a b i).2.2 = true) → (Rel (orS F z a b i).1 z (orS F z a b i).2.1 gz gb) → U G X (2 * ((max K (orS F z a b i).2.1) - K)) (55 * ((max K (orS F z a b i).2.1) - K)) ([(h0, .inr (0, [.ref ql, .ref qb, .ref qt, .int (nI ((orS F z a b i).2.1))])), (ql, aL G 300 (fL gp (max K (orS F z a b i).2.1))), (qb, aI G 300 gb), (qt, .inr (1, [.ref qw])), (qw, aI G 54 (encC gw)), (l0, .inr (1, [.ref lc])), (lc, aI G 54 (encC z))] ++ pool G gp gc gz (max K (orS F z a b i).2.1)) 22 [(4, .int (nI i)), (0, .ref h0), (1, .ref l0), (2, .int (nI a)), (3, .int (nI b))] [] := by
    intro k9
    induction k9 using Nat.strongRecOn with
    | _ k9 ihL =>
      intro i gp gc gz gb gw hk9 hi hok hRl
      subst hk9
      have hJ3 := hO.2.2.2
      have hN3 := orS_le F z a b i
      have hNJ := orS_mono F z a b hi
      refine u_iload h dX0_explore_22 0 rfl rfl ?_
      refine u_aload_n h dX0_explore_24 rfl 1 rfl rfl ?_
      refine u_get h flX0_explore_26 0 (v := .int (nI ((orS F z a b i).2.1))) rfl rfl dX0_explore_25 rfl ?_
      refine u_icmp_ge_N (a := i) (b := ((orS F z a b i).2.1)) (tgt := 69) h dX0_explore_28 (by decide) (by omega) (by omega) rfl (fun c1 => ?_) (fun c1 => ?_)
      · refine u_iconst (v := 1) h dX0_explore_69 (by decide) rfl ?_
        exact u_zret h hRT dX0_explore_70 rfl (by show 2 * ((max K (orS F z a b i).2.1) - K) ≤ 2 * (max K (orS F z a b J).2.1 - K); omega) (by show 55 * ((max K (orS F z a b i).2.1) - K) ≤ 55 * (max K (orS F z a b J).2.1 - K); omega) (by have eJ := or_eq hO hi (Or.inl c1); subst eJ; exact ⟨by rw [hok]; rfl, gp, gc, gz, gb, gw, hRl, rfl⟩)
      · refine u_iload h dX0_explore_31 0 rfl rfl ?_
        refine u_sipush (v := 300) h dX0_explore_33 (by decide) rfl ?_
        refine u_icmp_ge_N (a := i) (b := 300) (tgt := 69) h dX0_explore_36 (by decide) (by omega) (by omega) rfl (fun c2 => ?_) (fun c2 => ?_)
        · omega
        · have hiJ : i < J := or_lt hO hi c1 hok
          have hRw := rows_or (f := F) hI ha hb i (fun j hj => (hO.1 j (by omega)).1)
          have hM1 := orS_mono F z a b (show i + 1 ≤ J from hiJ)
          have hL1 := fN1_le (f := (orS F z a b i).1) (t := (tkZ (orS F z a b i).1 z i)) (k := i) (a := a) hN3
          have hL2 : (fN1 (orS F z a b i).1 (tkZ (orS F z a b i).1 z i) i a (orS F z a b i).2.1) ≤ (orS F z a b (i + 1)).2.1 := fN12_le hN3
          obtain ⟨k1, k2, k3⟩ := fol_1 hRw hRl hN3 hI.h53 c1 ha
          have hW1 : Wc (gz i) := by rw [(hRl i c1).1]; exact row_wc (hRw i c1).1 hI.h53
          refine u_aload_n h dX0_explore_39 rfl 1 rfl rfl ?_
          refine u_iload h dX0_explore_40 0 rfl rfl ?_
          refine u_iload_n h dX0_explore_42 rfl 3 rfl rfl ?_
          refine u_iconst (v := 1) h dX0_explore_43 (by decide) rfl ?_
          refine u_perm (ws' := ([(h0, .inr (0, [.ref ql, .ref qb, .ref qt, .int (nI ((orS F z a b i).2.1))])), (ql, aL G 300 (fL gp (max K (orS F z a b i).2.1))), (qb, aI G 300 gb), (qt, .inr (1, [.ref qw])), (qw, aI G 54 (encC gw))] ++ pool G gp gc gz (max K (orS F z a b i).2.1)) ++ ([(l0, .inr (1, [.ref lc])), (lc, aI G 54 (encC z))] : va_W)) (perm_mid2 [(h0, .inr (0, [.ref ql, .ref qb, .ref qt, .int (nI ((orS F z a b i).2.1))])), (ql, aL G 300 (fL gp (max K (orS F z a b i).2.1))), (qb, aI G 300 gb), (qt, .inr (1, [.ref qw])), (qw, aI G 54 (encC gw))] [(l0, .inr (1, [.ref lc])), (lc, aI G 54 (encC z))] (pool G gp gc gz (max K (orS F z a b i).2.1))) ?_
          refine u_callVA h (As := [.int (nI i), .int (nI a), .int 1]) (wc := [(h0, .inr (0, [.ref ql, .ref qb, .ref qt, .int (nI ((orS F z a b i).2.1))])), (ql, aL G 300 (fL gp (max K (orS F z a b i).2.1))), (qb, aI G 300 gb), (qt, .inr (1, [.ref qw])), (qw, aI G 54 (encC gw))] ++ pool G gp gc gz (max K (orS F z a b i).2.1)) (wr := [(l0, .inr (1, [.ref lc])), (lc, aI G 54 (encC z))]) (kX0_follow G h0 ql qb qt qw gp gc gz gb gw (orS F z a b i).2.1 (max K (orS F z a b i).2.1) (Nat.le_max_right _ _) (by omega) i a 1 c1 ha hW1) cwX0_explore_X0_follow rfl rfl hR ⟨⟨rfl, rfl⟩, Nat.le_of_ble_eq_true rfl, Nat.le_of_ble_eq_true rfl⟩ ⟨by show 2 * ((max K (orS F z a b i).2.1) - K) + (2 * ((max (max K (orS F z a b i).2.1) (foN gz gb (orS F z a b i).2.1 i a 1)) - (max K (orS F z a b i).2.1))) ≤ 2 * (max K (orS F z a b J).2.1 - K); rw [k2]; omega, by show 55 * ((max K (orS F z a b i).2.1) - K) + (55 * ((max (max K (orS F z a b i).2.1) (foN gz gb (orS F z a b i).2.1 i a 1)) - (max K (orS F z a b i).2.1))) ≤ 55 * (max K (orS F z a b J).2.1 - K); rw [k2]; omega⟩ (ci := 0) (qr := 0) rfl rfl (Nat.le_of_ble_eq_true rfl) rfl dX0_explore_44 rfl (fun v9 u9 hp9 => ?_)
          obtain ⟨rfl, w5, p3, p4, rfl⟩ := hp9
          refine u_perm (ws' := [(h0, .inr (0, [.ref ql, .ref qb, .ref qt, .int (nI (foN gz gb (orS F z a b i).2.1 i a 1))])), (ql, aL G 300 (fL p3 (max (max K (orS F z a b i).2.1) (foN gz gb (orS F z a b i).2.1 i a 1)))), (qb, aI G 300 (foB gz gb (orS F z a b i).2.1 i a 1)), (qt, .inr (1, [.ref qw])), (qw, aI G 54 (encC w5)), (l0, .inr (1, [.ref lc])), (lc, aI G 54 (encC z))] ++ pool G p3 p4 (foZ gz gb (orS F z a b i).2.1 i a 1) (max (max K (orS F z a b i).2.1) (foN gz gb (orS F z a b i).2.1 i a 1))) (perm_mid3 [(h0, .inr (0, [.ref ql, .ref qb, .ref qt, .int (nI (foN gz gb (orS F z a b i).2.1 i a 1))])), (ql, aL G 300 (fL p3 (max (max K (orS F z a b i).2.1) (foN gz gb (orS F z a b i).2.1 i a 1)))), (qb, aI G 300 (foB gz gb (orS F z a b i).2.1 i a 1)), (qt, .inr (1, [.ref qw])), (qw, aI G 54 (encC w5))] [(l0, .inr (1, [.ref lc])), (lc, aI G 54 (encC z))] (pool G p3 p4 (foZ gz gb (orS F z a b i).2.1 i a 1) (max (max K (orS F z a b i).2.1) (foN gz gb (orS F z a b i).2.1 i a 1)))) ?_
          refine u_eqc (cells' := 2 * ((max K (fN1 (orS F z a b i).1 (tkZ (orS F z a b i).1 z i) i a (orS F z a b i).2.1)) - K)) (slots' := 55 * ((max K (fN1 (orS F z a b i).1 (tkZ (orS F z a b i).1 z i) i a (orS F z a b i).2.1)) - K)) (by rw [k2]; omega) (by rw [k2]; omega) ?_
          refine u_eqs (st' := [.int (bI (foK gz gb (orS F z a b i).2.1 i a 1))]) rfl ?_
          refine u_eqw (ws' := [(h0, .inr (0, [.ref ql, .ref qb, .ref qt, .int (nI (fN1 (orS F z a b i).1 (tkZ (orS F z a b i).1 z i) i a (orS F z a b i).2.1))])), (ql, aL G 300 (fL p3 (max K (fN1 (orS F z a b i).1 (tkZ (orS F z a b i).1 z i) i a (orS F z a b i).2.1)))), (qb, aI G 300 (foB gz gb (orS F z a b i).2.1 i a 1)), (qt, .inr (1, [.ref qw])), (qw, aI G 54 (encC w5)), (l0, .inr (1, [.ref lc])), (lc, aI G 54 (encC z))] ++ pool G p3 p4 (foZ gz gb (orS F z a b i).2.1 i a 1) (max K (fN1 (orS F z a b i).1 (tkZ (orS F z a b i).1 z i) i a (orS F z a b i).2.1))) (by rw [k2, show max (max K (orS F z a b i).2.1) (fN1 (orS F z a b i).1 (tkZ (orS F z a b i).1 z i) i a (orS F z a b i).2.1) = (max K (fN1 (orS F z a b i).1 (tkZ (orS F z a b i).1 z i) i a (orS F z a b i).2.1)) by omega]) ?_
          refine u_top (y := bI (fK1 (orS F z a b i).1 (tkZ (orS F z a b i).1 z i) i a (orS F z a b i).2.1)) (by rw [k1]) ?_
          refine u_if_eq_B (tgt := 61) h dX0_explore_47 (by decide) rfl (fun c6 => ?_) (fun c6 => ?_)
          · refine u_iconst (v := 0) h dX0_explore_61 (by decide) rfl ?_
            exact u_zret h hRT dX0_explore_62 rfl (by show 2 * ((max K (fN1 (orS F z a b i).1 (tkZ (orS F z a b i).1 z i) i a (orS F z a b i).2.1)) - K) ≤ 2 * (max K (orS F z a b J).2.1 - K); omega) (by show 55 * ((max K (fN1 (orS F z a b i).1 (tkZ (orS F z a b i).1 z i) i a (orS F z a b i).2.1)) - K) ≤ 55 * (max K (orS F z a b J).2.1 - K); omega) (by have hf := fol_n c6; have eJ := or_eq hO (show i + 1 ≤ J from hiJ) (Or.inr hf.2.2); subst eJ; exact ⟨by rw [hf.2.2]; rfl, p3, p4, (foZ gz gb (orS F z a b i).2.1 i a 1), (foB gz gb (orS F z a b i).2.1 i a 1), w5, by rw [hf.1, hf.2.1]; exact k3, by rw [hf.2.1]⟩)
          · obtain ⟨k4, k5, k6⟩ := fol_b hI ha hb hRw c1 c6 k3
            have hW2 : Wc (foZ gz gb (orS F z a b i).2.1 i a 1 i) := by rw [(k3 i (show i < (fN1 (orS F z a b i).1 (tkZ (orS F z a b i).1 z i) i a (orS F z a b i).2.1) by omega)).1, show tkZ (fF1 (orS F z a b i).1 (tkZ (orS F z a b i).1 z i) i a (orS F z a b i).2.1) z i = (tkZ (orS F z a b i).1 z i) from tk_row (fun j hj => fF1_row c1 (by omega)) (fun _ _ => rfl)]; exact row_wc (hRw i c1).1 hI.h53
            refine u_aload_n h dX0_explore_50 rfl 1 rfl rfl ?_
            refine u_iload h dX0_explore_51 0 rfl rfl ?_
            refine u_iload_n h dX0_explore_53 rfl 4 rfl rfl ?_
            refine u_iconst (v := 2) h dX0_explore_54 (by decide) rfl ?_
            refine u_perm (ws' := ([(h0, .inr (0, [.ref ql, .ref qb, .ref qt, .int (nI (fN1 (orS F z a b i).1 (tkZ (orS F z a b i).1 z i) i a (orS F z a b i).2.1))])), (ql, aL G 300 (fL p3 (max K (fN1 (orS F z a b i).1 (tkZ (orS F z a b i).1 z i) i a (orS F z a b i).2.1)))), (qb, aI G 300 (foB gz gb (orS F z a b i).2.1 i a 1)), (qt, .inr (1, [.ref qw])), (qw, aI G 54 (encC w5))] ++ pool G p3 p4 (foZ gz gb (orS F z a b i).2.1 i a 1) (max K (fN1 (orS F z a b i).1 (tkZ (orS F z a b i).1 z i) i a (orS F z a b i).2.1))) ++ ([(l0, .inr (1, [.ref lc])), (lc, aI G 54 (encC z))] : va_W)) (perm_mid2 [(h0, .inr (0, [.ref ql, .ref qb, .ref qt, .int (nI (fN1 (orS F z a b i).1 (tkZ (orS F z a b i).1 z i) i a (orS F z a b i).2.1))])), (ql, aL G 300 (fL p3 (max K (fN1 (orS F z a b i).1 (tkZ (orS F z a b i).1 z i) i a (orS F z a b i).2.1)))), (qb, aI G 300 (foB gz gb (orS F z a b i).2.1 i a 1)), (qt, .inr (1, [.ref qw])), (qw, aI G 54 (encC w5))] [(l0, .inr (1, [.ref lc])), (lc, aI G 54 (encC z))] (pool G p3 p4 (foZ gz gb (orS F z a b i).2.1 i a 1) (max K (fN1 (orS F z a b i).1 (tkZ (orS F z a b i).1 z i) i a (orS F z a b i).2.1)))) ?_
            refine u_callVA h (As := [.int (nI i), .int (nI b), .int 2]) (wc := [(h0, .inr (0, [.ref ql, .ref qb, .ref qt, .int (nI (fN1 (orS F z a b i).1 (tkZ (orS F z a b i).1 z i) i a (orS F z a b i).2.1))])), (ql, aL G 300 (fL p3 (max K (fN1 (orS F z a b i).1 (tkZ (orS F z a b i).1 z i) i a (orS F z a b i).2.1)))), (qb, aI G 300 (foB gz gb (orS F z a b i).2.1 i a 1)), (qt, .inr (1, [.ref qw])), (qw, aI G 54 (encC w5))] ++ pool G p3 p4 (foZ gz gb (orS F z a b i).2.1 i a 1) (max K (fN1 (orS F z a b i).1 (tkZ (orS F z a b i).1 z i) i a (orS F z a b i).2.1))) (wr := [(l0, .inr (1, [.ref lc])), (lc, aI G 54 (encC z))]) (kX0_follow G h0 ql qb qt qw p3 p4 (foZ gz gb (orS F z a b i).2.1 i a 1) (foB gz gb (orS F z a b i).2.1 i a 1) w5 (fN1 (orS F z a b i).1 (tkZ (orS F z a b i).1 z i) i a (orS F z a b i).2.1) (max K (fN1 (orS F z a b i).1 (tkZ (orS F z a b i).1 z i) i a (orS F z a b i).2.1)) (Nat.le_max_right _ _) (by omega) i b 2 (show i < (fN1 (orS F z a b i).1 (tkZ (orS F z a b i).1 z i) i a (orS F z a b i).2.1) by omega) hb hW2) cwX0_explore_X0_follow rfl rfl hR ⟨⟨rfl, rfl⟩, Nat.le_of_ble_eq_true rfl, Nat.le_of_ble_eq_true rfl⟩ ⟨by show 2 * ((max K (fN1 (orS F z a b i).1 (tkZ (orS F z a b i).1 z i) i a (orS F z a b i).2.1)) - K) + (2 * ((max (max K (fN1 (orS F z a b i).1 (tkZ (orS F z a b i).1 z i) i a (orS F z a b i).2.1)) (foN (foZ gz gb (orS F z a b i).2.1 i a 1) (foB gz gb (orS F z a b i).2.1 i a 1) (fN1 (orS F z a b i).1 (tkZ (orS F z a b i).1 z i) i a (orS F z a b i).2.1) i b 2)) - (max K (fN1 (orS F z a b i).1 (tkZ (orS F z a b i).1 z i) i a (orS F z a b i).2.1)))) ≤ 2 * (max K (orS F z a b J).2.1 - K); rw [k5]; omega, by show 55 * ((max K (fN1 (orS F z a b i).1 (tkZ (orS F z a b i).1 z i) i a (orS F z a b i).2.1)) - K) + (55 * ((max (max K (fN1 (orS F z a b i).1 (tkZ (orS F z a b i).1 z i) i a (orS F z a b i).2.1)) (foN (foZ gz gb (orS F z a b i).2.1 i a 1) (foB gz gb (orS F z a b i).2.1 i a 1) (fN1 (orS F z a b i).1 (tkZ (orS F z a b i).1 z i) i a (orS F z a b i).2.1) i b 2)) - (max K (fN1 (orS F z a b i).1 (tkZ (orS F z a b i).1 z i) i a (orS F z a b i).2.1)))) ≤ 55 * (max K (orS F z a b J).2.1 - K); rw [k5]; omega⟩ (ci := 0) (qr := 0) rfl rfl (Nat.le_of_ble_eq_true rfl) rfl dX0_explore_55 rfl (fun v9 u9 hp9 => ?_)
            obtain ⟨rfl, w9, p7, p8, rfl⟩ := hp9
            refine u_perm (ws' := [(h0, .inr (0, [.ref ql, .ref qb, .ref qt, .int (nI (foN (foZ gz gb (orS F z a b i).2.1 i a 1) (foB gz gb (orS F z a b i).2.1 i a 1) (fN1 (orS F z a b i).1 (tkZ (orS F z a b i).1 z i) i a (orS F z a b i).2.1) i b 2))])), (ql, aL G 300 (fL p7 (max (max K (fN1 (orS F z a b i).1 (tkZ (orS F z a b i).1 z i) i a (orS F z a b i).2.1)) (foN (foZ gz gb (orS F z a b i).2.1 i a 1) (foB gz gb (orS F z a b i).2.1 i a 1) (fN1 (orS F z a b i).1 (tkZ (orS F z a b i).1 z i) i a (orS F z a b i).2.1) i b 2)))), (qb, aI G 300 (foB (foZ gz gb (orS F z a b i).2.1 i a 1) (foB gz gb (orS F z a b i).2.1 i a 1) (fN1 (orS F z a b i).1 (tkZ (orS F z a b i).1 z i) i a (orS F z a b i).2.1) i b 2)), (qt, .inr (1, [.ref qw])), (qw, aI G 54 (encC w9)), (l0, .inr (1, [.ref lc])), (lc, aI G 54 (encC z))] ++ pool G p7 p8 (foZ (foZ gz gb (orS F z a b i).2.1 i a 1) (foB gz gb (orS F z a b i).2.1 i a 1) (fN1 (orS F z a b i).1 (tkZ (orS F z a b i).1 z i) i a (orS F z a b i).2.1) i b 2) (max (max K (fN1 (orS F z a b i).1 (tkZ (orS F z a b i).1 z i) i a (orS F z a b i).2.1)) (foN (foZ gz gb (orS F z a b i).2.1 i a 1) (foB gz gb (orS F z a b i).2.1 i a 1) (fN1 (orS F z a b i).1 (tkZ (orS F z a b i).1 z i) i a (orS F z a b i).2.1) i b 2))) (perm_mid3 [(h0, .inr (0, [.ref ql, .ref qb, .ref qt, .int (nI (foN (foZ gz gb (orS F z a b i).2.1 i a 1) (foB gz gb (orS F z a b i).2.1 i a 1) (fN1 (orS F z a b i).1 (tkZ (orS F z a b i).1 z i) i a (orS F z a b i).2.1) i b 2))])), (ql, aL G 300 (fL p7 (max (max K (fN1 (orS F z a b i).1 (tkZ (orS F z a b i).1 z i) i a (orS F z a b i).2.1)) (foN (foZ gz gb (orS F z a b i).2.1 i a 1) (foB gz gb (orS F z a b i).2.1 i a 1) (fN1 (orS F z a b i).1 (tkZ (orS F z a b i).1 z i) i a (orS F z a b i).2.1) i b 2)))), (qb, aI G 300 (foB (foZ gz gb (orS F z a b i).2.1 i a 1) (foB gz gb (orS F z a b i).2.1 i a 1) (fN1 (orS F z a b i).1 (tkZ (orS F z a b i).1 z i) i a (orS F z a b i).2.1) i b 2)), (qt, .inr (1, [.ref qw])), (qw, aI G 54 (encC w9))] [(l0, .inr (1, [.ref lc])), (lc, aI G 54 (encC z))] (pool G p7 p8 (foZ (foZ gz gb (orS F z a b i).2.1 i a 1) (foB gz gb (orS F z a b i).2.1 i a 1) (fN1 (orS F z a b i).1 (tkZ (orS F z a b i).1 z i) i a (orS F z a b i).2.1) i b 2) (max (max K (fN1 (orS F z a b i).1 (tkZ (orS F z a b i).1 z i) i a (orS F z a b i).2.1)) (foN (foZ gz gb (orS F z a b i).2.1 i a 1) (foB gz gb (orS F z a b i).2.1 i a 1) (fN1 (orS F z a b i).1 (tkZ (orS F z a b i).1 z i) i a (orS F z a b i).2.1) i b 2)))) ?_
            refine u_eqc (cells' := 2 * ((max K (orS F z a b (i + 1)).2.1) - K)) (slots' := 55 * ((max K (orS F z a b (i + 1)).2.1) - K)) (by rw [k5]; omega) (by rw [k5]; omega) ?_
            refine u_eqs (st' := [.int (bI (foK (foZ gz gb (orS F z a b i).2.1 i a 1) (foB gz gb (orS F z a b i).2.1 i a 1) (fN1 (orS F z a b i).1 (tkZ (orS F z a b i).1 z i) i a (orS F z a b i).2.1) i b 2))]) rfl ?_
            refine u_eqw (ws' := [(h0, .inr (0, [.ref ql, .ref qb, .ref qt, .int (nI ((orS F z a b (i + 1)).2.1))])), (ql, aL G 300 (fL p7 (max K (orS F z a b (i + 1)).2.1))), (qb, aI G 300 (foB (foZ gz gb (orS F z a b i).2.1 i a 1) (foB gz gb (orS F z a b i).2.1 i a 1) (fN1 (orS F z a b i).1 (tkZ (orS F z a b i).1 z i) i a (orS F z a b i).2.1) i b 2)), (qt, .inr (1, [.ref qw])), (qw, aI G 54 (encC w9)), (l0, .inr (1, [.ref lc])), (lc, aI G 54 (encC z))] ++ pool G p7 p8 (foZ (foZ gz gb (orS F z a b i).2.1 i a 1) (foB gz gb (orS F z a b i).2.1 i a 1) (fN1 (orS F z a b i).1 (tkZ (orS F z a b i).1 z i) i a (orS F z a b i).2.1) i b 2) (max K (orS F z a b (i + 1)).2.1)) (by rw [k5, show max (max K (fN1 (orS F z a b i).1 (tkZ (orS F z a b i).1 z i) i a (orS F z a b i).2.1)) (orS F z a b (i + 1)).2.1 = (max K (orS F z a b (i + 1)).2.1) by omega]) ?_
            refine u_top (y := bI (orS F z a b (i + 1)).2.2) (by rw [k4]) ?_
            refine u_if_ne_B (tgt := 63) h dX0_explore_58 (by decide) rfl (fun c10 => ?_) (fun c10 => ?_)
            · refine u_iinc (k := 0) (v := (nI (i + 1))) (lv' := [(4, .int (nI (i + 1))), (0, .ref h0), (1, .ref l0), (2, .int (nI a)), (3, .int (nI b))]) h dX0_explore_63 rfl (nI_add i 1) (by rw [hL]; decide) rfl rfl ?_
              refine u_goto (tgt := 22) h dX0_explore_66 (by decide) ?_
              exact ihL _ (by omega) (i + 1) p7 p8 (foZ (foZ gz gb (orS F z a b i).2.1 i a 1) (foB gz gb (orS F z a b i).2.1 i a 1) (fN1 (orS F z a b i).1 (tkZ (orS F z a b i).1 z i) i a (orS F z a b i).2.1) i b 2) (foB (foZ gz gb (orS F z a b i).2.1 i a 1) (foB gz gb (orS F z a b i).2.1 i a 1) (fN1 (orS F z a b i).1 (tkZ (orS F z a b i).1 z i) i a (orS F z a b i).2.1) i b 2) w9 rfl hiJ (c10) k6
            · refine u_iconst (v := 0) h dX0_explore_61 (by decide) rfl ?_
              exact u_zret h hRT dX0_explore_62 rfl (by show 2 * ((max K (orS F z a b (i + 1)).2.1) - K) ≤ 2 * (max K (orS F z a b J).2.1 - K); omega) (by show 55 * ((max K (orS F z a b (i + 1)).2.1) - K) ≤ 55 * (max K (orS F z a b J).2.1 - K); omega) (by have eJ := or_eq hO (show i + 1 ≤ J from hiJ) (Or.inr c10); subst eJ; exact ⟨by rw [c10]; rfl, p7, p8, (foZ (foZ gz gb (orS F z a b i).2.1 i a 1) (foB gz gb (orS F z a b i).2.1 i a 1) (fN1 (orS F z a b i).1 (tkZ (orS F z a b i).1 z i) i a (orS F z a b i).2.1) i b 2), (foB (foZ gz gb (orS F z a b i).2.1 i a 1) (foB gz gb (orS F z a b i).2.1 i a 1) (fN1 (orS F z a b i).1 (tkZ (orS F z a b i).1 z i) i a (orS F z a b i).2.1) i b 2), w9, k6, rfl⟩)
  exact LL _ 0 p0 c0 (xZ Z 0 z) (xB bk 0 0) z rfl (Nat.zero_le J) (orS_0 F z a b).2 hR0

theorem flX0_countBothInside_26 : FL wsX0_countBothInside RX0 26 0 3 := ⟨RX0, TX0, 4, rfl, by decide, by decide +kernel, by decide +kernel⟩
theorem flX0_countBothInside_13 : FL wsX0_countBothInside RX0 13 0 0 := ⟨RX0, TX0, 4, rfl, by decide, by decide +kernel, by decide +kernel⟩
set_option maxRecDepth 20000 in
theorem cwX0_countBothInside_X1_stage : CWd wsX0_countBothInside (wsV RX0 46 RX1 yX1_stage wsX1_stage) yX1_stage wsX1_stage cX1_stage 2 (some .int) 1 := ⟨gX0_countBothInside_X1_stage, ⟨_, rfl⟩, by decide +kernel, by decide, by decide⟩
set_option maxHeartbeats 8000000 in
set_option maxRecDepth 100000 in
theorem kX0_countBothInside (G : Gx) (h0 ql qb qt qw : Nat) (pl pc : Nat → Nat) (Z : Nat → Zf) (bk w : Zf) (n K : Nat) (F z : Zf) (a b : Nat) (hnK : n ≤ K) (hK : K ≤ 300) (h53 : ∃ m : Nat, m ≤ 6 ∧ z 53 = nI m) (ha : a < 6) (hb : b < 6) (hRw : RowsOk F z n) (hRl : Rel F z n Z bk) : MC G yX0_countBothInside wsX0_countBothInside ({ frames := 1, cells := 0, slots := 0, locals := 21 } : Room) [.ref h0, .int (nI a), .int (nI b)] ([(h0, .inr (0, [.ref ql, .ref qb, .ref qt, .int (nI n)])), (ql, aL G 300 (fL pl K)), (qb, aI G 300 bk), (qt, .inr (1, [.ref qw])), (qw, aI G 54 (encC w))] ++ pool G pl pc Z K) (fun v' u' => v' = some (.int (cfN F z a b true n)) ∧ u' = [(h0, .inr (0, [.ref ql, .ref qb, .ref qt, .int (nI n)])), (ql, aL G 300 (fL pl K)), (qb, aI G 300 bk), (qt, .inr (1, [.ref qw])), (qw, aI G 54 (encC w))] ++ pool G pl pc Z K) 0 0 := by
  refine mc_of (cc := cX0_countBothInside) (maxL := 6) (ret := (some .int)) (by decide) rfl (Nat.le_of_ble_eq_true rfl) (fun X h hR hL hRT => ?_)
  refine u_eql (lv' := [(0, .ref h0), (1, .int (nI a)), (2, .int (nI b))]) rfl ?_
  refine u_iconst (v := 0) h dX0_countBothInside_0 (by decide) rfl ?_
  refine u_istore_n (lv' := [(3, .int 0), (0, .ref h0), (1, .int (nI a)), (2, .int (nI b))]) h dX0_countBothInside_1 rfl (by rw [hL]; decide) rfl rfl ?_
  refine u_iconst (v := 0) h dX0_countBothInside_2 (by decide) rfl ?_
  refine u_istore (lv' := [(4, .int 0), (3, .int 0), (0, .ref h0), (1, .int (nI a)), (2, .int (nI b))]) h dX0_countBothInside_3 (by rw [hL]; decide) rfl rfl ?_
  have LL : ∀ (k9 : Nat) (i : Nat) (s : Int32), n - i = k9 → (i ≤ n) → (s = cfN F z a b true i) → U G X 0 0 ([(h0, .inr (0, [.ref ql, .ref qb, .ref qt, .int (nI n)])), (ql, aL G 300 (fL pl K)), (qb, aI G 300 bk), (qt, .inr (1, [.ref qw])), (qw, aI G 54 (encC w))] ++ pool G pl pc Z K) 5 [(4, .int (nI i)), (3, .int s), (0, .ref h0), (1, .int (nI a)), (2, .int (nI b))] [] := by
    intro k9
    induction k9 using Nat.strongRecOn with
    | _ k9 ihL =>
      intro i s hk9 hi hn
      subst hk9
      refine u_iload h dX0_countBothInside_5 0 rfl rfl ?_
      refine u_aload_n h dX0_countBothInside_7 rfl 2 rfl rfl ?_
      refine u_get h flX0_countBothInside_26 0 (v := .int (nI n)) rfl rfl dX0_countBothInside_8 rfl ?_
      refine u_icmp_ge_N (a := i) (b := n) (tgt := 65) h dX0_countBothInside_11 (by decide) (by omega) (by omega) rfl (fun c1 => ?_) (fun c1 => ?_)
      · refine u_iload_n h dX0_countBothInside_65 rfl 1 rfl rfl ?_
        exact u_iret h hRT dX0_countBothInside_66 (by omega) (by omega) (by exact ⟨by rw [hn, show i = n by omega], rfl⟩)
      · refine u_iload h dX0_countBothInside_14 0 rfl rfl ?_
        refine u_sipush (v := 300) h dX0_countBothInside_16 (by decide) rfl ?_
        refine u_icmp_ge_N (a := i) (b := 300) (tgt := 65) h dX0_countBothInside_19 (by decide) (by omega) (by omega) rfl (fun c2 => ?_) (fun c2 => ?_)
        · omega
        · refine u_aload_n h dX0_countBothInside_22 rfl 2 rfl rfl ?_
          refine u_get h flX0_countBothInside_13 0 (v := .ref ql) rfl rfl dX0_countBothInside_23 rfl ?_
          refine u_iload h dX0_countBothInside_26 0 rfl rfl ?_
          refine u_lald h (n := i) 1 rfl (by omega) (by omega) (v := .ref (pl i)) (by rw [fL_lt (by omega)]; rfl) dX0_countBothInside_28 rfl ?_
          refine u_astore (lv' := [(5, .ref (pl i)), (4, .int (nI i)), (3, .int s), (0, .ref h0), (1, .int (nI a)), (2, .int (nI b))]) h dX0_countBothInside_29 (by rw [hL]; decide) rfl rfl ?_
          refine u_aload h dX0_countBothInside_31 0 rfl rfl ?_
          refine u_ifnull h dX0_countBothInside_33 rfl ?_
          refine u_perm (ws' := [(h0, .inr (0, [.ref ql, .ref qb, .ref qt, .int (nI n)])), (ql, aL G 300 (fL pl K)), (qb, aI G 300 bk), (qt, .inr (1, [.ref qw])), (qw, aI G 54 (encC w)), ((pl i), .inr (1, [.ref (pc i)])), ((pc i), aI G 54 (encC (Z i)))] ++ poolx G pl pc Z i K) (perm_tail [(h0, .inr (0, [.ref ql, .ref qb, .ref qt, .int (nI n)])), (ql, aL G 300 (fL pl K)), (qb, aI G 300 bk), (qt, .inr (1, [.ref qw])), (qw, aI G 54 (encC w))] (pool_perm (show i < K by omega))) ?_
          refine u_aload h dX0_countBothInside_36 0 rfl rfl ?_
          refine u_iload_n h dX0_countBothInside_38 rfl 4 rfl rfl ?_
          refine u_wpT (W := [(h0, .inr (0, [.ref ql, .ref qb, .ref qt, .int (nI n)])), (ql, aL G 300 (fL pl K)), (qb, aI G 300 bk), (qt, .inr (1, [.ref qw])), (qw, aI G 54 (encC w)), ((pl i), .inr (1, [.ref (pc i)])), ((pc i), aI G 54 (encC (Z i)))]) (W' := [((pl i), .inr (1, [.ref (pc i)])), ((pc i), aI G 54 (encC (Z i))), (h0, .inr (0, [.ref ql, .ref qb, .ref qt, .int (nI n)])), (ql, aL G 300 (fL pl K)), (qb, aI G 300 bk), (qt, .inr (1, [.ref qw])), (qw, aI G 54 (encC w))]) (T := poolx G pl pc Z i K) [5, 6, 0, 1, 2, 3, 4] rfl rfl ?_
          refine u_eqw (ws' := [((pl i), .inr (1, [.ref (pc i)])), ((pc i), aI G 54 (encC (Z i)))] ++ ([(h0, .inr (0, [.ref ql, .ref qb, .ref qt, .int (nI n)])), (ql, aL G 300 (fL pl K)), (qb, aI G 300 bk), (qt, .inr (1, [.ref qw])), (qw, aI G 54 (encC w))] ++ poolx G pl pc Z i K)) rfl ?_
          refine u_callVA h (As := [.int (nI a)]) (wc := [((pl i), .inr (1, [.ref (pc i)])), ((pc i), aI G 54 (encC (Z i)))]) (wr := [(h0, .inr (0, [.ref ql, .ref qb, .ref qt, .int (nI n)])), (ql, aL G 300 (fL pl K)), (qb, aI G 300 bk), (qt, .inr (1, [.ref qw])), (qw, aI G 54 (encC w))] ++ poolx G pl pc Z i K) (kX1_stage G (pl i) (pc i) (encC (Z i)) a ha) cwX0_countBothInside_X1_stage rfl rfl hR ⟨⟨rfl, rfl⟩, Nat.le_of_ble_eq_true rfl, Nat.le_of_ble_eq_true rfl⟩ ⟨Nat.zero_le _, Nat.zero_le _⟩ (ci := 1) (qr := 0) rfl rfl (Nat.le_of_ble_eq_true rfl) rfl dX0_countBothInside_39 rfl (fun v9 u9 hp9 => ?_)
          obtain ⟨rfl, rfl⟩ := hp9
          refine u_eqw (ws' := [((pl i), .inr (1, [.ref (pc i)])), ((pc i), aI G 54 (encC (Z i))), (h0, .inr (0, [.ref ql, .ref qb, .ref qt, .int (nI n)])), (ql, aL G 300 (fL pl K)), (qb, aI G 300 bk), (qt, .inr (1, [.ref qw])), (qw, aI G 54 (encC w))] ++ poolx G pl pc Z i K) rfl ?_
          refine u_eqc (cells' := 0) (slots' := 0) (Nat.add_zero _) (Nat.add_zero _) ?_
          refine u_wpT (W := [((pl i), .inr (1, [.ref (pc i)])), ((pc i), aI G 54 (encC (Z i))), (h0, .inr (0, [.ref ql, .ref qb, .ref qt, .int (nI n)])), (ql, aL G 300 (fL pl K)), (qb, aI G 300 bk), (qt, .inr (1, [.ref qw])), (qw, aI G 54 (encC w))]) (W' := [(h0, .inr (0, [.ref ql, .ref qb, .ref qt, .int (nI n)])), (ql, aL G 300 (fL pl K)), (qb, aI G 300 bk), (qt, .inr (1, [.ref qw])), (qw, aI G 54 (encC w)), ((pl i), .inr (1, [.ref (pc i)])), ((pc i), aI G 54 (encC (Z i)))]) (T := poolx G pl pc Z i K) [2, 3, 4, 5, 6, 0, 1] rfl rfl ?_
          refine u_eqs (st' := [.int ((encC (Z i)) a)]) rfl ?_
          refine u_top (y := (tkZ F z i) a) (by rw [e_st ha, (hRl i (by omega)).1]) ?_
          refine u_iconst (v := 4) h dX0_countBothInside_42 (by decide) rfl ?_
          refine u_icmp_ne (tgt := 59) h dX0_countBothInside_43 (by decide) rfl (fun c3 => ?_) (fun c3 => ?_)
          · refine u_perm (ws' := [(h0, .inr (0, [.ref ql, .ref qb, .ref qt, .int (nI n)])), (ql, aL G 300 (fL pl K)), (qb, aI G 300 bk), (qt, .inr (1, [.ref qw])), (qw, aI G 54 (encC w))] ++ pool G pl pc Z K) (perm_tail [(h0, .inr (0, [.ref ql, .ref qb, .ref qt, .int (nI n)])), (ql, aL G 300 (fL pl K)), (qb, aI G 300 bk), (qt, .inr (1, [.ref qw])), (qw, aI G 54 (encC w))] (pool_perm (show i < K by omega)).symm) ?_
            refine u_iinc (k := 1) (v := (nI (i + 1))) (lv' := [(4, .int (nI (i + 1))), (5, .ref (pl i)), (3, .int s), (0, .ref h0), (1, .int (nI a)), (2, .int (nI b))]) h dX0_countBothInside_59 rfl (nI_add i 1) (by rw [hL]; decide) rfl rfl ?_
            refine u_goto (tgt := 5) h dX0_countBothInside_62 (by decide) ?_
            refine u_lv (lv' := [(4, .int (nI (i + 1))), (3, .int s), (0, .ref h0), (1, .int (nI a)), (2, .int (nI b))]) [0, 2, 3, 4, 5] rfl ?_
            exact ihL _ (by omega) (i + 1) s rfl (by omega) (by simp only [cfN]; rw [← hn, if_pos trivial, show inB2 (tkZ F z i) a b = false from by show (decide ((tkZ F z i) a = 4) && decide ((tkZ F z i) b = 4)) = false; rw [decide_eq_false c3]; rfl]; exact (Int32.add_zero _).symm)
          · refine u_aload h dX0_countBothInside_46 0 rfl rfl ?_
            refine u_iload_n h dX0_countBothInside_48 rfl 5 rfl rfl ?_
            refine u_wpT (W := [(h0, .inr (0, [.ref ql, .ref qb, .ref qt, .int (nI n)])), (ql, aL G 300 (fL pl K)), (qb, aI G 300 bk), (qt, .inr (1, [.ref qw])), (qw, aI G 54 (encC w)), ((pl i), .inr (1, [.ref (pc i)])), ((pc i), aI G 54 (encC (Z i)))]) (W' := [((pl i), .inr (1, [.ref (pc i)])), ((pc i), aI G 54 (encC (Z i))), (h0, .inr (0, [.ref ql, .ref qb, .ref qt, .int (nI n)])), (ql, aL G 300 (fL pl K)), (qb, aI G 300 bk), (qt, .inr (1, [.ref qw])), (qw, aI G 54 (encC w))]) (T := poolx G pl pc Z i K) [5, 6, 0, 1, 2, 3, 4] rfl rfl ?_
            refine u_eqw (ws' := [((pl i), .inr (1, [.ref (pc i)])), ((pc i), aI G 54 (encC (Z i)))] ++ ([(h0, .inr (0, [.ref ql, .ref qb, .ref qt, .int (nI n)])), (ql, aL G 300 (fL pl K)), (qb, aI G 300 bk), (qt, .inr (1, [.ref qw])), (qw, aI G 54 (encC w))] ++ poolx G pl pc Z i K)) rfl ?_
            refine u_callVA h (As := [.int (nI b)]) (wc := [((pl i), .inr (1, [.ref (pc i)])), ((pc i), aI G 54 (encC (Z i)))]) (wr := [(h0, .inr (0, [.ref ql, .ref qb, .ref qt, .int (nI n)])), (ql, aL G 300 (fL pl K)), (qb, aI G 300 bk), (qt, .inr (1, [.ref qw])), (qw, aI G 54 (encC w))] ++ poolx G pl pc Z i K) (kX1_stage G (pl i) (pc i) (encC (Z i)) b hb) cwX0_countBothInside_X1_stage rfl rfl hR ⟨⟨rfl, rfl⟩, Nat.le_of_ble_eq_true rfl, Nat.le_of_ble_eq_true rfl⟩ ⟨Nat.zero_le _, Nat.zero_le _⟩ (ci := 1) (qr := 0) rfl rfl (Nat.le_of_ble_eq_true rfl) rfl dX0_countBothInside_49 rfl (fun v9 u9 hp9 => ?_)
            obtain ⟨rfl, rfl⟩ := hp9
            refine u_eqw (ws' := [((pl i), .inr (1, [.ref (pc i)])), ((pc i), aI G 54 (encC (Z i))), (h0, .inr (0, [.ref ql, .ref qb, .ref qt, .int (nI n)])), (ql, aL G 300 (fL pl K)), (qb, aI G 300 bk), (qt, .inr (1, [.ref qw])), (qw, aI G 54 (encC w))] ++ poolx G pl pc Z i K) rfl ?_
            refine u_eqc (cells' := 0) (slots' := 0) (Nat.add_zero _) (Nat.add_zero _) ?_
            refine u_wpT (W := [((pl i), .inr (1, [.ref (pc i)])), ((pc i), aI G 54 (encC (Z i))), (h0, .inr (0, [.ref ql, .ref qb, .ref qt, .int (nI n)])), (ql, aL G 300 (fL pl K)), (qb, aI G 300 bk), (qt, .inr (1, [.ref qw])), (qw, aI G 54 (encC w))]) (W' := [(h0, .inr (0, [.ref ql, .ref qb, .ref qt, .int (nI n)])), (ql, aL G 300 (fL pl K)), (qb, aI G 300 bk), (qt, .inr (1, [.ref qw])), (qw, aI G 54 (encC w)), ((pl i), .inr (1, [.ref (pc i)])), ((pc i), aI G 54 (encC (Z i)))]) (T := poolx G pl pc Z i K) [2, 3, 4, 5, 6, 0, 1] rfl rfl ?_
            refine u_eqs (st' := [.int ((encC (Z i)) b)]) rfl ?_
            refine u_top (y := (tkZ F z i) b) (by rw [e_st hb, (hRl i (by omega)).1]) ?_
            refine u_iconst (v := 4) h dX0_countBothInside_52 (by decide) rfl ?_
            refine u_icmp_ne (tgt := 59) h dX0_countBothInside_53 (by decide) rfl (fun c4 => ?_) (fun c4 => ?_)
            · refine u_perm (ws' := [(h0, .inr (0, [.ref ql, .ref qb, .ref qt, .int (nI n)])), (ql, aL G 300 (fL pl K)), (qb, aI G 300 bk), (qt, .inr (1, [.ref qw])), (qw, aI G 54 (encC w))] ++ pool G pl pc Z K) (perm_tail [(h0, .inr (0, [.ref ql, .ref qb, .ref qt, .int (nI n)])), (ql, aL G 300 (fL pl K)), (qb, aI G 300 bk), (qt, .inr (1, [.ref qw])), (qw, aI G 54 (encC w))] (pool_perm (show i < K by omega)).symm) ?_
              refine u_iinc (k := 1) (v := (nI (i + 1))) (lv' := [(4, .int (nI (i + 1))), (5, .ref (pl i)), (3, .int s), (0, .ref h0), (1, .int (nI a)), (2, .int (nI b))]) h dX0_countBothInside_59 rfl (nI_add i 1) (by rw [hL]; decide) rfl rfl ?_
              refine u_goto (tgt := 5) h dX0_countBothInside_62 (by decide) ?_
              refine u_lv (lv' := [(4, .int (nI (i + 1))), (3, .int s), (0, .ref h0), (1, .int (nI a)), (2, .int (nI b))]) [0, 2, 3, 4, 5] rfl ?_
              exact ihL _ (by omega) (i + 1) s rfl (by omega) (by simp only [cfN]; rw [← hn, if_pos trivial, show inB2 (tkZ F z i) a b = false from by show (decide ((tkZ F z i) a = 4) && decide ((tkZ F z i) b = 4)) = false; rw [decide_eq_false c4, Bool.and_false]]; exact (Int32.add_zero _).symm)
            · refine u_iinc (k := 2) (v := (s + 1)) (lv' := [(3, .int (s + 1)), (5, .ref (pl i)), (4, .int (nI i)), (0, .ref h0), (1, .int (nI a)), (2, .int (nI b))]) h dX0_countBothInside_56 rfl rfl (by rw [hL]; decide) rfl rfl ?_
              refine u_perm (ws' := [(h0, .inr (0, [.ref ql, .ref qb, .ref qt, .int (nI n)])), (ql, aL G 300 (fL pl K)), (qb, aI G 300 bk), (qt, .inr (1, [.ref qw])), (qw, aI G 54 (encC w))] ++ pool G pl pc Z K) (perm_tail [(h0, .inr (0, [.ref ql, .ref qb, .ref qt, .int (nI n)])), (ql, aL G 300 (fL pl K)), (qb, aI G 300 bk), (qt, .inr (1, [.ref qw])), (qw, aI G 54 (encC w))] (pool_perm (show i < K by omega)).symm) ?_
              refine u_iinc (k := 2) (v := (nI (i + 1))) (lv' := [(4, .int (nI (i + 1))), (3, .int (s + 1)), (5, .ref (pl i)), (0, .ref h0), (1, .int (nI a)), (2, .int (nI b))]) h dX0_countBothInside_59 rfl (nI_add i 1) (by rw [hL]; decide) rfl rfl ?_
              refine u_goto (tgt := 5) h dX0_countBothInside_62 (by decide) ?_
              refine u_lv (lv' := [(4, .int (nI (i + 1))), (3, .int (s + 1)), (0, .ref h0), (1, .int (nI a)), (2, .int (nI b))]) [0, 1, 3, 4, 5] rfl ?_
              exact ihL _ (by omega) (i + 1) (s + 1) rfl (by omega) (by simp only [cfN]; rw [← hn, if_pos trivial, show inB2 (tkZ F z i) a b = true from by show (decide ((tkZ F z i) a = 4) && decide ((tkZ F z i) b = 4)) = true; rw [decide_eq_true c3, decide_eq_true c4]; rfl]; rfl)
  exact LL _ 0 0 rfl (Nat.zero_le n) rfl

theorem flX0_isStuck_13 : FL wsX0_isStuck RX0 13 0 0 := ⟨RX0, TX0, 4, rfl, by decide, by decide +kernel, by decide +kernel⟩
theorem flX0_isStuck_17 : FL wsX0_isStuck RX0 17 0 1 := ⟨RX0, TX0, 4, rfl, by decide, by decide +kernel, by decide +kernel⟩
set_option maxRecDepth 20000 in
theorem cwX0_isStuck_X1_waits : CWd wsX0_isStuck (wsV RX0 60 RX1 yX1_waits wsX1_waits) yX1_waits wsX1_waits cX1_waits 3 (some .boolean) 1 := ⟨gX0_isStuck_X1_waits, ⟨_, rfl⟩, by decide +kernel, by decide, by decide⟩
set_option maxHeartbeats 8000000 in
set_option maxRecDepth 100000 in
theorem kX0_isStuck (G : Gx) (h0 ql qb qt qw : Nat) (pl pc : Nat → Nat) (Z : Nat → Zf) (bk w : Zf) (n K : Nat) (F z : Zf) (a b : Nat) (hnK : n ≤ K) (hK : K ≤ 300) (h53 : ∃ m : Nat, m ≤ 6 ∧ z 53 = nI m) (ha : a < 6) (hb : b < 6) (hRw : RowsOk F z n) (hRl : Rel F z n Z bk) (i : Nat) (hin : i < n) : MC G yX0_isStuck wsX0_isStuck ({ frames := 4, cells := 0, slots := 0, locals := 84 } : Room) [.ref h0, .int (nI i), .int (nI a), .int (nI b)] ([(h0, .inr (0, [.ref ql, .ref qb, .ref qt, .int (nI n)])), (ql, aL G 300 (fL pl K)), (qb, aI G 300 bk), (qt, .inr (1, [.ref qw])), (qw, aI G 54 (encC w))] ++ pool G pl pc Z K) (fun v' u' => v' = some (.int (bI (stuB F (tkZ F z i) i a b))) ∧ u' = [(h0, .inr (0, [.ref ql, .ref qb, .ref qt, .int (nI n)])), (ql, aL G 300 (fL pl K)), (qb, aI G 300 bk), (qt, .inr (1, [.ref qw])), (qw, aI G 54 (encC w))] ++ pool G pl pc Z K) 0 0 := by
  refine mc_of (cc := cX0_isStuck) (maxL := 7) (ret := (some .boolean)) (by decide) rfl (Nat.le_of_ble_eq_true rfl) (fun X h hR hL hRT => ?_)
  refine u_eql (lv' := [(0, .ref h0), (1, .int (nI i)), (2, .int (nI a)), (3, .int (nI b))]) rfl ?_
  refine u_aload_n h dX0_isStuck_0 rfl 0 rfl rfl ?_
  refine u_get h flX0_isStuck_13 0 (v := .ref ql) rfl rfl dX0_isStuck_1 rfl ?_
  refine u_iload_n h dX0_isStuck_4 rfl 1 rfl rfl ?_
  refine u_lald h (n := i) 1 rfl (by omega) (by omega) (v := .ref (pl i)) (by rw [fL_lt (by omega)]; rfl) dX0_isStuck_5 rfl ?_
  refine u_astore (lv' := [(4, .ref (pl i)), (0, .ref h0), (1, .int (nI i)), (2, .int (nI a)), (3, .int (nI b))]) h dX0_isStuck_6 (by rw [hL]; decide) rfl rfl ?_
  obtain ⟨r1, r2⟩ := hRl i hin
  obtain ⟨o1, o2, o3⟩ := hRw i hin
  have hW : Wc (Z i) := by rw [r1]; exact row_wc o1 h53
  refine u_aload h dX0_isStuck_8 0 rfl rfl ?_
  refine u_ifnull h dX0_isStuck_10 rfl ?_
  refine u_aload_n h dX0_isStuck_13 rfl 1 rfl rfl ?_
  refine u_get h flX0_isStuck_17 0 (v := .ref qb) rfl rfl dX0_isStuck_14 rfl ?_
  refine u_iload_n h dX0_isStuck_17 rfl 2 rfl rfl ?_
  refine u_iald h (n := i) 2 rfl (by omega) (by omega) dX0_isStuck_18 rfl ?_
  refine u_iconst (v := 3) h dX0_isStuck_19 (by decide) rfl ?_
  refine u_icmp_ne (tgt := 25) h dX0_isStuck_20 (by decide) rfl (fun c1 => ?_) (fun c1 => ?_)
  · refine u_perm (ws' := [(h0, .inr (0, [.ref ql, .ref qb, .ref qt, .int (nI n)])), (ql, aL G 300 (fL pl K)), (qb, aI G 300 bk), (qt, .inr (1, [.ref qw])), (qw, aI G 54 (encC w)), ((pl i), .inr (1, [.ref (pc i)])), ((pc i), aI G 54 (encC (Z i)))] ++ poolx G pl pc Z i K) (perm_tail [(h0, .inr (0, [.ref ql, .ref qb, .ref qt, .int (nI n)])), (ql, aL G 300 (fL pl K)), (qb, aI G 300 bk), (qt, .inr (1, [.ref qw])), (qw, aI G 54 (encC w))] (pool_perm (show i < K by omega))) ?_
    refine u_aload_n h dX0_isStuck_25 rfl 1 rfl rfl ?_
    refine u_get h flX0_isStuck_17 0 (v := .ref qb) rfl rfl dX0_isStuck_26 rfl ?_
    refine u_iload_n h dX0_isStuck_29 rfl 2 rfl rfl ?_
    refine u_iald h (n := i) 2 rfl (by omega) (by omega) dX0_isStuck_30 rfl ?_
    refine u_iconst (v := 1) h dX0_isStuck_31 (by decide) rfl ?_
    refine u_iand (v := ((bk i) &&& 1)) h dX0_isStuck_32 rfl rfl ?_
    refine u_if_ne (tgt := 45) h dX0_isStuck_33 (by decide) rfl (fun c2 => ?_) (fun c2 => ?_)
    · refine u_iconst (v := 1) h dX0_isStuck_45 (by decide) rfl ?_
      refine u_goto (tgt := 50) h dX0_isStuck_46 (by decide) ?_
      refine u_istore (lv' := [(5, .int 1), (4, .ref (pl i)), (0, .ref h0), (1, .int (nI i)), (2, .int (nI a)), (3, .int (nI b))]) h dX0_isStuck_50 (by rw [hL]; decide) rfl rfl ?_
      refine u_aload_n h dX0_isStuck_52 rfl 2 rfl rfl ?_
      refine u_get h flX0_isStuck_17 0 (v := .ref qb) rfl rfl dX0_isStuck_53 rfl ?_
      refine u_iload_n h dX0_isStuck_56 rfl 3 rfl rfl ?_
      refine u_iald h (n := i) 2 rfl (by omega) (by omega) dX0_isStuck_57 rfl ?_
      refine u_iconst (v := 2) h dX0_isStuck_58 (by decide) rfl ?_
      refine u_iand (v := ((bk i) &&& 2)) h dX0_isStuck_59 rfl rfl ?_
      refine u_if_ne (tgt := 72) h dX0_isStuck_60 (by decide) rfl (fun c3 => ?_) (fun c3 => ?_)
      · refine u_iconst (v := 1) h dX0_isStuck_72 (by decide) rfl ?_
        refine u_goto (tgt := 77) h dX0_isStuck_73 (by decide) ?_
        refine u_istore (lv' := [(6, .int 1), (5, .int 1), (4, .ref (pl i)), (0, .ref h0), (1, .int (nI i)), (2, .int (nI a)), (3, .int (nI b))]) h dX0_isStuck_77 (by rw [hL]; decide) rfl rfl ?_
        refine u_perm (ws' := [(h0, .inr (0, [.ref ql, .ref qb, .ref qt, .int (nI n)])), (ql, aL G 300 (fL pl K)), (qb, aI G 300 bk), (qt, .inr (1, [.ref qw])), (qw, aI G 54 (encC w))] ++ pool G pl pc Z K) (perm_tail [(h0, .inr (0, [.ref ql, .ref qb, .ref qt, .int (nI n)])), (ql, aL G 300 (fL pl K)), (qb, aI G 300 bk), (qt, .inr (1, [.ref qw])), (qw, aI G 54 (encC w))] (pool_perm (show i < K by omega)).symm) ?_
        refine u_iload h dX0_isStuck_79 1 rfl rfl ?_
        refine u_if_eq_N (a := 1) (tgt := 93) h dX0_isStuck_81 (by decide) (by omega) rfl (fun c4 => ?_) (fun c4 => ?_)
        · exact absurd c4 (by decide)
        · refine u_iload h dX0_isStuck_84 0 rfl rfl ?_
          refine u_if_eq_N (a := 1) (tgt := 93) h dX0_isStuck_86 (by decide) (by omega) rfl (fun c5 => ?_) (fun c5 => ?_)
          · exact absurd c5 (by decide)
          · refine u_iconst (v := 1) h dX0_isStuck_89 (by decide) rfl ?_
            refine u_goto (tgt := 94) h dX0_isStuck_90 (by decide) ?_
            exact u_zret h hRT dX0_isStuck_94 rfl (by omega) (by omega) (by refine ⟨congrArg (fun q9 => some (Value.int q9)) ?_, rfl⟩; have y1 := c1; rw [r2, bk_3 o2 o3] at y1; have y2 := c2; rw [r2, bk_1 o2 o3] at y2; have y3 := c3; rw [r2, bk_2 o2 o3] at y3; rcases o2 with e1 | e1 <;> rcases o3 with e2 | e2 <;> rw [e1, e2] at y1 <;> rw [e1] at y2 <;> rw [e2] at y3 <;> first | (exact absurd y1 (by decide)) | (exact absurd (And.intro rfl rfl) y1) | (exact absurd y2 (by decide)) | (exact absurd rfl y2) | (exact absurd y3 (by decide)) | (exact absurd rfl y3) | (simp [stuB, bI, e1, e2]; done))
      · refine u_aload h dX0_isStuck_63 1 rfl rfl ?_
        refine u_iload_n h dX0_isStuck_65 rfl 5 rfl rfl ?_
        refine u_wpT (W := [(h0, .inr (0, [.ref ql, .ref qb, .ref qt, .int (nI n)])), (ql, aL G 300 (fL pl K)), (qb, aI G 300 bk), (qt, .inr (1, [.ref qw])), (qw, aI G 54 (encC w)), ((pl i), .inr (1, [.ref (pc i)])), ((pc i), aI G 54 (encC (Z i)))]) (W' := [((pl i), .inr (1, [.ref (pc i)])), ((pc i), aI G 54 (encC (Z i))), (h0, .inr (0, [.ref ql, .ref qb, .ref qt, .int (nI n)])), (ql, aL G 300 (fL pl K)), (qb, aI G 300 bk), (qt, .inr (1, [.ref qw])), (qw, aI G 54 (encC w))]) (T := poolx G pl pc Z i K) [5, 6, 0, 1, 2, 3, 4] rfl rfl ?_
        refine u_eqw (ws' := [((pl i), .inr (1, [.ref (pc i)])), ((pc i), aI G 54 (encC (Z i)))] ++ ([(h0, .inr (0, [.ref ql, .ref qb, .ref qt, .int (nI n)])), (ql, aL G 300 (fL pl K)), (qb, aI G 300 bk), (qt, .inr (1, [.ref qw])), (qw, aI G 54 (encC w))] ++ poolx G pl pc Z i K)) rfl ?_
        refine u_callVA h (As := [.int (nI b)]) (wc := [((pl i), .inr (1, [.ref (pc i)])), ((pc i), aI G 54 (encC (Z i)))]) (wr := [(h0, .inr (0, [.ref ql, .ref qb, .ref qt, .int (nI n)])), (ql, aL G 300 (fL pl K)), (qb, aI G 300 bk), (qt, .inr (1, [.ref qw])), (qw, aI G 54 (encC w))] ++ poolx G pl pc Z i K) (kX1_waits G (pl i) (pc i) (Z i) b hb hW) cwX0_isStuck_X1_waits rfl rfl hR ⟨⟨rfl, rfl⟩, Nat.le_of_ble_eq_true rfl, Nat.le_of_ble_eq_true rfl⟩ ⟨Nat.zero_le _, Nat.zero_le _⟩ (ci := 1) (qr := 0) rfl rfl (Nat.le_of_ble_eq_true rfl) rfl dX0_isStuck_66 rfl (fun v9 u9 hp9 => ?_)
        obtain ⟨rfl, rfl⟩ := hp9
        refine u_eqw (ws' := [((pl i), .inr (1, [.ref (pc i)])), ((pc i), aI G 54 (encC (Z i))), (h0, .inr (0, [.ref ql, .ref qb, .ref qt, .int (nI n)])), (ql, aL G 300 (fL pl K)), (qb, aI G 300 bk), (qt, .inr (1, [.ref qw])), (qw, aI G 54 (encC w))] ++ poolx G pl pc Z i K) rfl ?_
        refine u_eqc (cells' := 0) (slots' := 0) (Nat.add_zero _) (Nat.add_zero _) ?_
        refine u_wpT (W := [((pl i), .inr (1, [.ref (pc i)])), ((pc i), aI G 54 (encC (Z i))), (h0, .inr (0, [.ref ql, .ref qb, .ref qt, .int (nI n)])), (ql, aL G 300 (fL pl K)), (qb, aI G 300 bk), (qt, .inr (1, [.ref qw])), (qw, aI G 54 (encC w))]) (W' := [(h0, .inr (0, [.ref ql, .ref qb, .ref qt, .int (nI n)])), (ql, aL G 300 (fL pl K)), (qb, aI G 300 bk), (qt, .inr (1, [.ref qw])), (qw, aI G 54 (encC w)), ((pl i), .inr (1, [.ref (pc i)])), ((pc i), aI G 54 (encC (Z i)))]) (T := poolx G pl pc Z i K) [2, 3, 4, 5, 6, 0, 1] rfl rfl ?_
        refine u_eqs (st' := [.int (bI (isLook (Z i) b))]) rfl ?_
        refine u_top (y := bI (isLook (tkZ F z i) b)) (by rw [r1]) ?_
        refine u_if_eq_B (tgt := 76) h dX0_isStuck_69 (by decide) rfl (fun c6 => ?_) (fun c6 => ?_)
        · refine u_iconst (v := 0) h dX0_isStuck_76 (by decide) rfl ?_
          refine u_istore (lv' := [(6, .int 0), (5, .int 1), (4, .ref (pl i)), (0, .ref h0), (1, .int (nI i)), (2, .int (nI a)), (3, .int (nI b))]) h dX0_isStuck_77 (by rw [hL]; decide) rfl rfl ?_
          refine u_perm (ws' := [(h0, .inr (0, [.ref ql, .ref qb, .ref qt, .int (nI n)])), (ql, aL G 300 (fL pl K)), (qb, aI G 300 bk), (qt, .inr (1, [.ref qw])), (qw, aI G 54 (encC w))] ++ pool G pl pc Z K) (perm_tail [(h0, .inr (0, [.ref ql, .ref qb, .ref qt, .int (nI n)])), (ql, aL G 300 (fL pl K)), (qb, aI G 300 bk), (qt, .inr (1, [.ref qw])), (qw, aI G 54 (encC w))] (pool_perm (show i < K by omega)).symm) ?_
          refine u_iload h dX0_isStuck_79 1 rfl rfl ?_
          refine u_if_eq_N (a := 1) (tgt := 93) h dX0_isStuck_81 (by decide) (by omega) rfl (fun c7 => ?_) (fun c7 => ?_)
          · exact absurd c7 (by decide)
          · refine u_iload h dX0_isStuck_84 0 rfl rfl ?_
            refine u_if_eq_N (a := 0) (tgt := 93) h dX0_isStuck_86 (by decide) (by omega) rfl (fun c8 => ?_) (fun c8 => ?_)
            · refine u_iconst (v := 0) h dX0_isStuck_93 (by decide) rfl ?_
              exact u_zret h hRT dX0_isStuck_94 rfl (by omega) (by omega) (by refine ⟨congrArg (fun q9 => some (Value.int q9)) ?_, rfl⟩; have y1 := c1; rw [r2, bk_3 o2 o3] at y1; have y2 := c2; rw [r2, bk_1 o2 o3] at y2; have y3 := c3; rw [r2, bk_2 o2 o3] at y3; rcases o2 with e1 | e1 <;> rcases o3 with e2 | e2 <;> rw [e1, e2] at y1 <;> rw [e1] at y2 <;> rw [e2] at y3 <;> first | (exact absurd y1 (by decide)) | (exact absurd (And.intro rfl rfl) y1) | (exact absurd y2 (by decide)) | (exact absurd rfl y2) | (exact absurd y3 (by decide)) | (exact absurd rfl y3) | (simp [stuB, bI, e1, e2, c6]; done))
            · exact absurd c8 (by decide)
        · refine u_iconst (v := 1) h dX0_isStuck_72 (by decide) rfl ?_
          refine u_goto (tgt := 77) h dX0_isStuck_73 (by decide) ?_
          refine u_istore (lv' := [(6, .int 1), (5, .int 1), (4, .ref (pl i)), (0, .ref h0), (1, .int (nI i)), (2, .int (nI a)), (3, .int (nI b))]) h dX0_isStuck_77 (by rw [hL]; decide) rfl rfl ?_
          refine u_perm (ws' := [(h0, .inr (0, [.ref ql, .ref qb, .ref qt, .int (nI n)])), (ql, aL G 300 (fL pl K)), (qb, aI G 300 bk), (qt, .inr (1, [.ref qw])), (qw, aI G 54 (encC w))] ++ pool G pl pc Z K) (perm_tail [(h0, .inr (0, [.ref ql, .ref qb, .ref qt, .int (nI n)])), (ql, aL G 300 (fL pl K)), (qb, aI G 300 bk), (qt, .inr (1, [.ref qw])), (qw, aI G 54 (encC w))] (pool_perm (show i < K by omega)).symm) ?_
          refine u_iload h dX0_isStuck_79 1 rfl rfl ?_
          refine u_if_eq_N (a := 1) (tgt := 93) h dX0_isStuck_81 (by decide) (by omega) rfl (fun c9 => ?_) (fun c9 => ?_)
          · exact absurd c9 (by decide)
          · refine u_iload h dX0_isStuck_84 0 rfl rfl ?_
            refine u_if_eq_N (a := 1) (tgt := 93) h dX0_isStuck_86 (by decide) (by omega) rfl (fun c10 => ?_) (fun c10 => ?_)
            · exact absurd c10 (by decide)
            · refine u_iconst (v := 1) h dX0_isStuck_89 (by decide) rfl ?_
              refine u_goto (tgt := 94) h dX0_isStuck_90 (by decide) ?_
              exact u_zret h hRT dX0_isStuck_94 rfl (by omega) (by omega) (by refine ⟨congrArg (fun q9 => some (Value.int q9)) ?_, rfl⟩; have y1 := c1; rw [r2, bk_3 o2 o3] at y1; have y2 := c2; rw [r2, bk_1 o2 o3] at y2; have y3 := c3; rw [r2, bk_2 o2 o3] at y3; rcases o2 with e1 | e1 <;> rcases o3 with e2 | e2 <;> rw [e1, e2] at y1 <;> rw [e1] at y2 <;> rw [e2] at y3 <;> first | (exact absurd y1 (by decide)) | (exact absurd (And.intro rfl rfl) y1) | (exact absurd y2 (by decide)) | (exact absurd rfl y2) | (exact absurd y3 (by decide)) | (exact absurd rfl y3) | (simp [stuB, bI, e1, e2, c6]; done))
    · refine u_aload h dX0_isStuck_36 0 rfl rfl ?_
      refine u_iload_n h dX0_isStuck_38 rfl 3 rfl rfl ?_
      refine u_wpT (W := [(h0, .inr (0, [.ref ql, .ref qb, .ref qt, .int (nI n)])), (ql, aL G 300 (fL pl K)), (qb, aI G 300 bk), (qt, .inr (1, [.ref qw])), (qw, aI G 54 (encC w)), ((pl i), .inr (1, [.ref (pc i)])), ((pc i), aI G 54 (encC (Z i)))]) (W' := [((pl i), .inr (1, [.ref (pc i)])), ((pc i), aI G 54 (encC (Z i))), (h0, .inr (0, [.ref ql, .ref qb, .ref qt, .int (nI n)])), (ql, aL G 300 (fL pl K)), (qb, aI G 300 bk), (qt, .inr (1, [.ref qw])), (qw, aI G 54 (encC w))]) (T := poolx G pl pc Z i K) [5, 6, 0, 1, 2, 3, 4] rfl rfl ?_
      refine u_eqw (ws' := [((pl i), .inr (1, [.ref (pc i)])), ((pc i), aI G 54 (encC (Z i)))] ++ ([(h0, .inr (0, [.ref ql, .ref qb, .ref qt, .int (nI n)])), (ql, aL G 300 (fL pl K)), (qb, aI G 300 bk), (qt, .inr (1, [.ref qw])), (qw, aI G 54 (encC w))] ++ poolx G pl pc Z i K)) rfl ?_
      refine u_callVA h (As := [.int (nI a)]) (wc := [((pl i), .inr (1, [.ref (pc i)])), ((pc i), aI G 54 (encC (Z i)))]) (wr := [(h0, .inr (0, [.ref ql, .ref qb, .ref qt, .int (nI n)])), (ql, aL G 300 (fL pl K)), (qb, aI G 300 bk), (qt, .inr (1, [.ref qw])), (qw, aI G 54 (encC w))] ++ poolx G pl pc Z i K) (kX1_waits G (pl i) (pc i) (Z i) a ha hW) cwX0_isStuck_X1_waits rfl rfl hR ⟨⟨rfl, rfl⟩, Nat.le_of_ble_eq_true rfl, Nat.le_of_ble_eq_true rfl⟩ ⟨Nat.zero_le _, Nat.zero_le _⟩ (ci := 1) (qr := 0) rfl rfl (Nat.le_of_ble_eq_true rfl) rfl dX0_isStuck_39 rfl (fun v9 u9 hp9 => ?_)
      obtain ⟨rfl, rfl⟩ := hp9
      refine u_eqw (ws' := [((pl i), .inr (1, [.ref (pc i)])), ((pc i), aI G 54 (encC (Z i))), (h0, .inr (0, [.ref ql, .ref qb, .ref qt, .int (nI n)])), (ql, aL G 300 (fL pl K)), (qb, aI G 300 bk), (qt, .inr (1, [.ref qw])), (qw, aI G 54 (encC w))] ++ poolx G pl pc Z i K) rfl ?_
      refine u_eqc (cells' := 0) (slots' := 0) (Nat.add_zero _) (Nat.add_zero _) ?_
      refine u_wpT (W := [((pl i), .inr (1, [.ref (pc i)])), ((pc i), aI G 54 (encC (Z i))), (h0, .inr (0, [.ref ql, .ref qb, .ref qt, .int (nI n)])), (ql, aL G 300 (fL pl K)), (qb, aI G 300 bk), (qt, .inr (1, [.ref qw])), (qw, aI G 54 (encC w))]) (W' := [(h0, .inr (0, [.ref ql, .ref qb, .ref qt, .int (nI n)])), (ql, aL G 300 (fL pl K)), (qb, aI G 300 bk), (qt, .inr (1, [.ref qw])), (qw, aI G 54 (encC w)), ((pl i), .inr (1, [.ref (pc i)])), ((pc i), aI G 54 (encC (Z i)))]) (T := poolx G pl pc Z i K) [2, 3, 4, 5, 6, 0, 1] rfl rfl ?_
      refine u_eqs (st' := [.int (bI (isLook (Z i) a))]) rfl ?_
      refine u_top (y := bI (isLook (tkZ F z i) a)) (by rw [r1]) ?_
      refine u_if_eq_B (tgt := 49) h dX0_isStuck_42 (by decide) rfl (fun c11 => ?_) (fun c11 => ?_)
      · refine u_iconst (v := 0) h dX0_isStuck_49 (by decide) rfl ?_
        refine u_istore (lv' := [(5, .int 0), (4, .ref (pl i)), (0, .ref h0), (1, .int (nI i)), (2, .int (nI a)), (3, .int (nI b))]) h dX0_isStuck_50 (by rw [hL]; decide) rfl rfl ?_
        refine u_aload_n h dX0_isStuck_52 rfl 2 rfl rfl ?_
        refine u_get h flX0_isStuck_17 0 (v := .ref qb) rfl rfl dX0_isStuck_53 rfl ?_
        refine u_iload_n h dX0_isStuck_56 rfl 3 rfl rfl ?_
        refine u_iald h (n := i) 2 rfl (by omega) (by omega) dX0_isStuck_57 rfl ?_
        refine u_iconst (v := 2) h dX0_isStuck_58 (by decide) rfl ?_
        refine u_iand (v := ((bk i) &&& 2)) h dX0_isStuck_59 rfl rfl ?_
        refine u_if_ne (tgt := 72) h dX0_isStuck_60 (by decide) rfl (fun c12 => ?_) (fun c12 => ?_)
        · refine u_iconst (v := 1) h dX0_isStuck_72 (by decide) rfl ?_
          refine u_goto (tgt := 77) h dX0_isStuck_73 (by decide) ?_
          refine u_istore (lv' := [(6, .int 1), (5, .int 0), (4, .ref (pl i)), (0, .ref h0), (1, .int (nI i)), (2, .int (nI a)), (3, .int (nI b))]) h dX0_isStuck_77 (by rw [hL]; decide) rfl rfl ?_
          refine u_perm (ws' := [(h0, .inr (0, [.ref ql, .ref qb, .ref qt, .int (nI n)])), (ql, aL G 300 (fL pl K)), (qb, aI G 300 bk), (qt, .inr (1, [.ref qw])), (qw, aI G 54 (encC w))] ++ pool G pl pc Z K) (perm_tail [(h0, .inr (0, [.ref ql, .ref qb, .ref qt, .int (nI n)])), (ql, aL G 300 (fL pl K)), (qb, aI G 300 bk), (qt, .inr (1, [.ref qw])), (qw, aI G 54 (encC w))] (pool_perm (show i < K by omega)).symm) ?_
          refine u_iload h dX0_isStuck_79 1 rfl rfl ?_
          refine u_if_eq_N (a := 0) (tgt := 93) h dX0_isStuck_81 (by decide) (by omega) rfl (fun c13 => ?_) (fun c13 => ?_)
          · refine u_iconst (v := 0) h dX0_isStuck_93 (by decide) rfl ?_
            exact u_zret h hRT dX0_isStuck_94 rfl (by omega) (by omega) (by refine ⟨congrArg (fun q9 => some (Value.int q9)) ?_, rfl⟩; have y1 := c1; rw [r2, bk_3 o2 o3] at y1; have y2 := c2; rw [r2, bk_1 o2 o3] at y2; have y3 := c12; rw [r2, bk_2 o2 o3] at y3; rcases o2 with e1 | e1 <;> rcases o3 with e2 | e2 <;> rw [e1, e2] at y1 <;> rw [e1] at y2 <;> rw [e2] at y3 <;> first | (exact absurd y1 (by decide)) | (exact absurd (And.intro rfl rfl) y1) | (exact absurd y2 (by decide)) | (exact absurd rfl y2) | (exact absurd y3 (by decide)) | (exact absurd rfl y3) | (simp [stuB, bI, e1, e2, c11]; done))
          · exact absurd c13 (by decide)
        · refine u_aload h dX0_isStuck_63 1 rfl rfl ?_
          refine u_iload_n h dX0_isStuck_65 rfl 5 rfl rfl ?_
          refine u_wpT (W := [(h0, .inr (0, [.ref ql, .ref qb, .ref qt, .int (nI n)])), (ql, aL G 300 (fL pl K)), (qb, aI G 300 bk), (qt, .inr (1, [.ref qw])), (qw, aI G 54 (encC w)), ((pl i), .inr (1, [.ref (pc i)])), ((pc i), aI G 54 (encC (Z i)))]) (W' := [((pl i), .inr (1, [.ref (pc i)])), ((pc i), aI G 54 (encC (Z i))), (h0, .inr (0, [.ref ql, .ref qb, .ref qt, .int (nI n)])), (ql, aL G 300 (fL pl K)), (qb, aI G 300 bk), (qt, .inr (1, [.ref qw])), (qw, aI G 54 (encC w))]) (T := poolx G pl pc Z i K) [5, 6, 0, 1, 2, 3, 4] rfl rfl ?_
          refine u_eqw (ws' := [((pl i), .inr (1, [.ref (pc i)])), ((pc i), aI G 54 (encC (Z i)))] ++ ([(h0, .inr (0, [.ref ql, .ref qb, .ref qt, .int (nI n)])), (ql, aL G 300 (fL pl K)), (qb, aI G 300 bk), (qt, .inr (1, [.ref qw])), (qw, aI G 54 (encC w))] ++ poolx G pl pc Z i K)) rfl ?_
          refine u_callVA h (As := [.int (nI b)]) (wc := [((pl i), .inr (1, [.ref (pc i)])), ((pc i), aI G 54 (encC (Z i)))]) (wr := [(h0, .inr (0, [.ref ql, .ref qb, .ref qt, .int (nI n)])), (ql, aL G 300 (fL pl K)), (qb, aI G 300 bk), (qt, .inr (1, [.ref qw])), (qw, aI G 54 (encC w))] ++ poolx G pl pc Z i K) (kX1_waits G (pl i) (pc i) (Z i) b hb hW) cwX0_isStuck_X1_waits rfl rfl hR ⟨⟨rfl, rfl⟩, Nat.le_of_ble_eq_true rfl, Nat.le_of_ble_eq_true rfl⟩ ⟨Nat.zero_le _, Nat.zero_le _⟩ (ci := 1) (qr := 0) rfl rfl (Nat.le_of_ble_eq_true rfl) rfl dX0_isStuck_66 rfl (fun v9 u9 hp9 => ?_)
          obtain ⟨rfl, rfl⟩ := hp9
          refine u_eqw (ws' := [((pl i), .inr (1, [.ref (pc i)])), ((pc i), aI G 54 (encC (Z i))), (h0, .inr (0, [.ref ql, .ref qb, .ref qt, .int (nI n)])), (ql, aL G 300 (fL pl K)), (qb, aI G 300 bk), (qt, .inr (1, [.ref qw])), (qw, aI G 54 (encC w))] ++ poolx G pl pc Z i K) rfl ?_
          refine u_eqc (cells' := 0) (slots' := 0) (Nat.add_zero _) (Nat.add_zero _) ?_
          refine u_wpT (W := [((pl i), .inr (1, [.ref (pc i)])), ((pc i), aI G 54 (encC (Z i))), (h0, .inr (0, [.ref ql, .ref qb, .ref qt, .int (nI n)])), (ql, aL G 300 (fL pl K)), (qb, aI G 300 bk), (qt, .inr (1, [.ref qw])), (qw, aI G 54 (encC w))]) (W' := [(h0, .inr (0, [.ref ql, .ref qb, .ref qt, .int (nI n)])), (ql, aL G 300 (fL pl K)), (qb, aI G 300 bk), (qt, .inr (1, [.ref qw])), (qw, aI G 54 (encC w)), ((pl i), .inr (1, [.ref (pc i)])), ((pc i), aI G 54 (encC (Z i)))]) (T := poolx G pl pc Z i K) [2, 3, 4, 5, 6, 0, 1] rfl rfl ?_
          refine u_eqs (st' := [.int (bI (isLook (Z i) b))]) rfl ?_
          refine u_top (y := bI (isLook (tkZ F z i) b)) (by rw [r1]) ?_
          refine u_if_eq_B (tgt := 76) h dX0_isStuck_69 (by decide) rfl (fun c14 => ?_) (fun c14 => ?_)
          · refine u_iconst (v := 0) h dX0_isStuck_76 (by decide) rfl ?_
            refine u_istore (lv' := [(6, .int 0), (5, .int 0), (4, .ref (pl i)), (0, .ref h0), (1, .int (nI i)), (2, .int (nI a)), (3, .int (nI b))]) h dX0_isStuck_77 (by rw [hL]; decide) rfl rfl ?_
            refine u_perm (ws' := [(h0, .inr (0, [.ref ql, .ref qb, .ref qt, .int (nI n)])), (ql, aL G 300 (fL pl K)), (qb, aI G 300 bk), (qt, .inr (1, [.ref qw])), (qw, aI G 54 (encC w))] ++ pool G pl pc Z K) (perm_tail [(h0, .inr (0, [.ref ql, .ref qb, .ref qt, .int (nI n)])), (ql, aL G 300 (fL pl K)), (qb, aI G 300 bk), (qt, .inr (1, [.ref qw])), (qw, aI G 54 (encC w))] (pool_perm (show i < K by omega)).symm) ?_
            refine u_iload h dX0_isStuck_79 1 rfl rfl ?_
            refine u_if_eq_N (a := 0) (tgt := 93) h dX0_isStuck_81 (by decide) (by omega) rfl (fun c15 => ?_) (fun c15 => ?_)
            · refine u_iconst (v := 0) h dX0_isStuck_93 (by decide) rfl ?_
              exact u_zret h hRT dX0_isStuck_94 rfl (by omega) (by omega) (by refine ⟨congrArg (fun q9 => some (Value.int q9)) ?_, rfl⟩; have y1 := c1; rw [r2, bk_3 o2 o3] at y1; have y2 := c2; rw [r2, bk_1 o2 o3] at y2; have y3 := c12; rw [r2, bk_2 o2 o3] at y3; rcases o2 with e1 | e1 <;> rcases o3 with e2 | e2 <;> rw [e1, e2] at y1 <;> rw [e1] at y2 <;> rw [e2] at y3 <;> first | (exact absurd y1 (by decide)) | (exact absurd (And.intro rfl rfl) y1) | (exact absurd y2 (by decide)) | (exact absurd rfl y2) | (exact absurd y3 (by decide)) | (exact absurd rfl y3) | (simp [stuB, bI, e1, e2, c11, c14]; done))
            · exact absurd c15 (by decide)
          · refine u_iconst (v := 1) h dX0_isStuck_72 (by decide) rfl ?_
            refine u_goto (tgt := 77) h dX0_isStuck_73 (by decide) ?_
            refine u_istore (lv' := [(6, .int 1), (5, .int 0), (4, .ref (pl i)), (0, .ref h0), (1, .int (nI i)), (2, .int (nI a)), (3, .int (nI b))]) h dX0_isStuck_77 (by rw [hL]; decide) rfl rfl ?_
            refine u_perm (ws' := [(h0, .inr (0, [.ref ql, .ref qb, .ref qt, .int (nI n)])), (ql, aL G 300 (fL pl K)), (qb, aI G 300 bk), (qt, .inr (1, [.ref qw])), (qw, aI G 54 (encC w))] ++ pool G pl pc Z K) (perm_tail [(h0, .inr (0, [.ref ql, .ref qb, .ref qt, .int (nI n)])), (ql, aL G 300 (fL pl K)), (qb, aI G 300 bk), (qt, .inr (1, [.ref qw])), (qw, aI G 54 (encC w))] (pool_perm (show i < K by omega)).symm) ?_
            refine u_iload h dX0_isStuck_79 1 rfl rfl ?_
            refine u_if_eq_N (a := 0) (tgt := 93) h dX0_isStuck_81 (by decide) (by omega) rfl (fun c16 => ?_) (fun c16 => ?_)
            · refine u_iconst (v := 0) h dX0_isStuck_93 (by decide) rfl ?_
              exact u_zret h hRT dX0_isStuck_94 rfl (by omega) (by omega) (by refine ⟨congrArg (fun q9 => some (Value.int q9)) ?_, rfl⟩; have y1 := c1; rw [r2, bk_3 o2 o3] at y1; have y2 := c2; rw [r2, bk_1 o2 o3] at y2; have y3 := c12; rw [r2, bk_2 o2 o3] at y3; rcases o2 with e1 | e1 <;> rcases o3 with e2 | e2 <;> rw [e1, e2] at y1 <;> rw [e1] at y2 <;> rw [e2] at y3 <;> first | (exact absurd y1 (by decide)) | (exact absurd (And.intro rfl rfl) y1) | (exact absurd y2 (by decide)) | (exact absurd rfl y2) | (exact absurd y3 (by decide)) | (exact absurd rfl y3) | (simp [stuB, bI, e1, e2, c11, c14]; done))
            · exact absurd c16 (by decide)
      · refine u_iconst (v := 1) h dX0_isStuck_45 (by decide) rfl ?_
        refine u_goto (tgt := 50) h dX0_isStuck_46 (by decide) ?_
        refine u_istore (lv' := [(5, .int 1), (4, .ref (pl i)), (0, .ref h0), (1, .int (nI i)), (2, .int (nI a)), (3, .int (nI b))]) h dX0_isStuck_50 (by rw [hL]; decide) rfl rfl ?_
        refine u_aload_n h dX0_isStuck_52 rfl 2 rfl rfl ?_
        refine u_get h flX0_isStuck_17 0 (v := .ref qb) rfl rfl dX0_isStuck_53 rfl ?_
        refine u_iload_n h dX0_isStuck_56 rfl 3 rfl rfl ?_
        refine u_iald h (n := i) 2 rfl (by omega) (by omega) dX0_isStuck_57 rfl ?_
        refine u_iconst (v := 2) h dX0_isStuck_58 (by decide) rfl ?_
        refine u_iand (v := ((bk i) &&& 2)) h dX0_isStuck_59 rfl rfl ?_
        refine u_if_ne (tgt := 72) h dX0_isStuck_60 (by decide) rfl (fun c17 => ?_) (fun c17 => ?_)
        · refine u_iconst (v := 1) h dX0_isStuck_72 (by decide) rfl ?_
          refine u_goto (tgt := 77) h dX0_isStuck_73 (by decide) ?_
          refine u_istore (lv' := [(6, .int 1), (5, .int 1), (4, .ref (pl i)), (0, .ref h0), (1, .int (nI i)), (2, .int (nI a)), (3, .int (nI b))]) h dX0_isStuck_77 (by rw [hL]; decide) rfl rfl ?_
          refine u_perm (ws' := [(h0, .inr (0, [.ref ql, .ref qb, .ref qt, .int (nI n)])), (ql, aL G 300 (fL pl K)), (qb, aI G 300 bk), (qt, .inr (1, [.ref qw])), (qw, aI G 54 (encC w))] ++ pool G pl pc Z K) (perm_tail [(h0, .inr (0, [.ref ql, .ref qb, .ref qt, .int (nI n)])), (ql, aL G 300 (fL pl K)), (qb, aI G 300 bk), (qt, .inr (1, [.ref qw])), (qw, aI G 54 (encC w))] (pool_perm (show i < K by omega)).symm) ?_
          refine u_iload h dX0_isStuck_79 1 rfl rfl ?_
          refine u_if_eq_N (a := 1) (tgt := 93) h dX0_isStuck_81 (by decide) (by omega) rfl (fun c18 => ?_) (fun c18 => ?_)
          · exact absurd c18 (by decide)
          · refine u_iload h dX0_isStuck_84 0 rfl rfl ?_
            refine u_if_eq_N (a := 1) (tgt := 93) h dX0_isStuck_86 (by decide) (by omega) rfl (fun c19 => ?_) (fun c19 => ?_)
            · exact absurd c19 (by decide)
            · refine u_iconst (v := 1) h dX0_isStuck_89 (by decide) rfl ?_
              refine u_goto (tgt := 94) h dX0_isStuck_90 (by decide) ?_
              exact u_zret h hRT dX0_isStuck_94 rfl (by omega) (by omega) (by refine ⟨congrArg (fun q9 => some (Value.int q9)) ?_, rfl⟩; have y1 := c1; rw [r2, bk_3 o2 o3] at y1; have y2 := c2; rw [r2, bk_1 o2 o3] at y2; have y3 := c17; rw [r2, bk_2 o2 o3] at y3; rcases o2 with e1 | e1 <;> rcases o3 with e2 | e2 <;> rw [e1, e2] at y1 <;> rw [e1] at y2 <;> rw [e2] at y3 <;> first | (exact absurd y1 (by decide)) | (exact absurd (And.intro rfl rfl) y1) | (exact absurd y2 (by decide)) | (exact absurd rfl y2) | (exact absurd y3 (by decide)) | (exact absurd rfl y3) | (simp [stuB, bI, e1, e2, c11]; done))
        · refine u_aload h dX0_isStuck_63 1 rfl rfl ?_
          refine u_iload_n h dX0_isStuck_65 rfl 5 rfl rfl ?_
          refine u_wpT (W := [(h0, .inr (0, [.ref ql, .ref qb, .ref qt, .int (nI n)])), (ql, aL G 300 (fL pl K)), (qb, aI G 300 bk), (qt, .inr (1, [.ref qw])), (qw, aI G 54 (encC w)), ((pl i), .inr (1, [.ref (pc i)])), ((pc i), aI G 54 (encC (Z i)))]) (W' := [((pl i), .inr (1, [.ref (pc i)])), ((pc i), aI G 54 (encC (Z i))), (h0, .inr (0, [.ref ql, .ref qb, .ref qt, .int (nI n)])), (ql, aL G 300 (fL pl K)), (qb, aI G 300 bk), (qt, .inr (1, [.ref qw])), (qw, aI G 54 (encC w))]) (T := poolx G pl pc Z i K) [5, 6, 0, 1, 2, 3, 4] rfl rfl ?_
          refine u_eqw (ws' := [((pl i), .inr (1, [.ref (pc i)])), ((pc i), aI G 54 (encC (Z i)))] ++ ([(h0, .inr (0, [.ref ql, .ref qb, .ref qt, .int (nI n)])), (ql, aL G 300 (fL pl K)), (qb, aI G 300 bk), (qt, .inr (1, [.ref qw])), (qw, aI G 54 (encC w))] ++ poolx G pl pc Z i K)) rfl ?_
          refine u_callVA h (As := [.int (nI b)]) (wc := [((pl i), .inr (1, [.ref (pc i)])), ((pc i), aI G 54 (encC (Z i)))]) (wr := [(h0, .inr (0, [.ref ql, .ref qb, .ref qt, .int (nI n)])), (ql, aL G 300 (fL pl K)), (qb, aI G 300 bk), (qt, .inr (1, [.ref qw])), (qw, aI G 54 (encC w))] ++ poolx G pl pc Z i K) (kX1_waits G (pl i) (pc i) (Z i) b hb hW) cwX0_isStuck_X1_waits rfl rfl hR ⟨⟨rfl, rfl⟩, Nat.le_of_ble_eq_true rfl, Nat.le_of_ble_eq_true rfl⟩ ⟨Nat.zero_le _, Nat.zero_le _⟩ (ci := 1) (qr := 0) rfl rfl (Nat.le_of_ble_eq_true rfl) rfl dX0_isStuck_66 rfl (fun v9 u9 hp9 => ?_)
          obtain ⟨rfl, rfl⟩ := hp9
          refine u_eqw (ws' := [((pl i), .inr (1, [.ref (pc i)])), ((pc i), aI G 54 (encC (Z i))), (h0, .inr (0, [.ref ql, .ref qb, .ref qt, .int (nI n)])), (ql, aL G 300 (fL pl K)), (qb, aI G 300 bk), (qt, .inr (1, [.ref qw])), (qw, aI G 54 (encC w))] ++ poolx G pl pc Z i K) rfl ?_
          refine u_eqc (cells' := 0) (slots' := 0) (Nat.add_zero _) (Nat.add_zero _) ?_
          refine u_wpT (W := [((pl i), .inr (1, [.ref (pc i)])), ((pc i), aI G 54 (encC (Z i))), (h0, .inr (0, [.ref ql, .ref qb, .ref qt, .int (nI n)])), (ql, aL G 300 (fL pl K)), (qb, aI G 300 bk), (qt, .inr (1, [.ref qw])), (qw, aI G 54 (encC w))]) (W' := [(h0, .inr (0, [.ref ql, .ref qb, .ref qt, .int (nI n)])), (ql, aL G 300 (fL pl K)), (qb, aI G 300 bk), (qt, .inr (1, [.ref qw])), (qw, aI G 54 (encC w)), ((pl i), .inr (1, [.ref (pc i)])), ((pc i), aI G 54 (encC (Z i)))]) (T := poolx G pl pc Z i K) [2, 3, 4, 5, 6, 0, 1] rfl rfl ?_
          refine u_eqs (st' := [.int (bI (isLook (Z i) b))]) rfl ?_
          refine u_top (y := bI (isLook (tkZ F z i) b)) (by rw [r1]) ?_
          refine u_if_eq_B (tgt := 76) h dX0_isStuck_69 (by decide) rfl (fun c20 => ?_) (fun c20 => ?_)
          · refine u_iconst (v := 0) h dX0_isStuck_76 (by decide) rfl ?_
            refine u_istore (lv' := [(6, .int 0), (5, .int 1), (4, .ref (pl i)), (0, .ref h0), (1, .int (nI i)), (2, .int (nI a)), (3, .int (nI b))]) h dX0_isStuck_77 (by rw [hL]; decide) rfl rfl ?_
            refine u_perm (ws' := [(h0, .inr (0, [.ref ql, .ref qb, .ref qt, .int (nI n)])), (ql, aL G 300 (fL pl K)), (qb, aI G 300 bk), (qt, .inr (1, [.ref qw])), (qw, aI G 54 (encC w))] ++ pool G pl pc Z K) (perm_tail [(h0, .inr (0, [.ref ql, .ref qb, .ref qt, .int (nI n)])), (ql, aL G 300 (fL pl K)), (qb, aI G 300 bk), (qt, .inr (1, [.ref qw])), (qw, aI G 54 (encC w))] (pool_perm (show i < K by omega)).symm) ?_
            refine u_iload h dX0_isStuck_79 1 rfl rfl ?_
            refine u_if_eq_N (a := 1) (tgt := 93) h dX0_isStuck_81 (by decide) (by omega) rfl (fun c21 => ?_) (fun c21 => ?_)
            · exact absurd c21 (by decide)
            · refine u_iload h dX0_isStuck_84 0 rfl rfl ?_
              refine u_if_eq_N (a := 0) (tgt := 93) h dX0_isStuck_86 (by decide) (by omega) rfl (fun c22 => ?_) (fun c22 => ?_)
              · refine u_iconst (v := 0) h dX0_isStuck_93 (by decide) rfl ?_
                exact u_zret h hRT dX0_isStuck_94 rfl (by omega) (by omega) (by refine ⟨congrArg (fun q9 => some (Value.int q9)) ?_, rfl⟩; have y1 := c1; rw [r2, bk_3 o2 o3] at y1; have y2 := c2; rw [r2, bk_1 o2 o3] at y2; have y3 := c17; rw [r2, bk_2 o2 o3] at y3; rcases o2 with e1 | e1 <;> rcases o3 with e2 | e2 <;> rw [e1, e2] at y1 <;> rw [e1] at y2 <;> rw [e2] at y3 <;> first | (exact absurd y1 (by decide)) | (exact absurd (And.intro rfl rfl) y1) | (exact absurd y2 (by decide)) | (exact absurd rfl y2) | (exact absurd y3 (by decide)) | (exact absurd rfl y3) | (simp [stuB, bI, e1, e2, c11, c20]; done))
              · exact absurd c22 (by decide)
          · refine u_iconst (v := 1) h dX0_isStuck_72 (by decide) rfl ?_
            refine u_goto (tgt := 77) h dX0_isStuck_73 (by decide) ?_
            refine u_istore (lv' := [(6, .int 1), (5, .int 1), (4, .ref (pl i)), (0, .ref h0), (1, .int (nI i)), (2, .int (nI a)), (3, .int (nI b))]) h dX0_isStuck_77 (by rw [hL]; decide) rfl rfl ?_
            refine u_perm (ws' := [(h0, .inr (0, [.ref ql, .ref qb, .ref qt, .int (nI n)])), (ql, aL G 300 (fL pl K)), (qb, aI G 300 bk), (qt, .inr (1, [.ref qw])), (qw, aI G 54 (encC w))] ++ pool G pl pc Z K) (perm_tail [(h0, .inr (0, [.ref ql, .ref qb, .ref qt, .int (nI n)])), (ql, aL G 300 (fL pl K)), (qb, aI G 300 bk), (qt, .inr (1, [.ref qw])), (qw, aI G 54 (encC w))] (pool_perm (show i < K by omega)).symm) ?_
            refine u_iload h dX0_isStuck_79 1 rfl rfl ?_
            refine u_if_eq_N (a := 1) (tgt := 93) h dX0_isStuck_81 (by decide) (by omega) rfl (fun c23 => ?_) (fun c23 => ?_)
            · exact absurd c23 (by decide)
            · refine u_iload h dX0_isStuck_84 0 rfl rfl ?_
              refine u_if_eq_N (a := 1) (tgt := 93) h dX0_isStuck_86 (by decide) (by omega) rfl (fun c24 => ?_) (fun c24 => ?_)
              · exact absurd c24 (by decide)
              · refine u_iconst (v := 1) h dX0_isStuck_89 (by decide) rfl ?_
                refine u_goto (tgt := 94) h dX0_isStuck_90 (by decide) ?_
                exact u_zret h hRT dX0_isStuck_94 rfl (by omega) (by omega) (by refine ⟨congrArg (fun q9 => some (Value.int q9)) ?_, rfl⟩; have y1 := c1; rw [r2, bk_3 o2 o3] at y1; have y2 := c2; rw [r2, bk_1 o2 o3] at y2; have y3 := c17; rw [r2, bk_2 o2 o3] at y3; rcases o2 with e1 | e1 <;> rcases o3 with e2 | e2 <;> rw [e1, e2] at y1 <;> rw [e1] at y2 <;> rw [e2] at y3 <;> first | (exact absurd y1 (by decide)) | (exact absurd (And.intro rfl rfl) y1) | (exact absurd y2 (by decide)) | (exact absurd rfl y2) | (exact absurd y3 (by decide)) | (exact absurd rfl y3) | (simp [stuB, bI, e1, e2, c11, c20]; done))
  · refine u_iconst (v := 0) h dX0_isStuck_23 (by decide) rfl ?_
    exact u_zret h hRT dX0_isStuck_24 rfl (by omega) (by omega) (by refine ⟨congrArg (fun q9 => some (Value.int q9)) ?_, rfl⟩; have y1 := c1; rw [r2, bk_3 o2 o3] at y1; rcases o2 with e1 | e1 <;> rcases o3 with e2 | e2 <;> rw [e1, e2] at y1 <;> first | (exact absurd y1 (by decide)) | (exact absurd (And.intro rfl rfl) y1) | (simp [stuB, bI, e1, e2]; done))

theorem flX0_countStuck_26 : FL wsX0_countStuck RX0 26 0 3 := ⟨RX0, TX0, 4, rfl, by decide, by decide +kernel, by decide +kernel⟩
set_option maxRecDepth 20000 in
theorem cwX0_countStuck_X0_isStuck : CWd wsX0_countStuck (wsV RX0 57 RX0 yX0_isStuck wsX0_isStuck) yX0_isStuck wsX0_isStuck cX0_isStuck 7 (some .boolean) 3 := ⟨gX0_countStuck_X0_isStuck, ⟨_, rfl⟩, by decide +kernel, by decide, by decide⟩
set_option maxHeartbeats 8000000 in
set_option maxRecDepth 100000 in
theorem kX0_countStuck (G : Gx) (h0 ql qb qt qw : Nat) (pl pc : Nat → Nat) (Z : Nat → Zf) (bk w : Zf) (n K : Nat) (F z : Zf) (a b : Nat) (hnK : n ≤ K) (hK : K ≤ 300) (h53 : ∃ m : Nat, m ≤ 6 ∧ z 53 = nI m) (ha : a < 6) (hb : b < 6) (hRw : RowsOk F z n) (hRl : Rel F z n Z bk) : MC G yX0_countStuck wsX0_countStuck ({ frames := 5, cells := 0, slots := 0, locals := 110 } : Room) [.ref h0, .int (nI a), .int (nI b)] ([(h0, .inr (0, [.ref ql, .ref qb, .ref qt, .int (nI n)])), (ql, aL G 300 (fL pl K)), (qb, aI G 300 bk), (qt, .inr (1, [.ref qw])), (qw, aI G 54 (encC w))] ++ pool G pl pc Z K) (fun v' u' => v' = some (.int (cfN F z a b false n)) ∧ u' = [(h0, .inr (0, [.ref ql, .ref qb, .ref qt, .int (nI n)])), (ql, aL G 300 (fL pl K)), (qb, aI G 300 bk), (qt, .inr (1, [.ref qw])), (qw, aI G 54 (encC w))] ++ pool G pl pc Z K) 0 0 := by
  refine mc_of (cc := cX0_countStuck) (maxL := 5) (ret := (some .int)) (by decide) rfl (Nat.le_of_ble_eq_true rfl) (fun X h hR hL hRT => ?_)
  refine u_eql (lv' := [(0, .ref h0), (1, .int (nI a)), (2, .int (nI b))]) rfl ?_
  refine u_iconst (v := 0) h dX0_countStuck_0 (by decide) rfl ?_
  refine u_istore_n (lv' := [(3, .int 0), (0, .ref h0), (1, .int (nI a)), (2, .int (nI b))]) h dX0_countStuck_1 rfl (by rw [hL]; decide) rfl rfl ?_
  refine u_iconst (v := 0) h dX0_countStuck_2 (by decide) rfl ?_
  refine u_istore (lv' := [(4, .int 0), (3, .int 0), (0, .ref h0), (1, .int (nI a)), (2, .int (nI b))]) h dX0_countStuck_3 (by rw [hL]; decide) rfl rfl ?_
  have LL : ∀ (k9 : Nat) (i : Nat) (s : Int32), n - i = k9 → (i ≤ n) → (s = cfN F z a b false i) → U G X 0 0 ([(h0, .inr (0, [.ref ql, .ref qb, .ref qt, .int (nI n)])), (ql, aL G 300 (fL pl K)), (qb, aI G 300 bk), (qt, .inr (1, [.ref qw])), (qw, aI G 54 (encC w))] ++ pool G pl pc Z K) 5 [(4, .int (nI i)), (3, .int s), (0, .ref h0), (1, .int (nI a)), (2, .int (nI b))] [] := by
    intro k9
    induction k9 using Nat.strongRecOn with
    | _ k9 ihL =>
      intro i s hk9 hi hn
      subst hk9
      refine u_iload h dX0_countStuck_5 0 rfl rfl ?_
      refine u_aload_n h dX0_countStuck_7 rfl 2 rfl rfl ?_
      refine u_get h flX0_countStuck_26 0 (v := .int (nI n)) rfl rfl dX0_countStuck_8 rfl ?_
      refine u_icmp_ge_N (a := i) (b := n) (tgt := 42) h dX0_countStuck_11 (by decide) (by omega) (by omega) rfl (fun c1 => ?_) (fun c1 => ?_)
      · refine u_iload_n h dX0_countStuck_42 rfl 1 rfl rfl ?_
        exact u_iret h hRT dX0_countStuck_43 (by omega) (by omega) (by exact ⟨by rw [hn, show i = n by omega], rfl⟩)
      · refine u_iload h dX0_countStuck_14 0 rfl rfl ?_
        refine u_sipush (v := 300) h dX0_countStuck_16 (by decide) rfl ?_
        refine u_icmp_ge_N (a := i) (b := 300) (tgt := 42) h dX0_countStuck_19 (by decide) (by omega) (by omega) rfl (fun c2 => ?_) (fun c2 => ?_)
        · omega
        · refine u_aload_n h dX0_countStuck_22 rfl 2 rfl rfl ?_
          refine u_iload h dX0_countStuck_23 0 rfl rfl ?_
          refine u_iload_n h dX0_countStuck_25 rfl 3 rfl rfl ?_
          refine u_iload_n h dX0_countStuck_26 rfl 4 rfl rfl ?_
          refine u_perm (ws' := ([(h0, .inr (0, [.ref ql, .ref qb, .ref qt, .int (nI n)])), (ql, aL G 300 (fL pl K)), (qb, aI G 300 bk), (qt, .inr (1, [.ref qw])), (qw, aI G 54 (encC w))] ++ pool G pl pc Z K) ++ ([] : va_W)) (perm_mid2 [(h0, .inr (0, [.ref ql, .ref qb, .ref qt, .int (nI n)])), (ql, aL G 300 (fL pl K)), (qb, aI G 300 bk), (qt, .inr (1, [.ref qw])), (qw, aI G 54 (encC w))] [] (pool G pl pc Z K)) ?_
          refine u_callVA h (As := [.int (nI i), .int (nI a), .int (nI b)]) (wc := [(h0, .inr (0, [.ref ql, .ref qb, .ref qt, .int (nI n)])), (ql, aL G 300 (fL pl K)), (qb, aI G 300 bk), (qt, .inr (1, [.ref qw])), (qw, aI G 54 (encC w))] ++ pool G pl pc Z K) (wr := []) (kX0_isStuck G h0 ql qb qt qw pl pc Z bk w n K F z a b hnK hK h53 ha hb hRw hRl i (by omega)) cwX0_countStuck_X0_isStuck rfl rfl hR ⟨⟨rfl, rfl⟩, Nat.le_of_ble_eq_true rfl, Nat.le_of_ble_eq_true rfl⟩ ⟨Nat.zero_le _, Nat.zero_le _⟩ (ci := 0) (qr := 0) rfl rfl (Nat.le_of_ble_eq_true rfl) rfl dX0_countStuck_27 rfl (fun v9 u9 hp9 => ?_)
          obtain ⟨rfl, rfl⟩ := hp9
          refine u_perm (ws' := [(h0, .inr (0, [.ref ql, .ref qb, .ref qt, .int (nI n)])), (ql, aL G 300 (fL pl K)), (qb, aI G 300 bk), (qt, .inr (1, [.ref qw])), (qw, aI G 54 (encC w))] ++ pool G pl pc Z K) (perm_mid3 [(h0, .inr (0, [.ref ql, .ref qb, .ref qt, .int (nI n)])), (ql, aL G 300 (fL pl K)), (qb, aI G 300 bk), (qt, .inr (1, [.ref qw])), (qw, aI G 54 (encC w))] [] (pool G pl pc Z K)) ?_
          refine u_eqc (cells' := 0) (slots' := 0) (Nat.add_zero _) (Nat.add_zero _) ?_
          refine u_eqs (st' := [.int (bI (stuB F (tkZ F z i) i a b))]) rfl ?_
          refine u_if_eq_B (tgt := 36) h dX0_countStuck_30 (by decide) rfl (fun c3 => ?_) (fun c3 => ?_)
          · refine u_iinc (k := 0) (v := (nI (i + 1))) (lv' := [(4, .int (nI (i + 1))), (3, .int s), (0, .ref h0), (1, .int (nI a)), (2, .int (nI b))]) h dX0_countStuck_36 rfl (nI_add i 1) (by rw [hL]; decide) rfl rfl ?_
            refine u_goto (tgt := 5) h dX0_countStuck_39 (by decide) ?_
            exact ihL _ (by omega) (i + 1) s rfl (by omega) (by simp only [cfN]; rw [← hn, if_neg (by decide), c3]; exact (Int32.add_zero _).symm)
          · refine u_iinc (k := 1) (v := (s + 1)) (lv' := [(3, .int (s + 1)), (4, .int (nI i)), (0, .ref h0), (1, .int (nI a)), (2, .int (nI b))]) h dX0_countStuck_33 rfl rfl (by rw [hL]; decide) rfl rfl ?_
            refine u_iinc (k := 1) (v := (nI (i + 1))) (lv' := [(4, .int (nI (i + 1))), (3, .int (s + 1)), (0, .ref h0), (1, .int (nI a)), (2, .int (nI b))]) h dX0_countStuck_36 rfl (nI_add i 1) (by rw [hL]; decide) rfl rfl ?_
            refine u_goto (tgt := 5) h dX0_countStuck_39 (by decide) ?_
            exact ihL _ (by omega) (i + 1) (s + 1) rfl (by omega) (by simp only [cfN]; rw [← hn, if_neg (by decide), c3]; rfl)
  exact LL _ 0 0 rfl (Nat.zero_le n) rfl
