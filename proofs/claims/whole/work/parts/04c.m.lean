theorem flX5_record_51 : FL wsX5_record RX5 51 5 3 := ⟨RX5, TX5, 18, rfl, by decide, by decide +kernel, by decide +kernel⟩
theorem flX5_record_7 : FL wsX5_record RX5 7 5 0 := ⟨RX5, TX5, 18, rfl, by decide, by decide +kernel, by decide +kernel⟩
theorem flX5_record_16 : FL wsX5_record RX5 16 5 2 := ⟨RX5, TX5, 18, rfl, by decide, by decide +kernel, by decide +kernel⟩
theorem fwX5_record_51 : FW wsX5_record RX5 51 5 3 false .int := ⟨RX5, TX5, 18, tyX5, rfl, by decide, by decide +kernel, by decide +kernel, tyX5_ok, nmX5, rfl, by decide +kernel, rfl⟩
set_option maxRecDepth 20000 in
theorem cwX5_record_X5_copyRow : CWd wsX5_record (wsS RX5 55 yX5_copyRow wsX5_copyRow) yX5_copyRow wsX5_copyRow cX5_copyRow 6 none 5 := ⟨gX5_record_X5_copyRow, ⟨_, rfl⟩, by decide +kernel, by decide, by decide⟩
set_option maxHeartbeats 8000000 in
set_option maxRecDepth 100000 in
theorem kX5_record (G : Gx) (h0 : Nat) (q : Nat → Nat) (st : Nat) (hst : st ≤ 4) (ik ln sT fm bo bt : Int32) (z p : Zf) : MC G yX5_record wsX5_record ({ frames := 1, cells := 0, slots := 0, locals := 25 } : Room) [.ref h0] [(h0, .inr (5, mO q (nI st) ik ln sT fm bo bt)), ((q 0), aI G 86 z), ((q 2), aI G 344 p)] (fun v' u' => v' = none ∧ u' = [(h0, .inr (5, mO q (nI (recN st)) ik ln sT fm bo bt)), ((q 0), aI G 86 z), ((q 2), aI G 344 (recP p z st))]) 0 0 := by
  refine mc_of (cc := cX5_record) (maxL := 2) (ret := none) (by decide) rfl (Nat.le_of_ble_eq_true rfl) (fun X h hR hL hRT => ?_)
  refine u_eql (lv' := [(0, .ref h0)]) rfl ?_
  refine u_aload_n h dX5_record_0 rfl 0 rfl rfl ?_
  refine u_get h flX5_record_51 0 (v := .int (nI st)) rfl rfl dX5_record_1 rfl ?_
  refine u_iconst (v := 4) h dX5_record_4 (by decide) rfl ?_
  refine u_icmp_ne_N (a := st) (b := 4) (tgt := 48) h dX5_record_5 (by decide) (by omega) (by omega) rfl (fun c1 => ?_) (fun c1 => ?_)
  · refine u_aload_n h dX5_record_48 rfl 0 rfl rfl ?_
    refine u_get h flX5_record_7 0 (v := .ref (q 0)) rfl rfl dX5_record_49 rfl ?_
    refine u_iconst (v := 0) h dX5_record_52 (by decide) rfl ?_
    refine u_aload_n h dX5_record_53 rfl 0 rfl rfl ?_
    refine u_get h flX5_record_16 0 (v := .ref (q 2)) rfl rfl dX5_record_54 rfl ?_
    refine u_bipush (v := 86) h dX5_record_57 (by decide) rfl ?_
    refine u_aload_n h dX5_record_59 rfl 0 rfl rfl ?_
    refine u_get h flX5_record_51 0 (v := .int (nI st)) rfl rfl dX5_record_60 rfl ?_
    refine u_imul (v := (nI (86 * st))) h dX5_record_63 (pk_mul 86 st) rfl ?_
    refine u_bipush (v := 86) h dX5_record_64 (by decide) rfl ?_
    refine u_callS h (As := [.ref (q 0), .int 0, .ref (q 2), .int (nI (86 * st)), .int 86]) (wc := [((q 0), aI G 86 z), ((q 2), aI G 344 p)]) (wr := [(h0, .inr (5, mO q (nI st) ik ln sT fm bo bt))]) (kX5_copyRow G (q 0) (q 2) 86 344 0 (86 * st) 86 z p (by omega) (by omega) (by omega) (by omega)) cwX5_record_X5_copyRow rfl rfl hR ⟨⟨rfl, rfl⟩, by decide, by decide⟩ ⟨Nat.le_of_ble_eq_true rfl, Nat.le_of_ble_eq_true rfl⟩ [1, 2] [0] rfl rfl rfl rfl (by decide) (Nat.le_of_ble_eq_true rfl) rfl dX5_record_66 rfl (fun v9 u9 hp9 => ?_)
    obtain ⟨rfl, rfl⟩ := hp9
    refine u_wp (ws' := [(h0, .inr (5, mO q (nI st) ik ln sT fm bo bt)), ((q 0), aI G 86 z), ((q 2), aI G 344 (va_cpy z p 0 (86 * st) 86))]) [0, 1, 2] rfl rfl ?_
    refine u_eqs (st' := []) rfl ?_
    refine u_aload_n h dX5_record_69 rfl 0 rfl rfl ?_
    refine u_dup h dX5_record_70 rfl rfl ?_
    refine u_get h flX5_record_51 0 (v := .int (nI st)) rfl rfl dX5_record_71 rfl ?_
    refine u_iconst (v := 1) h dX5_record_74 (by decide) rfl ?_
    refine u_iadd (v := (nI (st + 1))) h dX5_record_75 (nI_add st 1) rfl ?_
    refine u_put h fwX5_record_51 (ws' := [(h0, .inr (5, mO q (nI (st + 1)) ik ln sT fm bo bt)), ((q 0), aI G 86 z), ((q 2), aI G 344 (va_cpy z p 0 (86 * st) 86))]) 0 rfl (Nat.le_of_ble_eq_true rfl) rfl rfl rfl dX5_record_76 rfl ?_
    exact u_vret h hRT dX5_record_79 (by omega) (by omega) (by exact ⟨rfl, by simp [recN, recP, c1]⟩)
  · refine u_iconst (v := 0) h dX5_record_8 (by decide) rfl ?_
    refine u_istore_n (lv' := [(1, .int 0), (0, .ref h0)]) h dX5_record_9 rfl (by rw [hL]; decide) rfl rfl ?_
    have LL : ∀ (k9 : Nat) (k : Nat) (w : Zf), 258 - k = k9 → (k ≤ 258) → (w = shP p k) → U G X 0 0 [(h0, .inr (5, mO q (nI st) ik ln sT fm bo bt)), ((q 0), aI G 86 z), ((q 2), aI G 344 w)] 10 [(1, .int (nI k)), (0, .ref h0)] [] := by
      intro k9
      induction k9 using Nat.strongRecOn with
      | _ k9 ihL =>
        intro k w hk9 hk hw
        subst hk9
        refine u_iload_n h dX5_record_10 rfl 0 rfl rfl ?_
        refine u_sipush (v := 258) h dX5_record_11 (by decide) rfl ?_
        refine u_icmp_ge_N (a := k) (b := 258) (tgt := 38) h dX5_record_14 (by decide) (by omega) (by omega) rfl (fun c2 => ?_) (fun c2 => ?_)
        · refine u_aload_n h dX5_record_38 rfl 1 rfl rfl ?_
          refine u_dup h dX5_record_39 rfl rfl ?_
          refine u_get h flX5_record_51 0 (v := .int (nI st)) rfl rfl dX5_record_40 rfl ?_
          refine u_iconst (v := 1) h dX5_record_43 (by decide) rfl ?_
          refine u_isub (v := (nI (st - 1))) h dX5_record_44 (pk_sub (a := st) (b := 1) (by omega)) rfl ?_
          refine u_put h fwX5_record_51 (ws' := [(h0, .inr (5, mO q (nI (st - 1)) ik ln sT fm bo bt)), ((q 0), aI G 86 z), ((q 2), aI G 344 w)]) 0 rfl (Nat.le_of_ble_eq_true rfl) rfl rfl rfl dX5_record_45 rfl ?_
          refine u_aload_n h dX5_record_48 rfl 1 rfl rfl ?_
          refine u_get h flX5_record_7 0 (v := .ref (q 0)) rfl rfl dX5_record_49 rfl ?_
          refine u_iconst (v := 0) h dX5_record_52 (by decide) rfl ?_
          refine u_aload_n h dX5_record_53 rfl 1 rfl rfl ?_
          refine u_get h flX5_record_16 0 (v := .ref (q 2)) rfl rfl dX5_record_54 rfl ?_
          refine u_bipush (v := 86) h dX5_record_57 (by decide) rfl ?_
          refine u_aload_n h dX5_record_59 rfl 1 rfl rfl ?_
          refine u_get h flX5_record_51 0 (v := .int (nI (st - 1))) rfl rfl dX5_record_60 rfl ?_
          refine u_imul (v := (nI (86 * (st - 1)))) h dX5_record_63 (pk_mul 86 (st - 1)) rfl ?_
          refine u_bipush (v := 86) h dX5_record_64 (by decide) rfl ?_
          refine u_callS h (As := [.ref (q 0), .int 0, .ref (q 2), .int (nI (86 * (st - 1))), .int 86]) (wc := [((q 0), aI G 86 z), ((q 2), aI G 344 w)]) (wr := [(h0, .inr (5, mO q (nI (st - 1)) ik ln sT fm bo bt))]) (kX5_copyRow G (q 0) (q 2) 86 344 0 (86 * (st - 1)) 86 z w (by omega) (by omega) (by omega) (by omega)) cwX5_record_X5_copyRow rfl rfl hR ⟨⟨rfl, rfl⟩, by decide, by decide⟩ ⟨Nat.le_of_ble_eq_true rfl, Nat.le_of_ble_eq_true rfl⟩ [1, 2] [0] rfl rfl rfl rfl (by decide) (Nat.le_of_ble_eq_true rfl) rfl dX5_record_66 rfl (fun v9 u9 hp9 => ?_)
          obtain ⟨rfl, rfl⟩ := hp9
          refine u_wp (ws' := [(h0, .inr (5, mO q (nI (st - 1)) ik ln sT fm bo bt)), ((q 0), aI G 86 z), ((q 2), aI G 344 (va_cpy z w 0 (86 * (st - 1)) 86))]) [0, 1, 2] rfl rfl ?_
          refine u_eqs (st' := []) rfl ?_
          refine u_aload_n h dX5_record_69 rfl 1 rfl rfl ?_
          refine u_dup h dX5_record_70 rfl rfl ?_
          refine u_get h flX5_record_51 0 (v := .int (nI (st - 1))) rfl rfl dX5_record_71 rfl ?_
          refine u_iconst (v := 1) h dX5_record_74 (by decide) rfl ?_
          refine u_iadd (v := (nI ((st - 1) + 1))) h dX5_record_75 (nI_add (st - 1) 1) rfl ?_
          refine u_put h fwX5_record_51 (ws' := [(h0, .inr (5, mO q (nI ((st - 1) + 1)) ik ln sT fm bo bt)), ((q 0), aI G 86 z), ((q 2), aI G 344 (va_cpy z w 0 (86 * (st - 1)) 86))]) 0 rfl (Nat.le_of_ble_eq_true rfl) rfl rfl rfl dX5_record_76 rfl ?_
          exact u_vret h hRT dX5_record_79 (by omega) (by omega) (by exact ⟨rfl, by simp [recN, recP, c1, c2, hw, show k = 258 by omega]⟩)
        · refine u_aload_n h dX5_record_17 rfl 1 rfl rfl ?_
          refine u_get h flX5_record_16 0 (v := .ref (q 2)) rfl rfl dX5_record_18 rfl ?_
          refine u_iload_n h dX5_record_21 rfl 0 rfl rfl ?_
          refine u_aload_n h dX5_record_22 rfl 1 rfl rfl ?_
          refine u_get h flX5_record_16 0 (v := .ref (q 2)) rfl rfl dX5_record_23 rfl ?_
          refine u_iload_n h dX5_record_26 rfl 0 rfl rfl ?_
          refine u_bipush (v := 86) h dX5_record_27 (by decide) rfl ?_
          refine u_iadd (v := (nI (k + 86))) h dX5_record_29 (nI_add k 86) rfl ?_
          refine u_iald h (n := (k + 86)) 2 rfl (by omega) (by omega) dX5_record_30 rfl ?_
          refine u_iast h (n := k) (v := (w (k + 86))) 2 rfl (by omega) (by omega) rfl (ws' := [(h0, .inr (5, mO q (nI st) ik ln sT fm bo bt)), ((q 0), aI G 86 z), ((q 2), aI G 344 (upd w k (w (k + 86))))]) rfl dX5_record_31 rfl ?_
          refine u_iinc (k := 0) (v := (nI (k + 1))) (lv' := [(1, .int (nI (k + 1))), (0, .ref h0)]) h dX5_record_32 rfl (nI_add k 1) (by rw [hL]; decide) rfl rfl ?_
          refine u_goto (tgt := 10) h dX5_record_35 (by decide) ?_
          exact ihL _ (by omega) (k + 1) (upd w k (w (k + 86))) rfl (by omega) (by rw [hw]; exact shP_succ _ _)
    exact LL _ 0 p rfl (Nat.zero_le _) (shP_0 _).symm

theorem flX5_clearLock_7 : FL wsX5_clearLock RX5 7 5 0 := ⟨RX5, TX5, 18, rfl, by decide, by decide +kernel, by decide +kernel⟩
set_option maxHeartbeats 8000000 in
set_option maxRecDepth 100000 in
theorem kX5_clearLock (G : Gx) (h0 qz : Nat) (fs : List Value) (hfz : fs[0]? = some (.ref qz)) (z : Zf) (kd : Int32) : MC G yX5_clearLock wsX5_clearLock ({ frames := 0, cells := 0, slots := 0, locals := 0 } : Room) [.ref h0, .int kd] [(h0, .inr (5, fs)), (qz, aI G 86 z)] (fun v' u' => v' = none ∧ u' = [(h0, .inr (5, fs)), (qz, aI G 86 (clrM z kd))]) 0 0 := by
  refine mc_of (cc := cX5_clearLock) (maxL := 3) (ret := none) (by decide) rfl (Nat.le_of_ble_eq_true rfl) (fun X h hR hL hRT => ?_)
  refine u_eql (lv' := [(0, .ref h0), (1, .int kd)]) rfl ?_
  refine u_iconst (v := 0) h dX5_clearLock_0 (by decide) rfl ?_
  refine u_istore_n (lv' := [(2, .int 0), (0, .ref h0), (1, .int kd)]) h dX5_clearLock_1 rfl (by rw [hL]; decide) rfl rfl ?_
  have LA : ∀ (k9 : Nat) (k : Nat) (w : Zf), 53 - k = k9 → (k ≤ 53) → (w = zrM z k) → U G X 0 0 [(h0, .inr (5, fs)), (qz, aI G 86 w)] 2 [(2, .int (nI k)), (0, .ref h0), (1, .int kd)] [] := by
    intro k9
    induction k9 using Nat.strongRecOn with
    | _ k9 ihA =>
      intro k w hk9 hk hw
      subst hk9
      refine u_iload_n h dX5_clearLock_2 rfl 0 rfl rfl ?_
      refine u_bipush (v := 53) h dX5_clearLock_3 (by decide) rfl ?_
      refine u_icmp_ge_N (a := k) (b := 53) (tgt := 21) h dX5_clearLock_5 (by decide) (by omega) (by omega) rfl (fun c1 => ?_) (fun c1 => ?_)
      · refine u_iconst (v := 0) h dX5_clearLock_21 (by decide) rfl ?_
        refine u_istore_n (lv' := [(2, .int 0), (0, .ref h0), (1, .int kd)]) h dX5_clearLock_22 rfl (by rw [hL]; decide) rfl rfl ?_
        have LB : ∀ (k9 : Nat) (v : Nat) (w2 : Zf), 6 - v = k9 → (v ≤ 6) → (w2 = clM w v) → U G X 0 0 [(h0, .inr (5, fs)), (qz, aI G 86 w2)] 23 [(2, .int (nI v)), (0, .ref h0), (1, .int kd)] [] := by
          intro k9
          induction k9 using Nat.strongRecOn with
          | _ k9 ihB =>
            intro v w2 hk9 hv hw2
            subst hk9
            refine u_iload_n h dX5_clearLock_23 rfl 0 rfl rfl ?_
            refine u_bipush (v := 6) h dX5_clearLock_24 (by decide) rfl ?_
            refine u_icmp_ge_N (a := v) (b := 6) (tgt := 85) h dX5_clearLock_26 (by decide) (by omega) (by omega) rfl (fun c2 => ?_) (fun c2 => ?_)
            · refine u_aload_n h dX5_clearLock_85 rfl 1 rfl rfl ?_
              refine u_get h flX5_clearLock_7 0 (v := .ref qz) rfl hfz dX5_clearLock_86 rfl ?_
              refine u_bipush (v := 49) h dX5_clearLock_89 (by decide) rfl ?_
              refine u_iload_n h dX5_clearLock_91 rfl 2 rfl rfl ?_
              refine u_if_ne (tgt := 99) h dX5_clearLock_92 (by decide) rfl (fun c3 => ?_) (fun c3 => ?_)
              · refine u_bipush (v := 6) h dX5_clearLock_99 (by decide) rfl ?_
                refine u_iast h (n := 49) (v := 6) 1 rfl (by omega) (by omega) rfl (ws' := [(h0, .inr (5, fs)), (qz, aI G 86 (upd w2 49 6))]) rfl dX5_clearLock_101 rfl ?_
                refine u_aload_n h dX5_clearLock_102 rfl 1 rfl rfl ?_
                refine u_get h flX5_clearLock_7 0 (v := .ref qz) rfl hfz dX5_clearLock_103 rfl ?_
                refine u_bipush (v := 60) h dX5_clearLock_106 (by decide) rfl ?_
                refine u_iload_n h dX5_clearLock_108 rfl 2 rfl rfl ?_
                refine u_iast h (n := 60) (v := kd) 1 rfl (by omega) (by omega) rfl (ws' := [(h0, .inr (5, fs)), (qz, aI G 86 (upd (upd w2 49 6) 60 kd))]) rfl dX5_clearLock_109 rfl ?_
                exact u_vret h hRT dX5_clearLock_110 (by omega) (by omega) (by refine ⟨rfl, ?_⟩; rw [hw2, hw, show k = 53 by omega, show v = 6 by omega]; simp [clrM, c1, c2, c3])
              · refine u_iconst (v := (-1)) h dX5_clearLock_95 (by decide) rfl ?_
                refine u_goto (tgt := 101) h dX5_clearLock_96 (by decide) ?_
                refine u_iast h (n := 49) (v := (-1)) 1 rfl (by omega) (by omega) rfl (ws' := [(h0, .inr (5, fs)), (qz, aI G 86 (upd w2 49 (-1)))]) rfl dX5_clearLock_101 rfl ?_
                refine u_aload_n h dX5_clearLock_102 rfl 1 rfl rfl ?_
                refine u_get h flX5_clearLock_7 0 (v := .ref qz) rfl hfz dX5_clearLock_103 rfl ?_
                refine u_bipush (v := 60) h dX5_clearLock_106 (by decide) rfl ?_
                refine u_iload_n h dX5_clearLock_108 rfl 2 rfl rfl ?_
                refine u_iast h (n := 60) (v := kd) 1 rfl (by omega) (by omega) rfl (ws' := [(h0, .inr (5, fs)), (qz, aI G 86 (upd (upd w2 49 (-1)) 60 kd))]) rfl dX5_clearLock_109 rfl ?_
                exact u_vret h hRT dX5_clearLock_110 (by omega) (by omega) (by refine ⟨rfl, ?_⟩; rw [hw2, hw, show k = 53 by omega, show v = 6 by omega]; simp [clrM, c1, c2, c3])
            · refine u_aload_n h dX5_clearLock_29 rfl 1 rfl rfl ?_
              refine u_get h flX5_clearLock_7 0 (v := .ref qz) rfl hfz dX5_clearLock_30 rfl ?_
              refine u_bipush (v := 6) h dX5_clearLock_33 (by decide) rfl ?_
              refine u_iload_n h dX5_clearLock_35 rfl 0 rfl rfl ?_
              refine u_iadd (v := (nI (6 + v))) h dX5_clearLock_36 (nI_add 6 v) rfl ?_
              refine u_iconst (v := (-1)) h dX5_clearLock_37 (by decide) rfl ?_
              refine u_iast h (n := (6 + v)) (v := (-1)) 1 rfl (by omega) (by omega) rfl (ws' := [(h0, .inr (5, fs)), (qz, aI G 86 (upd w2 (6 + v) (-1)))]) rfl dX5_clearLock_38 rfl ?_
              refine u_aload_n h dX5_clearLock_39 rfl 1 rfl rfl ?_
              refine u_get h flX5_clearLock_7 0 (v := .ref qz) rfl hfz dX5_clearLock_40 rfl ?_
              refine u_bipush (v := 18) h dX5_clearLock_43 (by decide) rfl ?_
              refine u_iload_n h dX5_clearLock_45 rfl 0 rfl rfl ?_
              refine u_iadd (v := (nI (18 + v))) h dX5_clearLock_46 (nI_add 18 v) rfl ?_
              refine u_iconst (v := (-1)) h dX5_clearLock_47 (by decide) rfl ?_
              refine u_iast h (n := (18 + v)) (v := (-1)) 1 rfl (by omega) (by omega) rfl (ws' := [(h0, .inr (5, fs)), (qz, aI G 86 (upd (upd w2 (6 + v) (-1)) (18 + v) (-1)))]) rfl dX5_clearLock_48 rfl ?_
              refine u_aload_n h dX5_clearLock_49 rfl 1 rfl rfl ?_
              refine u_get h flX5_clearLock_7 0 (v := .ref qz) rfl hfz dX5_clearLock_50 rfl ?_
              refine u_bipush (v := 24) h dX5_clearLock_53 (by decide) rfl ?_
              refine u_iload_n h dX5_clearLock_55 rfl 0 rfl rfl ?_
              refine u_iadd (v := (nI (24 + v))) h dX5_clearLock_56 (nI_add 24 v) rfl ?_
              refine u_iload_n h dX5_clearLock_57 rfl 0 rfl rfl ?_
              refine u_iast h (n := (24 + v)) (v := (nI v)) 1 rfl (by omega) (by omega) rfl (ws' := [(h0, .inr (5, fs)), (qz, aI G 86 (upd (upd (upd w2 (6 + v) (-1)) (18 + v) (-1)) (24 + v) (nI v)))]) rfl dX5_clearLock_58 rfl ?_
              refine u_aload_n h dX5_clearLock_59 rfl 1 rfl rfl ?_
              refine u_get h flX5_clearLock_7 0 (v := .ref qz) rfl hfz dX5_clearLock_60 rfl ?_
              refine u_bipush (v := 30) h dX5_clearLock_63 (by decide) rfl ?_
              refine u_iload_n h dX5_clearLock_65 rfl 0 rfl rfl ?_
              refine u_iadd (v := (nI (30 + v))) h dX5_clearLock_66 (nI_add 30 v) rfl ?_
              refine u_iconst (v := (-1)) h dX5_clearLock_67 (by decide) rfl ?_
              refine u_iast h (n := (30 + v)) (v := (-1)) 1 rfl (by omega) (by omega) rfl (ws' := [(h0, .inr (5, fs)), (qz, aI G 86 (upd (upd (upd (upd w2 (6 + v) (-1)) (18 + v) (-1)) (24 + v) (nI v)) (30 + v) (-1)))]) rfl dX5_clearLock_68 rfl ?_
              refine u_aload_n h dX5_clearLock_69 rfl 1 rfl rfl ?_
              refine u_get h flX5_clearLock_7 0 (v := .ref qz) rfl hfz dX5_clearLock_70 rfl ?_
              refine u_bipush (v := 36) h dX5_clearLock_73 (by decide) rfl ?_
              refine u_iload_n h dX5_clearLock_75 rfl 0 rfl rfl ?_
              refine u_iadd (v := (nI (36 + v))) h dX5_clearLock_76 (nI_add 36 v) rfl ?_
              refine u_iconst (v := (-1)) h dX5_clearLock_77 (by decide) rfl ?_
              refine u_iast h (n := (36 + v)) (v := (-1)) 1 rfl (by omega) (by omega) rfl (ws' := [(h0, .inr (5, fs)), (qz, aI G 86 (upd (upd (upd (upd (upd w2 (6 + v) (-1)) (18 + v) (-1)) (24 + v) (nI v)) (30 + v) (-1)) (36 + v) (-1)))]) rfl dX5_clearLock_78 rfl ?_
              refine u_iinc (k := 0) (v := (nI (v + 1))) (lv' := [(2, .int (nI (v + 1))), (0, .ref h0), (1, .int kd)]) h dX5_clearLock_79 rfl (nI_add v 1) (by rw [hL]; decide) rfl rfl ?_
              refine u_goto (tgt := 23) h dX5_clearLock_82 (by decide) ?_
              exact ihB _ (by omega) (v + 1) (upd (upd (upd (upd (upd w2 (6 + v) (-1)) (18 + v) (-1)) (24 + v) (nI v)) (30 + v) (-1)) (36 + v) (-1)) rfl (by omega) (by rw [hw2]; rfl)
        exact LB _ 0 w rfl (Nat.zero_le _) rfl
      · refine u_aload_n h dX5_clearLock_8 rfl 1 rfl rfl ?_
        refine u_get h flX5_clearLock_7 0 (v := .ref qz) rfl hfz dX5_clearLock_9 rfl ?_
        refine u_iload_n h dX5_clearLock_12 rfl 0 rfl rfl ?_
        refine u_iconst (v := 0) h dX5_clearLock_13 (by decide) rfl ?_
        refine u_iast h (n := k) (v := 0) 1 rfl (by omega) (by omega) rfl (ws' := [(h0, .inr (5, fs)), (qz, aI G 86 (upd w k 0))]) rfl dX5_clearLock_14 rfl ?_
        refine u_iinc (k := 0) (v := (nI (k + 1))) (lv' := [(2, .int (nI (k + 1))), (0, .ref h0), (1, .int kd)]) h dX5_clearLock_15 rfl (nI_add k 1) (by rw [hL]; decide) rfl rfl ?_
        refine u_goto (tgt := 2) h dX5_clearLock_18 (by decide) ?_
        exact ihA _ (by omega) (k + 1) (upd w k 0) rfl (by omega) (by rw [hw]; exact zrM_succ _ _)
  exact LA _ 0 z rfl (Nat.zero_le _) (by funext j; simp [zrM])

theorem flX5_sum_7 : FL wsX5_sum RX5 7 5 0 := ⟨RX5, TX5, 18, rfl, by decide, by decide +kernel, by decide +kernel⟩
set_option maxHeartbeats 8000000 in
set_option maxRecDepth 100000 in
theorem kX5_sum (G : Gx) (h0 qz : Nat) (fs : List Value) (hfz : fs[0]? = some (.ref qz)) (z : Zf) (c : Nat) (hc : c ≤ 80) : MC G yX5_sum wsX5_sum ({ frames := 0, cells := 0, slots := 0, locals := 0 } : Room) [.ref h0, .int (nI c)] [(h0, .inr (5, fs)), (qz, aI G 86 z)] (fun v' u' => v' = some (.int (sumZ z c 6)) ∧ u' = [(h0, .inr (5, fs)), (qz, aI G 86 z)]) 0 0 := by
  refine mc_of (cc := cX5_sum) (maxL := 4) (ret := (some .int)) (by decide) rfl (Nat.le_of_ble_eq_true rfl) (fun X h hR hL hRT => ?_)
  refine u_eql (lv' := [(0, .ref h0), (1, .int (nI c))]) rfl ?_
  refine u_iconst (v := 0) h dX5_sum_0 (by decide) rfl ?_
  refine u_istore_n (lv' := [(2, .int 0), (0, .ref h0), (1, .int (nI c))]) h dX5_sum_1 rfl (by rw [hL]; decide) rfl rfl ?_
  refine u_iconst (v := 0) h dX5_sum_2 (by decide) rfl ?_
  refine u_istore_n (lv' := [(3, .int 0), (2, .int 0), (0, .ref h0), (1, .int (nI c))]) h dX5_sum_3 rfl (by rw [hL]; decide) rfl rfl ?_
  have LL : ∀ (k9 : Nat) (v : Nat) (n : Int32), 6 - v = k9 → (v ≤ 6) → (n = sumZ z c v) → U G X 0 0 [(h0, .inr (5, fs)), (qz, aI G 86 z)] 4 [(3, .int (nI v)), (2, .int n), (0, .ref h0), (1, .int (nI c))] [] := by
    intro k9
    induction k9 using Nat.strongRecOn with
    | _ k9 ihL =>
      intro v n hk9 hv hn
      subst hk9
      refine u_iload_n h dX5_sum_4 rfl 0 rfl rfl ?_
      refine u_bipush (v := 6) h dX5_sum_5 (by decide) rfl ?_
      refine u_icmp_ge_N (a := v) (b := 6) (tgt := 27) h dX5_sum_7 (by decide) (by omega) (by omega) rfl (fun c1 => ?_) (fun c1 => ?_)
      · refine u_iload_n h dX5_sum_27 rfl 1 rfl rfl ?_
        exact u_iret h hRT dX5_sum_28 (by omega) (by omega) (by exact ⟨by rw [hn, show v = 6 by omega], rfl⟩)
      · refine u_iload_n h dX5_sum_10 rfl 1 rfl rfl ?_
        refine u_aload_n h dX5_sum_11 rfl 2 rfl rfl ?_
        refine u_get h flX5_sum_7 0 (v := .ref qz) rfl hfz dX5_sum_12 rfl ?_
        refine u_iload_n h dX5_sum_15 rfl 3 rfl rfl ?_
        refine u_iload_n h dX5_sum_16 rfl 0 rfl rfl ?_
        refine u_iadd (v := (nI (c + v))) h dX5_sum_17 (nI_add c v) rfl ?_
        refine u_iald h (n := (c + v)) 1 rfl (by omega) (by omega) dX5_sum_18 rfl ?_
        refine u_iadd (v := (n + (z (c + v)))) h dX5_sum_19 rfl rfl ?_
        refine u_istore_n (lv' := [(2, .int (n + (z (c + v)))), (3, .int (nI v)), (0, .ref h0), (1, .int (nI c))]) h dX5_sum_20 rfl (by rw [hL]; decide) rfl rfl ?_
        refine u_iinc (k := 1) (v := (nI (v + 1))) (lv' := [(3, .int (nI (v + 1))), (2, .int (n + (z (c + v)))), (0, .ref h0), (1, .int (nI c))]) h dX5_sum_21 rfl (nI_add v 1) (by rw [hL]; decide) rfl rfl ?_
        refine u_goto (tgt := 4) h dX5_sum_24 (by decide) ?_
        exact ihL _ (by omega) (v + 1) (n + (z (c + v))) rfl (by omega) (by rw [hn]; rfl)
  exact LL _ 0 0 rfl (Nat.zero_le _) rfl

theorem flX5_atStage_7 : FL wsX5_atStage RX5 7 5 0 := ⟨RX5, TX5, 18, rfl, by decide, by decide +kernel, by decide +kernel⟩
set_option maxHeartbeats 8000000 in
set_option maxRecDepth 100000 in
theorem kX5_atStage (G : Gx) (h0 qz : Nat) (fs : List Value) (hfz : fs[0]? = some (.ref qz)) (z : Zf) (x : Int32) : MC G yX5_atStage wsX5_atStage ({ frames := 0, cells := 0, slots := 0, locals := 0 } : Room) [.ref h0, .int x] [(h0, .inr (5, fs)), (qz, aI G 86 z)] (fun v' u' => v' = some (.int (atM z x 6)) ∧ u' = [(h0, .inr (5, fs)), (qz, aI G 86 z)]) 0 0 := by
  refine mc_of (cc := cX5_atStage) (maxL := 4) (ret := (some .int)) (by decide) rfl (Nat.le_of_ble_eq_true rfl) (fun X h hR hL hRT => ?_)
  refine u_eql (lv' := [(0, .ref h0), (1, .int x)]) rfl ?_
  refine u_iconst (v := 0) h dX5_atStage_0 (by decide) rfl ?_
  refine u_istore_n (lv' := [(2, .int 0), (0, .ref h0), (1, .int x)]) h dX5_atStage_1 rfl (by rw [hL]; decide) rfl rfl ?_
  refine u_iconst (v := 0) h dX5_atStage_2 (by decide) rfl ?_
  refine u_istore_n (lv' := [(3, .int 0), (2, .int 0), (0, .ref h0), (1, .int x)]) h dX5_atStage_3 rfl (by rw [hL]; decide) rfl rfl ?_
  have LL : ∀ (k9 : Nat) (v : Nat) (n : Int32), 6 - v = k9 → (v ≤ 6) → (n = atM z x v) → U G X 0 0 [(h0, .inr (5, fs)), (qz, aI G 86 z)] 4 [(3, .int (nI v)), (2, .int n), (0, .ref h0), (1, .int x)] [] := by
    intro k9
    induction k9 using Nat.strongRecOn with
    | _ k9 ihL =>
      intro v n hk9 hv hn
      subst hk9
      refine u_iload_n h dX5_atStage_4 rfl 0 rfl rfl ?_
      refine u_bipush (v := 6) h dX5_atStage_5 (by decide) rfl ?_
      refine u_icmp_ge_N (a := v) (b := 6) (tgt := 36) h dX5_atStage_7 (by decide) (by omega) (by omega) rfl (fun c1 => ?_) (fun c1 => ?_)
      · refine u_iload_n h dX5_atStage_36 rfl 1 rfl rfl ?_
        exact u_iret h hRT dX5_atStage_37 (by omega) (by omega) (by exact ⟨by rw [hn, show v = 6 by omega], rfl⟩)
      · refine u_iload_n h dX5_atStage_10 rfl 1 rfl rfl ?_
        refine u_aload_n h dX5_atStage_11 rfl 2 rfl rfl ?_
        refine u_get h flX5_atStage_7 0 (v := .ref qz) rfl hfz dX5_atStage_12 rfl ?_
        refine u_iconst (v := 0) h dX5_atStage_15 (by decide) rfl ?_
        refine u_iload_n h dX5_atStage_16 rfl 0 rfl rfl ?_
        refine u_iadd (v := (nI v)) h dX5_atStage_17 (by have h9 := nI_add 0 v; rw [Nat.zero_add] at h9; exact h9) rfl ?_
        refine u_iald h (n := v) 1 rfl (by omega) (by omega) dX5_atStage_18 rfl ?_
        refine u_iload_n h dX5_atStage_19 rfl 3 rfl rfl ?_
        refine u_icmp_ne (tgt := 27) h dX5_atStage_20 (by decide) rfl (fun c2 => ?_) (fun c2 => ?_)
        · refine u_iconst (v := 0) h dX5_atStage_27 (by decide) rfl ?_
          refine u_iadd (v := (n + 0)) h dX5_atStage_28 rfl rfl ?_
          refine u_istore_n (lv' := [(2, .int (n + 0)), (3, .int (nI v)), (0, .ref h0), (1, .int x)]) h dX5_atStage_29 rfl (by rw [hL]; decide) rfl rfl ?_
          refine u_iinc (k := 1) (v := (nI (v + 1))) (lv' := [(3, .int (nI (v + 1))), (2, .int (n + 0)), (0, .ref h0), (1, .int x)]) h dX5_atStage_30 rfl (nI_add v 1) (by rw [hL]; decide) rfl rfl ?_
          refine u_goto (tgt := 4) h dX5_atStage_33 (by decide) ?_
          exact ihL _ (by omega) (v + 1) (n + 0) rfl (by omega) (by rw [hn]; simp [atM, c1, c2])
        · refine u_iconst (v := 1) h dX5_atStage_23 (by decide) rfl ?_
          refine u_goto (tgt := 28) h dX5_atStage_24 (by decide) ?_
          refine u_iadd (v := (n + 1)) h dX5_atStage_28 rfl rfl ?_
          refine u_istore_n (lv' := [(2, .int (n + 1)), (3, .int (nI v)), (0, .ref h0), (1, .int x)]) h dX5_atStage_29 rfl (by rw [hL]; decide) rfl rfl ?_
          refine u_iinc (k := 1) (v := (nI (v + 1))) (lv' := [(3, .int (nI (v + 1))), (2, .int (n + 1)), (0, .ref h0), (1, .int x)]) h dX5_atStage_30 rfl (nI_add v 1) (by rw [hL]; decide) rfl rfl ?_
          refine u_goto (tgt := 4) h dX5_atStage_33 (by decide) ?_
          exact ihL _ (by omega) (v + 1) (n + 1) rfl (by omega) (by rw [hn]; simp [atM, c1, c2])
  exact LL _ 0 0 rfl (Nat.zero_le _) rfl

theorem flX5_inside_7 : FL wsX5_inside RX5 7 5 0 := ⟨RX5, TX5, 18, rfl, by decide, by decide +kernel, by decide +kernel⟩
set_option maxHeartbeats 8000000 in
set_option maxRecDepth 100000 in
theorem kX5_inside (G : Gx) (h0 qz : Nat) (fs : List Value) (hfz : fs[0]? = some (.ref qz)) (z : Zf) : MC G yX5_inside wsX5_inside ({ frames := 0, cells := 0, slots := 0, locals := 0 } : Room) [.ref h0] [(h0, .inr (5, fs)), (qz, aI G 86 z)] (fun v' u' => v' = some (.int (insM z 6)) ∧ u' = [(h0, .inr (5, fs)), (qz, aI G 86 z)]) 0 0 := by
  refine mc_of (cc := cX5_inside) (maxL := 3) (ret := (some .int)) (by decide) rfl (Nat.le_of_ble_eq_true rfl) (fun X h hR hL hRT => ?_)
  refine u_eql (lv' := [(0, .ref h0)]) rfl ?_
  refine u_bipush (v := (-5)) h dX5_inside_0 (by decide) rfl ?_
  refine u_istore_n (lv' := [(1, .int (-5)), (0, .ref h0)]) h dX5_inside_2 rfl (by rw [hL]; decide) rfl rfl ?_
  refine u_iconst (v := 5) h dX5_inside_3 (by decide) rfl ?_
  refine u_istore_n (lv' := [(2, .int 5), (1, .int (-5)), (0, .ref h0)]) h dX5_inside_4 rfl (by rw [hL]; decide) rfl rfl ?_
  refine u_iload_n h dX5_inside_5 rfl 0 rfl rfl ?_
  refine u_if_lt_N (a := 5) (tgt := 33) h dX5_inside_6 (by decide) (by omega) rfl (fun c1 => ?_) (fun c1 => ?_)
  · exact absurd c1 (by decide)
  · refine u_aload_n h dX5_inside_9 rfl 2 rfl rfl ?_
    refine u_get h flX5_inside_7 0 (v := .ref qz) rfl hfz dX5_inside_10 rfl ?_
    refine u_iconst (v := 0) h dX5_inside_13 (by decide) rfl ?_
    refine u_iload_n h dX5_inside_14 rfl 0 rfl rfl ?_
    refine u_iadd (v := 5) h dX5_inside_15 (by decide) rfl ?_
    refine u_iald h (n := 5) 1 rfl (by omega) (by omega) dX5_inside_16 rfl ?_
    refine u_iconst (v := 4) h dX5_inside_17 (by decide) rfl ?_
    have J2 : ∀ x3 : Int32, x3 = (if z 5 = 4 then 5 else (-5)) → U G X 0 0 [(h0, .inr (5, fs)), (qz, aI G 86 z)] 26 [(2, .int 5), (1, .int (-5)), (0, .ref h0)] [.int x3] := by
      intro x3 e9
      subst e9
      refine u_istore_n (lv' := [(1, .int (if z 5 = 4 then 5 else (-5))), (2, .int 5), (0, .ref h0)]) h dX5_inside_26 rfl (by rw [hL]; decide) rfl rfl ?_
      refine u_iinc (k := 1) (v := 4) (lv' := [(2, .int 4), (1, .int (if z 5 = 4 then 5 else (-5))), (0, .ref h0)]) h dX5_inside_27 rfl (by decide) (by rw [hL]; decide) rfl rfl ?_
      refine u_goto (tgt := 5) h dX5_inside_30 (by decide) ?_
      refine u_iload_n h dX5_inside_5 rfl 0 rfl rfl ?_
      refine u_if_lt_N (a := 4) (tgt := 33) h dX5_inside_6 (by decide) (by omega) rfl (fun c4 => ?_) (fun c4 => ?_)
      · exact absurd c4 (by decide)
      · refine u_aload_n h dX5_inside_9 rfl 2 rfl rfl ?_
        refine u_get h flX5_inside_7 0 (v := .ref qz) rfl hfz dX5_inside_10 rfl ?_
        refine u_iconst (v := 0) h dX5_inside_13 (by decide) rfl ?_
        refine u_iload_n h dX5_inside_14 rfl 0 rfl rfl ?_
        refine u_iadd (v := 4) h dX5_inside_15 (by decide) rfl ?_
        refine u_iald h (n := 4) 1 rfl (by omega) (by omega) dX5_inside_16 rfl ?_
        refine u_iconst (v := 4) h dX5_inside_17 (by decide) rfl ?_
        have J5 : ∀ x6 : Int32, x6 = (if z 4 = 4 then 4 else (if z 5 = 4 then 5 else (-5))) → U G X 0 0 [(h0, .inr (5, fs)), (qz, aI G 86 z)] 26 [(2, .int 4), (1, .int (if z 5 = 4 then 5 else (-5))), (0, .ref h0)] [.int x6] := by
          intro x6 e9
          subst e9
          refine u_istore_n (lv' := [(1, .int (if z 4 = 4 then 4 else (if z 5 = 4 then 5 else (-5)))), (2, .int 4), (0, .ref h0)]) h dX5_inside_26 rfl (by rw [hL]; decide) rfl rfl ?_
          refine u_iinc (k := 1) (v := 3) (lv' := [(2, .int 3), (1, .int (if z 4 = 4 then 4 else (if z 5 = 4 then 5 else (-5)))), (0, .ref h0)]) h dX5_inside_27 rfl (by decide) (by rw [hL]; decide) rfl rfl ?_
          refine u_goto (tgt := 5) h dX5_inside_30 (by decide) ?_
          refine u_iload_n h dX5_inside_5 rfl 0 rfl rfl ?_
          refine u_if_lt_N (a := 3) (tgt := 33) h dX5_inside_6 (by decide) (by omega) rfl (fun c7 => ?_) (fun c7 => ?_)
          · exact absurd c7 (by decide)
          · refine u_aload_n h dX5_inside_9 rfl 2 rfl rfl ?_
            refine u_get h flX5_inside_7 0 (v := .ref qz) rfl hfz dX5_inside_10 rfl ?_
            refine u_iconst (v := 0) h dX5_inside_13 (by decide) rfl ?_
            refine u_iload_n h dX5_inside_14 rfl 0 rfl rfl ?_
            refine u_iadd (v := 3) h dX5_inside_15 (by decide) rfl ?_
            refine u_iald h (n := 3) 1 rfl (by omega) (by omega) dX5_inside_16 rfl ?_
            refine u_iconst (v := 4) h dX5_inside_17 (by decide) rfl ?_
            have J8 : ∀ x9 : Int32, x9 = (if z 3 = 4 then 3 else (if z 4 = 4 then 4 else (if z 5 = 4 then 5 else (-5)))) → U G X 0 0 [(h0, .inr (5, fs)), (qz, aI G 86 z)] 26 [(2, .int 3), (1, .int (if z 4 = 4 then 4 else (if z 5 = 4 then 5 else (-5)))), (0, .ref h0)] [.int x9] := by
              intro x9 e9
              subst e9
              refine u_istore_n (lv' := [(1, .int (if z 3 = 4 then 3 else (if z 4 = 4 then 4 else (if z 5 = 4 then 5 else (-5))))), (2, .int 3), (0, .ref h0)]) h dX5_inside_26 rfl (by rw [hL]; decide) rfl rfl ?_
              refine u_iinc (k := 1) (v := 2) (lv' := [(2, .int 2), (1, .int (if z 3 = 4 then 3 else (if z 4 = 4 then 4 else (if z 5 = 4 then 5 else (-5))))), (0, .ref h0)]) h dX5_inside_27 rfl (by decide) (by rw [hL]; decide) rfl rfl ?_
              refine u_goto (tgt := 5) h dX5_inside_30 (by decide) ?_
              refine u_iload_n h dX5_inside_5 rfl 0 rfl rfl ?_
              refine u_if_lt_N (a := 2) (tgt := 33) h dX5_inside_6 (by decide) (by omega) rfl (fun c10 => ?_) (fun c10 => ?_)
              · exact absurd c10 (by decide)
              · refine u_aload_n h dX5_inside_9 rfl 2 rfl rfl ?_
                refine u_get h flX5_inside_7 0 (v := .ref qz) rfl hfz dX5_inside_10 rfl ?_
                refine u_iconst (v := 0) h dX5_inside_13 (by decide) rfl ?_
                refine u_iload_n h dX5_inside_14 rfl 0 rfl rfl ?_
                refine u_iadd (v := 2) h dX5_inside_15 (by decide) rfl ?_
                refine u_iald h (n := 2) 1 rfl (by omega) (by omega) dX5_inside_16 rfl ?_
                refine u_iconst (v := 4) h dX5_inside_17 (by decide) rfl ?_
                have J11 : ∀ x12 : Int32, x12 = (if z 2 = 4 then 2 else (if z 3 = 4 then 3 else (if z 4 = 4 then 4 else (if z 5 = 4 then 5 else (-5))))) → U G X 0 0 [(h0, .inr (5, fs)), (qz, aI G 86 z)] 26 [(2, .int 2), (1, .int (if z 3 = 4 then 3 else (if z 4 = 4 then 4 else (if z 5 = 4 then 5 else (-5))))), (0, .ref h0)] [.int x12] := by
                  intro x12 e9
                  subst e9
                  refine u_istore_n (lv' := [(1, .int (if z 2 = 4 then 2 else (if z 3 = 4 then 3 else (if z 4 = 4 then 4 else (if z 5 = 4 then 5 else (-5)))))), (2, .int 2), (0, .ref h0)]) h dX5_inside_26 rfl (by rw [hL]; decide) rfl rfl ?_
                  refine u_iinc (k := 1) (v := 1) (lv' := [(2, .int 1), (1, .int (if z 2 = 4 then 2 else (if z 3 = 4 then 3 else (if z 4 = 4 then 4 else (if z 5 = 4 then 5 else (-5)))))), (0, .ref h0)]) h dX5_inside_27 rfl (by decide) (by rw [hL]; decide) rfl rfl ?_
                  refine u_goto (tgt := 5) h dX5_inside_30 (by decide) ?_
                  refine u_iload_n h dX5_inside_5 rfl 0 rfl rfl ?_
                  refine u_if_lt_N (a := 1) (tgt := 33) h dX5_inside_6 (by decide) (by omega) rfl (fun c13 => ?_) (fun c13 => ?_)
                  · exact absurd c13 (by decide)
                  · refine u_aload_n h dX5_inside_9 rfl 2 rfl rfl ?_
                    refine u_get h flX5_inside_7 0 (v := .ref qz) rfl hfz dX5_inside_10 rfl ?_
                    refine u_iconst (v := 0) h dX5_inside_13 (by decide) rfl ?_
                    refine u_iload_n h dX5_inside_14 rfl 0 rfl rfl ?_
                    refine u_iadd (v := 1) h dX5_inside_15 (by decide) rfl ?_
                    refine u_iald h (n := 1) 1 rfl (by omega) (by omega) dX5_inside_16 rfl ?_
                    refine u_iconst (v := 4) h dX5_inside_17 (by decide) rfl ?_
                    have J14 : ∀ x15 : Int32, x15 = (if z 1 = 4 then 1 else (if z 2 = 4 then 2 else (if z 3 = 4 then 3 else (if z 4 = 4 then 4 else (if z 5 = 4 then 5 else (-5)))))) → U G X 0 0 [(h0, .inr (5, fs)), (qz, aI G 86 z)] 26 [(2, .int 1), (1, .int (if z 2 = 4 then 2 else (if z 3 = 4 then 3 else (if z 4 = 4 then 4 else (if z 5 = 4 then 5 else (-5)))))), (0, .ref h0)] [.int x15] := by
                      intro x15 e9
                      subst e9
                      refine u_istore_n (lv' := [(1, .int (if z 1 = 4 then 1 else (if z 2 = 4 then 2 else (if z 3 = 4 then 3 else (if z 4 = 4 then 4 else (if z 5 = 4 then 5 else (-5))))))), (2, .int 1), (0, .ref h0)]) h dX5_inside_26 rfl (by rw [hL]; decide) rfl rfl ?_
                      refine u_iinc (k := 1) (v := 0) (lv' := [(2, .int 0), (1, .int (if z 1 = 4 then 1 else (if z 2 = 4 then 2 else (if z 3 = 4 then 3 else (if z 4 = 4 then 4 else (if z 5 = 4 then 5 else (-5))))))), (0, .ref h0)]) h dX5_inside_27 rfl (by decide) (by rw [hL]; decide) rfl rfl ?_
                      refine u_goto (tgt := 5) h dX5_inside_30 (by decide) ?_
                      refine u_iload_n h dX5_inside_5 rfl 0 rfl rfl ?_
                      refine u_if_lt_N (a := 0) (tgt := 33) h dX5_inside_6 (by decide) (by omega) rfl (fun c16 => ?_) (fun c16 => ?_)
                      · exact absurd c16 (by decide)
                      · refine u_aload_n h dX5_inside_9 rfl 2 rfl rfl ?_
                        refine u_get h flX5_inside_7 0 (v := .ref qz) rfl hfz dX5_inside_10 rfl ?_
                        refine u_iconst (v := 0) h dX5_inside_13 (by decide) rfl ?_
                        refine u_iload_n h dX5_inside_14 rfl 0 rfl rfl ?_
                        refine u_iadd (v := 0) h dX5_inside_15 (by decide) rfl ?_
                        refine u_iald h (n := 0) 1 rfl (by omega) (by omega) dX5_inside_16 rfl ?_
                        refine u_iconst (v := 4) h dX5_inside_17 (by decide) rfl ?_
                        have J17 : ∀ x18 : Int32, x18 = (if z 0 = 4 then 0 else (if z 1 = 4 then 1 else (if z 2 = 4 then 2 else (if z 3 = 4 then 3 else (if z 4 = 4 then 4 else (if z 5 = 4 then 5 else (-5))))))) → U G X 0 0 [(h0, .inr (5, fs)), (qz, aI G 86 z)] 26 [(2, .int 0), (1, .int (if z 1 = 4 then 1 else (if z 2 = 4 then 2 else (if z 3 = 4 then 3 else (if z 4 = 4 then 4 else (if z 5 = 4 then 5 else (-5))))))), (0, .ref h0)] [.int x18] := by
                          intro x18 e9
                          subst e9
                          refine u_istore_n (lv' := [(1, .int (if z 0 = 4 then 0 else (if z 1 = 4 then 1 else (if z 2 = 4 then 2 else (if z 3 = 4 then 3 else (if z 4 = 4 then 4 else (if z 5 = 4 then 5 else (-5)))))))), (2, .int 0), (0, .ref h0)]) h dX5_inside_26 rfl (by rw [hL]; decide) rfl rfl ?_
                          refine u_iinc (k := 1) (v := (-1)) (lv' := [(2, .int (-1)), (1, .int (if z 0 = 4 then 0 else (if z 1 = 4 then 1 else (if z 2 = 4 then 2 else (if z 3 = 4 then 3 else (if z 4 = 4 then 4 else (if z 5 = 4 then 5 else (-5)))))))), (0, .ref h0)]) h dX5_inside_27 rfl (by decide) (by rw [hL]; decide) rfl rfl ?_
                          refine u_goto (tgt := 5) h dX5_inside_30 (by decide) ?_
                          refine u_iload_n h dX5_inside_5 rfl 0 rfl rfl ?_
                          refine u_if_lt (tgt := 33) h dX5_inside_6 (by decide) rfl (fun c19 => ?_) (fun c19 => ?_)
                          · refine u_iload_n h dX5_inside_33 rfl 1 rfl rfl ?_
                            exact u_iret h hRT dX5_inside_34 (by omega) (by omega) (by exact ⟨rfl, rfl⟩)
                          · exact absurd c19 (by decide)
                        refine u_icmp_ne (tgt := 25) h dX5_inside_18 (by decide) rfl (fun c20 => ?_) (fun c20 => ?_)
                        · refine u_iload_n h dX5_inside_25 rfl 1 rfl rfl ?_
                          exact J17 _ (by first | (simp [c16, c20]; done) | (exfalso; first | exact absurd (c16.symm.trans c20) (by decide) | exact absurd (c20.symm.trans c16) (by decide)))
                        · refine u_iload_n h dX5_inside_21 rfl 0 rfl rfl ?_
                          refine u_goto (tgt := 26) h dX5_inside_22 (by decide) ?_
                          exact J17 _ (by first | (simp [c16, c20]; done) | (exfalso; first | exact absurd (c16.symm.trans c20) (by decide) | exact absurd (c20.symm.trans c16) (by decide)))
                    refine u_icmp_ne (tgt := 25) h dX5_inside_18 (by decide) rfl (fun c21 => ?_) (fun c21 => ?_)
                    · refine u_iload_n h dX5_inside_25 rfl 1 rfl rfl ?_
                      exact J14 _ (by first | (simp [c13, c21]; done) | (exfalso; first | exact absurd (c13.symm.trans c21) (by decide) | exact absurd (c21.symm.trans c13) (by decide)))
                    · refine u_iload_n h dX5_inside_21 rfl 0 rfl rfl ?_
                      refine u_goto (tgt := 26) h dX5_inside_22 (by decide) ?_
                      exact J14 _ (by first | (simp [c13, c21]; done) | (exfalso; first | exact absurd (c13.symm.trans c21) (by decide) | exact absurd (c21.symm.trans c13) (by decide)))
                refine u_icmp_ne (tgt := 25) h dX5_inside_18 (by decide) rfl (fun c22 => ?_) (fun c22 => ?_)
                · refine u_iload_n h dX5_inside_25 rfl 1 rfl rfl ?_
                  exact J11 _ (by first | (simp [c10, c22]; done) | (exfalso; first | exact absurd (c10.symm.trans c22) (by decide) | exact absurd (c22.symm.trans c10) (by decide)))
                · refine u_iload_n h dX5_inside_21 rfl 0 rfl rfl ?_
                  refine u_goto (tgt := 26) h dX5_inside_22 (by decide) ?_
                  exact J11 _ (by first | (simp [c10, c22]; done) | (exfalso; first | exact absurd (c10.symm.trans c22) (by decide) | exact absurd (c22.symm.trans c10) (by decide)))
            refine u_icmp_ne (tgt := 25) h dX5_inside_18 (by decide) rfl (fun c23 => ?_) (fun c23 => ?_)
            · refine u_iload_n h dX5_inside_25 rfl 1 rfl rfl ?_
              exact J8 _ (by first | (simp [c7, c23]; done) | (exfalso; first | exact absurd (c7.symm.trans c23) (by decide) | exact absurd (c23.symm.trans c7) (by decide)))
            · refine u_iload_n h dX5_inside_21 rfl 0 rfl rfl ?_
              refine u_goto (tgt := 26) h dX5_inside_22 (by decide) ?_
              exact J8 _ (by first | (simp [c7, c23]; done) | (exfalso; first | exact absurd (c7.symm.trans c23) (by decide) | exact absurd (c23.symm.trans c7) (by decide)))
        refine u_icmp_ne (tgt := 25) h dX5_inside_18 (by decide) rfl (fun c24 => ?_) (fun c24 => ?_)
        · refine u_iload_n h dX5_inside_25 rfl 1 rfl rfl ?_
          exact J5 _ (by first | (simp [c4, c24]; done) | (exfalso; first | exact absurd (c4.symm.trans c24) (by decide) | exact absurd (c24.symm.trans c4) (by decide)))
        · refine u_iload_n h dX5_inside_21 rfl 0 rfl rfl ?_
          refine u_goto (tgt := 26) h dX5_inside_22 (by decide) ?_
          exact J5 _ (by first | (simp [c4, c24]; done) | (exfalso; first | exact absurd (c4.symm.trans c24) (by decide) | exact absurd (c24.symm.trans c4) (by decide)))
    refine u_icmp_ne (tgt := 25) h dX5_inside_18 (by decide) rfl (fun c25 => ?_) (fun c25 => ?_)
    · refine u_iload_n h dX5_inside_25 rfl 1 rfl rfl ?_
      exact J2 _ (by first | (simp [c1, c25]; done) | (exfalso; first | exact absurd (c1.symm.trans c25) (by decide) | exact absurd (c25.symm.trans c1) (by decide)))
    · refine u_iload_n h dX5_inside_21 rfl 0 rfl rfl ?_
      refine u_goto (tgt := 26) h dX5_inside_22 (by decide) ?_
      exact J2 _ (by first | (simp [c1, c25]; done) | (exfalso; first | exact absurd (c1.symm.trans c25) (by decide) | exact absurd (c25.symm.trans c1) (by decide)))

set_option maxHeartbeats 8000000 in
set_option maxRecDepth 100000 in
theorem kX5_bits (G : Gx) (x : Int32) : MC G yX5_bits wsX5_bits ({ frames := 0, cells := 0, slots := 0, locals := 0 } : Room) [.int x] [] (fun v' u' => v' = some (.int (bitsM x 6)) ∧ u' = []) 0 0 := by
  refine mc_of (cc := cX5_bits) (maxL := 3) (ret := (some .int)) (by decide) rfl (Nat.le_of_ble_eq_true rfl) (fun X h hR hL hRT => ?_)
  refine u_eql (lv' := [(0, .int x)]) rfl ?_
  refine u_iconst (v := 0) h dX5_bits_0 (by decide) rfl ?_
  refine u_istore_n (lv' := [(1, .int 0), (0, .int x)]) h dX5_bits_1 rfl (by rw [hL]; decide) rfl rfl ?_
  refine u_iconst (v := 0) h dX5_bits_2 (by decide) rfl ?_
  refine u_istore_n (lv' := [(2, .int 0), (1, .int 0), (0, .int x)]) h dX5_bits_3 rfl (by rw [hL]; decide) rfl rfl ?_
  have LL : ∀ (k9 : Nat) (v : Nat) (n : Int32), 6 - v = k9 → (v ≤ 6) → (n = bitsM x v) → U G X 0 0 [] 4 [(2, .int (nI v)), (1, .int n), (0, .int x)] [] := by
    intro k9
    induction k9 using Nat.strongRecOn with
    | _ k9 ihL =>
      intro v n hk9 hv hn
      subst hk9
      refine u_iload_n h dX5_bits_4 rfl 0 rfl rfl ?_
      refine u_bipush (v := 6) h dX5_bits_5 (by decide) rfl ?_
      refine u_icmp_ge_N (a := v) (b := 6) (tgt := 24) h dX5_bits_7 (by decide) (by omega) (by omega) rfl (fun c1 => ?_) (fun c1 => ?_)
      · refine u_iload_n h dX5_bits_24 rfl 1 rfl rfl ?_
        exact u_iret h hRT dX5_bits_25 (by omega) (by omega) (by exact ⟨by rw [hn, show v = 6 by omega], rfl⟩)
      · refine u_iload_n h dX5_bits_10 rfl 1 rfl rfl ?_
        refine u_iload_n h dX5_bits_11 rfl 2 rfl rfl ?_
        refine u_iload_n h dX5_bits_12 rfl 0 rfl rfl ?_
        refine u_ishr (v := (x >>> ((nI v) &&& 31))) h dX5_bits_13 rfl rfl ?_
        refine u_iconst (v := 1) h dX5_bits_14 (by decide) rfl ?_
        refine u_iand (v := ((x >>> ((nI v) &&& 31)) &&& 1)) h dX5_bits_15 rfl rfl ?_
        refine u_iadd (v := (n + ((x >>> ((nI v) &&& 31)) &&& 1))) h dX5_bits_16 rfl rfl ?_
        refine u_istore_n (lv' := [(1, .int (n + ((x >>> ((nI v) &&& 31)) &&& 1))), (2, .int (nI v)), (0, .int x)]) h dX5_bits_17 rfl (by rw [hL]; decide) rfl rfl ?_
        refine u_iinc (k := 1) (v := (nI (v + 1))) (lv' := [(2, .int (nI (v + 1))), (1, .int (n + ((x >>> ((nI v) &&& 31)) &&& 1))), (0, .int x)]) h dX5_bits_18 rfl (nI_add v 1) (by rw [hL]; decide) rfl rfl ?_
        refine u_goto (tgt := 4) h dX5_bits_21 (by decide) ?_
        exact ihL _ (by omega) (v + 1) (n + ((x >>> ((nI v) &&& 31)) &&& 1)) rfl (by omega) (by rw [hn]; rfl)
  exact LL _ 0 0 rfl (Nat.zero_le _) rfl

set_option maxHeartbeats 8000000 in
set_option maxRecDepth 100000 in
theorem kX5_pick (G : Gx) (x r : Int32) : MC G yX5_pick wsX5_pick ({ frames := 0, cells := 0, slots := 0, locals := 0 } : Room) [.int x, .int r] [] (fun v' u' => v' = some (.int (pickM x r 6)) ∧ u' = []) 0 0 := by
  refine mc_of (cc := cX5_pick) (maxL := 5) (ret := (some .int)) (by decide) rfl (Nat.le_of_ble_eq_true rfl) (fun X h hR hL hRT => ?_)
  refine u_eql (lv' := [(0, .int x), (1, .int r)]) rfl ?_
  refine u_bipush (v := (-5)) h dX5_pick_0 (by decide) rfl ?_
  refine u_istore_n (lv' := [(2, .int (-5)), (0, .int x), (1, .int r)]) h dX5_pick_2 rfl (by rw [hL]; decide) rfl rfl ?_
  refine u_iconst (v := 0) h dX5_pick_3 (by decide) rfl ?_
  refine u_istore_n (lv' := [(3, .int 0), (2, .int (-5)), (0, .int x), (1, .int r)]) h dX5_pick_4 rfl (by rw [hL]; decide) rfl rfl ?_
  refine u_iconst (v := 0) h dX5_pick_5 (by decide) rfl ?_
  refine u_istore (lv' := [(4, .int 0), (3, .int 0), (2, .int (-5)), (0, .int x), (1, .int r)]) h dX5_pick_6 (by rw [hL]; decide) rfl rfl ?_
  have LL : ∀ (k9 : Nat) (v : Nat) (n : Int32) (f : Int32), 6 - v = k9 → (v ≤ 6) → (n = bitsM x v) → (f = pickM x r v) → U G X 0 0 [] 8 [(4, .int (nI v)), (3, .int n), (2, .int f), (0, .int x), (1, .int r)] [] := by
    intro k9
    induction k9 using Nat.strongRecOn with
    | _ k9 ihL =>
      intro v n f hk9 hv hn hf
      subst hk9
      refine u_iload h dX5_pick_8 0 rfl rfl ?_
      refine u_bipush (v := 6) h dX5_pick_10 (by decide) rfl ?_
      refine u_icmp_ge_N (a := v) (b := 6) (tgt := 52) h dX5_pick_12 (by decide) (by omega) (by omega) rfl (fun c1 => ?_) (fun c1 => ?_)
      · refine u_iload_n h dX5_pick_52 rfl 2 rfl rfl ?_
        exact u_iret h hRT dX5_pick_53 (by omega) (by omega) (by exact ⟨by rw [hf, show v = 6 by omega], rfl⟩)
      · refine u_iload_n h dX5_pick_15 rfl 3 rfl rfl ?_
        refine u_iload h dX5_pick_16 0 rfl rfl ?_
        refine u_ishr (v := (x >>> ((nI v) &&& 31))) h dX5_pick_18 rfl rfl ?_
        refine u_iconst (v := 1) h dX5_pick_19 (by decide) rfl ?_
        refine u_iand (v := ((x >>> ((nI v) &&& 31)) &&& 1)) h dX5_pick_20 rfl rfl ?_
        refine u_iconst (v := 1) h dX5_pick_21 (by decide) rfl ?_
        refine u_icmp_ne (tgt := 35) h dX5_pick_22 (by decide) rfl (fun c2 => ?_) (fun c2 => ?_)
        · refine u_iload_n h dX5_pick_35 rfl 2 rfl rfl ?_
          refine u_istore_n (lv' := [(2, .int f), (4, .int (nI v)), (3, .int n), (0, .int x), (1, .int r)]) h dX5_pick_36 rfl (by rw [hL]; decide) rfl rfl ?_
          refine u_iload_n h dX5_pick_37 rfl 2 rfl rfl ?_
          refine u_iload_n h dX5_pick_38 rfl 3 rfl rfl ?_
          refine u_iload h dX5_pick_39 1 rfl rfl ?_
          refine u_ishr (v := (x >>> ((nI v) &&& 31))) h dX5_pick_41 rfl rfl ?_
          refine u_iconst (v := 1) h dX5_pick_42 (by decide) rfl ?_
          refine u_iand (v := ((x >>> ((nI v) &&& 31)) &&& 1)) h dX5_pick_43 rfl rfl ?_
          refine u_iadd (v := (n + ((x >>> ((nI v) &&& 31)) &&& 1))) h dX5_pick_44 rfl rfl ?_
          refine u_istore_n (lv' := [(3, .int (n + ((x >>> ((nI v) &&& 31)) &&& 1))), (2, .int f), (4, .int (nI v)), (0, .int x), (1, .int r)]) h dX5_pick_45 rfl (by rw [hL]; decide) rfl rfl ?_
          refine u_iinc (k := 2) (v := (nI (v + 1))) (lv' := [(4, .int (nI (v + 1))), (3, .int (n + ((x >>> ((nI v) &&& 31)) &&& 1))), (2, .int f), (0, .int x), (1, .int r)]) h dX5_pick_46 rfl (nI_add v 1) (by rw [hL]; decide) rfl rfl ?_
          refine u_goto (tgt := 8) h dX5_pick_49 (by decide) ?_
          exact ihL _ (by omega) (v + 1) (n + ((x >>> ((nI v) &&& 31)) &&& 1)) f rfl (by omega) (by rw [hn]; rfl) (by simp only [pickM]; rw [if_neg (by rintro ⟨e1, e2⟩; exact c2 e1)]; exact hf)
        · refine u_iload_n h dX5_pick_25 rfl 1 rfl rfl ?_
          refine u_iload_n h dX5_pick_26 rfl 4 rfl rfl ?_
          refine u_icmp_ne (tgt := 35) h dX5_pick_27 (by decide) rfl (fun c3 => ?_) (fun c3 => ?_)
          · refine u_iload_n h dX5_pick_35 rfl 2 rfl rfl ?_
            refine u_istore_n (lv' := [(2, .int f), (4, .int (nI v)), (3, .int n), (0, .int x), (1, .int r)]) h dX5_pick_36 rfl (by rw [hL]; decide) rfl rfl ?_
            refine u_iload_n h dX5_pick_37 rfl 2 rfl rfl ?_
            refine u_iload_n h dX5_pick_38 rfl 3 rfl rfl ?_
            refine u_iload h dX5_pick_39 1 rfl rfl ?_
            refine u_ishr (v := (x >>> ((nI v) &&& 31))) h dX5_pick_41 rfl rfl ?_
            refine u_iconst (v := 1) h dX5_pick_42 (by decide) rfl ?_
            refine u_iand (v := ((x >>> ((nI v) &&& 31)) &&& 1)) h dX5_pick_43 rfl rfl ?_
            refine u_iadd (v := (n + ((x >>> ((nI v) &&& 31)) &&& 1))) h dX5_pick_44 rfl rfl ?_
            refine u_istore_n (lv' := [(3, .int (n + ((x >>> ((nI v) &&& 31)) &&& 1))), (2, .int f), (4, .int (nI v)), (0, .int x), (1, .int r)]) h dX5_pick_45 rfl (by rw [hL]; decide) rfl rfl ?_
            refine u_iinc (k := 2) (v := (nI (v + 1))) (lv' := [(4, .int (nI (v + 1))), (3, .int (n + ((x >>> ((nI v) &&& 31)) &&& 1))), (2, .int f), (0, .int x), (1, .int r)]) h dX5_pick_46 rfl (nI_add v 1) (by rw [hL]; decide) rfl rfl ?_
            refine u_goto (tgt := 8) h dX5_pick_49 (by decide) ?_
            exact ihL _ (by omega) (v + 1) (n + ((x >>> ((nI v) &&& 31)) &&& 1)) f rfl (by omega) (by rw [hn]; rfl) (by simp only [pickM]; rw [if_neg (by rintro ⟨e1, e2⟩; exact c3 (by rw [hn]; exact e2))]; exact hf)
          · refine u_iload h dX5_pick_30 0 rfl rfl ?_
            refine u_goto (tgt := 36) h dX5_pick_32 (by decide) ?_
            refine u_istore_n (lv' := [(2, .int (nI v)), (4, .int (nI v)), (3, .int n), (0, .int x), (1, .int r)]) h dX5_pick_36 rfl (by rw [hL]; decide) rfl rfl ?_
            refine u_iload_n h dX5_pick_37 rfl 2 rfl rfl ?_
            refine u_iload_n h dX5_pick_38 rfl 3 rfl rfl ?_
            refine u_iload h dX5_pick_39 1 rfl rfl ?_
            refine u_ishr (v := (x >>> ((nI v) &&& 31))) h dX5_pick_41 rfl rfl ?_
            refine u_iconst (v := 1) h dX5_pick_42 (by decide) rfl ?_
            refine u_iand (v := ((x >>> ((nI v) &&& 31)) &&& 1)) h dX5_pick_43 rfl rfl ?_
            refine u_iadd (v := (n + ((x >>> ((nI v) &&& 31)) &&& 1))) h dX5_pick_44 rfl rfl ?_
            refine u_istore_n (lv' := [(3, .int (n + ((x >>> ((nI v) &&& 31)) &&& 1))), (2, .int (nI v)), (4, .int (nI v)), (0, .int x), (1, .int r)]) h dX5_pick_45 rfl (by rw [hL]; decide) rfl rfl ?_
            refine u_iinc (k := 2) (v := (nI (v + 1))) (lv' := [(4, .int (nI (v + 1))), (3, .int (n + ((x >>> ((nI v) &&& 31)) &&& 1))), (2, .int (nI v)), (0, .int x), (1, .int r)]) h dX5_pick_46 rfl (nI_add v 1) (by rw [hL]; decide) rfl rfl ?_
            refine u_goto (tgt := 8) h dX5_pick_49 (by decide) ?_
            exact ihL _ (by omega) (v + 1) (n + ((x >>> ((nI v) &&& 31)) &&& 1)) (nI v) rfl (by omega) (by rw [hn]; rfl) (by simp only [pickM]; rw [if_pos (by first | exact ⟨c2, by rw [← hn]; exact c3⟩)])
  exact LL _ 0 0 (-5) rfl (Nat.zero_le _) rfl rfl

theorem flX5_build_7 : FL wsX5_build RX5 7 5 0 := ⟨RX5, TX5, 18, rfl, by decide, by decide +kernel, by decide +kernel⟩
set_option maxRecDepth 20000 in
theorem cwX5_build_X5_in : CWd wsX5_build (wsS RX5 47 yX5_in wsX5_in) yX5_in wsX5_in cX5_in 3 (some .boolean) 3 := ⟨gX5_build_X5_in, ⟨_, rfl⟩, by decide +kernel, by decide, by decide⟩
set_option maxRecDepth 20000 in
theorem cwX5_build_X5_notAway : CWd wsX5_build (wsV RX5 63 RX5 yX5_notAway wsX5_notAway) yX5_notAway wsX5_notAway cX5_notAway 3 (some .int) 0 := ⟨gX5_build_X5_notAway, ⟨_, rfl⟩, by decide +kernel, by decide, by decide⟩
set_option maxRecDepth 20000 in
theorem cwX5_build_X5_record : CWd wsX5_build (wsV RX5 67 RX5 yX5_record wsX5_record) yX5_record wsX5_record cX5_record 2 none 0 := ⟨gX5_build_X5_record, ⟨_, rfl⟩, by decide +kernel, by decide, by decide⟩
set_option maxRecDepth 20000 in
theorem cwX5_build_X5_clearLock : CWd wsX5_build (wsV RX5 43 RX5 yX5_clearLock wsX5_clearLock) yX5_clearLock wsX5_clearLock cX5_clearLock 3 none 1 := ⟨gX5_build_X5_clearLock, ⟨_, rfl⟩, by decide +kernel, by decide, by decide⟩
set_option maxHeartbeats 8000000 in
set_option maxRecDepth 100000 in
theorem kX5_build (G : Gx) (h0 : Nat) (q : Nat → Nat) (st : Nat) (hst : st ≤ 4) (ik ln sT fm bo bt : Int32) (z p : Zf) (x : Int32) : MC G yX5_build wsX5_build ({ frames := 2, cells := 0, slots := 0, locals := 46 } : Room) [.ref h0, .int x] [(h0, .inr (5, mO q (nI st) ik ln sT fm bo bt)), ((q 0), aI G 86 z), ((q 2), aI G 344 p)] (fun v' u' => v' = some (.int (buildA z x)) ∧ u' = [(h0, .inr (5, mO q (nI (nxN (okB z x) st)) ik ln sT fm bo bt)), ((q 0), aI G 86 (nxZ (okB z x) z (clrM z x))), ((q 2), aI G 344 (nxP (okB z x) p z st))]) 0 0 := by
  refine mc_of (cc := cX5_build) (maxL := 3) (ret := (some .int)) (by decide) rfl (Nat.le_of_ble_eq_true rfl) (fun X h hR hL hRT => ?_)
  refine u_eql (lv' := [(0, .ref h0), (1, .int x)]) rfl ?_
  refine u_iload_n h dX5_build_0 rfl 1 rfl rfl ?_
  refine u_iconst (v := 0) h dX5_build_1 (by decide) rfl ?_
  refine u_iconst (v := 3) h dX5_build_2 (by decide) rfl ?_
  refine u_callS h (As := [.int x, .int 0, .int 3]) (wc := []) (wr := [(h0, .inr (5, mO q (nI st) ik ln sT fm bo bt)), ((q 0), aI G 86 z), ((q 2), aI G 344 p)]) (kX5_in G x 0 3) cwX5_build_X5_in rfl rfl hR ⟨⟨rfl, rfl⟩, by decide, by decide⟩ ⟨Nat.le_of_ble_eq_true rfl, Nat.le_of_ble_eq_true rfl⟩ [] [0, 1, 2] rfl rfl rfl rfl (by decide) (Nat.le_of_ble_eq_true rfl) rfl dX5_build_3 rfl (fun v9 u9 hp9 => ?_)
  obtain ⟨rfl, rfl⟩ := hp9
  refine u_wp (ws' := [(h0, .inr (5, mO q (nI st) ik ln sT fm bo bt)), ((q 0), aI G 86 z), ((q 2), aI G 344 p)]) [0, 1, 2] rfl rfl ?_
  refine u_eqs (st' := [.int (bI (inB x 0 3))]) rfl ?_
  refine u_if_ne_B (tgt := 11) h dX5_build_6 (by decide) rfl (fun c1 => ?_) (fun c1 => ?_)
  · refine u_aload_n h dX5_build_11 rfl 0 rfl rfl ?_
    refine u_callV h (As := []) (wc := [(h0, .inr (5, mO q (nI st) ik ln sT fm bo bt)), ((q 0), aI G 86 z)]) (wr := [((q 2), aI G 344 p)]) (kX5_notAway G h0 (q 0) (mO q (nI st) ik ln sT fm bo bt) rfl z) cwX5_build_X5_notAway rfl rfl hR ⟨⟨rfl, rfl⟩, by decide, by decide⟩ ⟨Nat.le_of_ble_eq_true rfl, Nat.le_of_ble_eq_true rfl⟩ (ci := 5) (qr := 0) rfl rfl [0, 1] [2] rfl rfl rfl rfl (by decide) (Nat.le_of_ble_eq_true rfl) rfl dX5_build_12 rfl (fun v9 u9 hp9 => ?_)
    obtain ⟨rfl, rfl⟩ := hp9
    refine u_wp (ws' := [(h0, .inr (5, mO q (nI st) ik ln sT fm bo bt)), ((q 0), aI G 86 z), ((q 2), aI G 344 p)]) [1, 2, 0] rfl rfl ?_
    refine u_eqs (st' := [.int (cntZ z 6)]) rfl ?_
    refine u_if_le (tgt := 21) h dX5_build_15 (by decide) rfl (fun c2 => ?_) (fun c2 => ?_)
    · refine u_aload_n h dX5_build_21 rfl 0 rfl rfl ?_
      refine u_callV h (As := []) (wc := [(h0, .inr (5, mO q (nI st) ik ln sT fm bo bt)), ((q 0), aI G 86 z), ((q 2), aI G 344 p)]) (wr := []) (kX5_record G h0 q st hst ik ln sT fm bo bt z p) cwX5_build_X5_record rfl rfl hR ⟨⟨rfl, rfl⟩, by decide, by decide⟩ ⟨Nat.le_of_ble_eq_true rfl, Nat.le_of_ble_eq_true rfl⟩ (ci := 5) (qr := 0) rfl rfl [0, 1, 2] [] rfl rfl rfl rfl (by decide) (Nat.le_of_ble_eq_true rfl) rfl dX5_build_22 rfl (fun v9 u9 hp9 => ?_)
      obtain ⟨rfl, rfl⟩ := hp9
      refine u_wp (ws' := [(h0, .inr (5, mO q (nI (recN st)) ik ln sT fm bo bt)), ((q 0), aI G 86 z), ((q 2), aI G 344 (recP p z st))]) [0, 1, 2] rfl rfl ?_
      refine u_eqs (st' := []) rfl ?_
      refine u_aload_n h dX5_build_25 rfl 0 rfl rfl ?_
      refine u_get h flX5_build_7 0 (v := .ref (q 0)) rfl rfl dX5_build_26 rfl ?_
      refine u_bipush (v := 60) h dX5_build_29 (by decide) rfl ?_
      refine u_iald h (n := 60) 1 rfl (by omega) (by omega) dX5_build_31 rfl ?_
      refine u_istore_n (lv' := [(2, .int (z 60)), (0, .ref h0), (1, .int x)]) h dX5_build_32 rfl (by rw [hL]; decide) rfl rfl ?_
      refine u_aload_n h dX5_build_33 rfl 1 rfl rfl ?_
      refine u_iload_n h dX5_build_34 rfl 2 rfl rfl ?_
      refine u_callV h (As := [.int x]) (wc := [(h0, .inr (5, mO q (nI (recN st)) ik ln sT fm bo bt)), ((q 0), aI G 86 z)]) (wr := [((q 2), aI G 344 (recP p z st))]) (kX5_clearLock G h0 (q 0) (mO q (nI (recN st)) ik ln sT fm bo bt) rfl z x) cwX5_build_X5_clearLock rfl rfl hR ⟨⟨rfl, rfl⟩, by decide, by decide⟩ ⟨Nat.le_of_ble_eq_true rfl, Nat.le_of_ble_eq_true rfl⟩ (ci := 5) (qr := 0) rfl rfl [0, 1] [2] rfl rfl rfl rfl (by decide) (Nat.le_of_ble_eq_true rfl) rfl dX5_build_35 rfl (fun v9 u9 hp9 => ?_)
      obtain ⟨rfl, rfl⟩ := hp9
      refine u_wp (ws' := [(h0, .inr (5, mO q (nI (recN st)) ik ln sT fm bo bt)), ((q 0), aI G 86 (clrM z x)), ((q 2), aI G 344 (recP p z st))]) [1, 2, 0] rfl rfl ?_
      refine u_eqs (st' := []) rfl ?_
      refine u_iload_n h dX5_build_38 rfl 0 rfl rfl ?_
      exact u_iret h hRT dX5_build_39 (by omega) (by omega) (by first | (simp [nxN, nxZ, nxP, okB, buildA, c1, c2, Int32.not_lt.mpr c2]; done) | (exfalso; simp_all; done) | (simp_all [nxN, nxZ, nxP, okB, buildA, c1, c2, Int32.not_lt.mpr c2]; done))
    · refine u_bipush (v := (-4)) h dX5_build_18 (by decide) rfl ?_
      exact u_iret h hRT dX5_build_20 (by omega) (by omega) (by first | (simp [nxN, nxZ, nxP, okB, buildA, c1, c2, Int32.not_le.mp c2]; done) | (exfalso; simp_all; done) | (simp_all [nxN, nxZ, nxP, okB, buildA, c1, c2, Int32.not_le.mp c2]; done))
  · refine u_iconst (v := (-1)) h dX5_build_9 (by decide) rfl ?_
    exact u_iret h hRT dX5_build_10 (by omega) (by omega) (by first | (simp [nxN, nxZ, nxP, okB, buildA, c1]; done) | (exfalso; simp_all; done) | (simp_all [nxN, nxZ, nxP, okB, buildA, c1]; done))

theorem flX5_step_7 : FL wsX5_step RX5 7 5 0 := ⟨RX5, TX5, 18, rfl, by decide, by decide +kernel, by decide +kernel⟩
set_option maxRecDepth 20000 in
theorem cwX5_step_X5_isVisitor : CWd wsX5_step (wsS RX5 100 yX5_isVisitor wsX5_isVisitor) yX5_isVisitor wsX5_isVisitor cX5_isVisitor 1 (some .boolean) 1 := ⟨gX5_step_X5_isVisitor, ⟨_, rfl⟩, by decide +kernel, by decide, by decide⟩
set_option maxRecDepth 20000 in
theorem cwX5_step_X5_record : CWd wsX5_step (wsV RX5 67 RX5 yX5_record wsX5_record) yX5_record wsX5_record cX5_record 2 none 0 := ⟨gX5_step_X5_record, ⟨_, rfl⟩, by decide +kernel, by decide, by decide⟩
set_option maxRecDepth 20000 in
theorem cwX5_step_X5_makeStep : CWd wsX5_step (wsV RX5 103 RX5 yX5_makeStep wsX5_makeStep) yX5_makeStep wsX5_makeStep cX5_makeStep 4 none 1 := ⟨gX5_step_X5_makeStep, ⟨_, rfl⟩, by decide +kernel, by decide, by decide⟩
set_option maxHeartbeats 8000000 in
set_option maxRecDepth 100000 in
theorem kX5_step (G : Gx) (h0 : Nat) (q : Nat → Nat) (st : Nat) (hst : st ≤ 4) (ik ln sT fm bo bt : Int32) (z p : Zf) (x : Int32) (hW : Wf z) : MC G yX5_step wsX5_step ({ frames := 3, cells := 0, slots := 0, locals := 69 } : Room) [.ref h0, .int x] [(h0, .inr (5, mO q (nI st) ik ln sT fm bo bt)), ((q 0), aI G 86 z), ((q 2), aI G 344 p)] (fun v' u' => v' = some (.int (stepA z x)) ∧ u' = [(h0, .inr (5, mO q (nI (nxN (isV x) st)) ik ln sT fm bo bt)), ((q 0), aI G 86 (nxZ (isV x) z (stM z (ix x)))), ((q 2), aI G 344 (nxP (isV x) p z st))]) 0 0 := by
  refine mc_of (cc := cX5_step) (maxL := 2) (ret := (some .int)) (by decide) rfl (Nat.le_of_ble_eq_true rfl) (fun X h hR hL hRT => ?_)
  refine u_eql (lv' := [(0, .ref h0), (1, .int x)]) rfl ?_
  refine u_iload_n h dX5_step_0 rfl 1 rfl rfl ?_
  refine u_callS h (As := [.int x]) (wc := []) (wr := [(h0, .inr (5, mO q (nI st) ik ln sT fm bo bt)), ((q 0), aI G 86 z), ((q 2), aI G 344 p)]) (kX5_isVisitor G x) cwX5_step_X5_isVisitor rfl rfl hR ⟨⟨rfl, rfl⟩, by decide, by decide⟩ ⟨Nat.le_of_ble_eq_true rfl, Nat.le_of_ble_eq_true rfl⟩ [] [0, 1, 2] rfl rfl rfl rfl (by decide) (Nat.le_of_ble_eq_true rfl) rfl dX5_step_1 rfl (fun v9 u9 hp9 => ?_)
  obtain ⟨rfl, rfl⟩ := hp9
  refine u_wp (ws' := [(h0, .inr (5, mO q (nI st) ik ln sT fm bo bt)), ((q 0), aI G 86 z), ((q 2), aI G 344 p)]) [0, 1, 2] rfl rfl ?_
  refine u_eqs (st' := [.int (bI (isV x))]) rfl ?_
  refine u_if_ne_B (tgt := 9) h dX5_step_4 (by decide) rfl (fun c1 => ?_) (fun c1 => ?_)
  · obtain ⟨v, hv, rfl⟩ := isV_nat c1
    refine u_aload_n h dX5_step_9 rfl 0 rfl rfl ?_
    refine u_callV h (As := []) (wc := [(h0, .inr (5, mO q (nI st) ik ln sT fm bo bt)), ((q 0), aI G 86 z), ((q 2), aI G 344 p)]) (wr := []) (kX5_record G h0 q st hst ik ln sT fm bo bt z p) cwX5_step_X5_record rfl rfl hR ⟨⟨rfl, rfl⟩, by decide, by decide⟩ ⟨Nat.le_of_ble_eq_true rfl, Nat.le_of_ble_eq_true rfl⟩ (ci := 5) (qr := 0) rfl rfl [0, 1, 2] [] rfl rfl rfl rfl (by decide) (Nat.le_of_ble_eq_true rfl) rfl dX5_step_10 rfl (fun v9 u9 hp9 => ?_)
    obtain ⟨rfl, rfl⟩ := hp9
    refine u_wp (ws' := [(h0, .inr (5, mO q (nI (recN st)) ik ln sT fm bo bt)), ((q 0), aI G 86 z), ((q 2), aI G 344 (recP p z st))]) [0, 1, 2] rfl rfl ?_
    refine u_eqs (st' := []) rfl ?_
    refine u_aload_n h dX5_step_13 rfl 0 rfl rfl ?_
    refine u_iload_n h dX5_step_14 rfl 1 rfl rfl ?_
    refine u_callV h (As := [.int (nI v)]) (wc := [(h0, .inr (5, mO q (nI (recN st)) ik ln sT fm bo bt)), ((q 0), aI G 86 z)]) (wr := [((q 2), aI G 344 (recP p z st))]) (kX5_makeStep G h0 (q 0) (mO q (nI (recN st)) ik ln sT fm bo bt) rfl z v hv hW) cwX5_step_X5_makeStep rfl rfl hR ⟨⟨rfl, rfl⟩, by decide, by decide⟩ ⟨Nat.le_of_ble_eq_true rfl, Nat.le_of_ble_eq_true rfl⟩ (ci := 5) (qr := 0) rfl rfl [0, 1] [2] rfl rfl rfl rfl (by decide) (Nat.le_of_ble_eq_true rfl) rfl dX5_step_15 rfl (fun v9 u9 hp9 => ?_)
    obtain ⟨rfl, rfl⟩ := hp9
    refine u_wp (ws' := [(h0, .inr (5, mO q (nI (recN st)) ik ln sT fm bo bt)), ((q 0), aI G 86 (stM z v)), ((q 2), aI G 344 (recP p z st))]) [1, 2, 0] rfl rfl ?_
    refine u_eqs (st' := []) rfl ?_
    refine u_aload_n h dX5_step_18 rfl 0 rfl rfl ?_
    refine u_get h flX5_step_7 0 (v := .ref (q 0)) rfl rfl dX5_step_19 rfl ?_
    refine u_iconst (v := 0) h dX5_step_22 (by decide) rfl ?_
    refine u_iload_n h dX5_step_23 rfl 1 rfl rfl ?_
    refine u_iadd (v := (nI v)) h dX5_step_24 (by have h9 := nI_add 0 v; rw [Nat.zero_add] at h9; exact h9) rfl ?_
    refine u_iald h (n := v) 1 rfl (by omega) (by omega) dX5_step_25 rfl ?_
    exact u_iret h hRT dX5_step_26 (by omega) (by omega) (by first | (exact ⟨rfl, rfl⟩) | (simp [nxN, nxZ, nxP, stepA, c1, isV_nI hv, ix_nI (show v < 2 ^ 31 by omega)]; done) | (exfalso; simp_all; done) | (simp_all [nxN, nxZ, nxP, stepA, c1, isV_nI hv, ix_nI (show v < 2 ^ 31 by omega)]; done))
  · refine u_iconst (v := (-1)) h dX5_step_7 (by decide) rfl ?_
    exact u_iret h hRT dX5_step_8 (by omega) (by omega) (by first | (exact ⟨rfl, rfl⟩) | (simp [nxN, nxZ, nxP, stepA, c1]; done) | (exfalso; simp_all; done) | (simp_all [nxN, nxZ, nxP, stepA, c1]; done))

theorem flX5_go_7 : FL wsX5_go RX5 7 5 0 := ⟨RX5, TX5, 18, rfl, by decide, by decide +kernel, by decide +kernel⟩
set_option maxRecDepth 20000 in
theorem cwX5_go_X5_isVisitor : CWd wsX5_go (wsS RX5 100 yX5_isVisitor wsX5_isVisitor) yX5_isVisitor wsX5_isVisitor cX5_isVisitor 1 (some .boolean) 1 := ⟨gX5_go_X5_isVisitor, ⟨_, rfl⟩, by decide +kernel, by decide, by decide⟩
set_option maxRecDepth 20000 in
theorem cwX5_go_X5_isLook : CWd wsX5_go (wsV RX5 86 RX5 yX5_isLook wsX5_isLook) yX5_isLook wsX5_isLook cX5_isLook 3 (some .boolean) 1 := ⟨gX5_go_X5_isLook, ⟨_, rfl⟩, by decide +kernel, by decide, by decide⟩
set_option maxRecDepth 20000 in
theorem cwX5_go_X5_record : CWd wsX5_go (wsV RX5 67 RX5 yX5_record wsX5_record) yX5_record wsX5_record cX5_record 2 none 0 := ⟨gX5_go_X5_record, ⟨_, rfl⟩, by decide +kernel, by decide, by decide⟩
set_option maxRecDepth 20000 in
theorem cwX5_go_X5_makeStep : CWd wsX5_go (wsV RX5 103 RX5 yX5_makeStep wsX5_makeStep) yX5_makeStep wsX5_makeStep cX5_makeStep 4 none 1 := ⟨gX5_go_X5_makeStep, ⟨_, rfl⟩, by decide +kernel, by decide, by decide⟩
set_option maxHeartbeats 8000000 in
set_option maxRecDepth 100000 in
theorem kX5_go (G : Gx) (h0 : Nat) (q : Nat → Nat) (st : Nat) (hst : st ≤ 4) (ik ln sT fm bo bt : Int32) (z p : Zf) (x : Int32) (N : Nat) (hW : Wf z) (hG : okG z x = true → GoOk z (ix x) N) : MC G yX5_go wsX5_go ({ frames := 3, cells := 0, slots := 0, locals := 69 } : Room) [.ref h0, .int x] [(h0, .inr (5, mO q (nI st) ik ln sT fm bo bt)), ((q 0), aI G 86 z), ((q 2), aI G 344 p)] (fun v' u' => v' = some (.int (goA z x N)) ∧ u' = [(h0, .inr (5, mO q (nI (nxN (okG z x) st)) ik ln sT fm bo bt)), ((q 0), aI G 86 (nxZ (okG z x) z (itS z (ix x) N))), ((q 2), aI G 344 (nxP (okG z x) p z st))]) 0 0 := by
  refine mc_of (cc := cX5_go) (maxL := 4) (ret := (some .int)) (by decide) rfl (Nat.le_of_ble_eq_true rfl) (fun X h hR hL hRT => ?_)
  refine u_eql (lv' := [(0, .ref h0), (1, .int x)]) rfl ?_
  refine u_iload_n h dX5_go_0 rfl 1 rfl rfl ?_
  refine u_callS h (As := [.int x]) (wc := []) (wr := [(h0, .inr (5, mO q (nI st) ik ln sT fm bo bt)), ((q 0), aI G 86 z), ((q 2), aI G 344 p)]) (kX5_isVisitor G x) cwX5_go_X5_isVisitor rfl rfl hR ⟨⟨rfl, rfl⟩, by decide, by decide⟩ ⟨Nat.le_of_ble_eq_true rfl, Nat.le_of_ble_eq_true rfl⟩ [] [0, 1, 2] rfl rfl rfl rfl (by decide) (Nat.le_of_ble_eq_true rfl) rfl dX5_go_1 rfl (fun v9 u9 hp9 => ?_)
  obtain ⟨rfl, rfl⟩ := hp9
  refine u_wp (ws' := [(h0, .inr (5, mO q (nI st) ik ln sT fm bo bt)), ((q 0), aI G 86 z), ((q 2), aI G 344 p)]) [0, 1, 2] rfl rfl ?_
  refine u_eqs (st' := [.int (bI (isV x))]) rfl ?_
  refine u_if_ne_B (tgt := 9) h dX5_go_4 (by decide) rfl (fun c1 => ?_) (fun c1 => ?_)
  · obtain ⟨v, hv, rfl⟩ := isV_nat c1
    refine u_aload_n h dX5_go_9 rfl 0 rfl rfl ?_
    refine u_iload_n h dX5_go_10 rfl 1 rfl rfl ?_
    refine u_callV h (As := [.int (nI v)]) (wc := [(h0, .inr (5, mO q (nI st) ik ln sT fm bo bt)), ((q 0), aI G 86 z)]) (wr := [((q 2), aI G 344 p)]) (kX5_isLook G h0 (q 0) (mO q (nI st) ik ln sT fm bo bt) rfl z v hv hW) cwX5_go_X5_isLook rfl rfl hR ⟨⟨rfl, rfl⟩, by decide, by decide⟩ ⟨Nat.le_of_ble_eq_true rfl, Nat.le_of_ble_eq_true rfl⟩ (ci := 5) (qr := 0) rfl rfl [0, 1] [2] rfl rfl rfl rfl (by decide) (Nat.le_of_ble_eq_true rfl) rfl dX5_go_11 rfl (fun v9 u9 hp9 => ?_)
    obtain ⟨rfl, rfl⟩ := hp9
    refine u_wp (ws' := [(h0, .inr (5, mO q (nI st) ik ln sT fm bo bt)), ((q 0), aI G 86 z), ((q 2), aI G 344 p)]) [1, 2, 0] rfl rfl ?_
    refine u_eqs (st' := [.int (bI (isLook z v))]) rfl ?_
    refine u_if_eq_B (tgt := 20) h dX5_go_14 (by decide) rfl (fun c2 => ?_) (fun c2 => ?_)
    · have hN := hG (by simp [okG, isV_nI hv, ix_nI (show v < 2 ^ 31 by omega), c2])
      rw [ix_nI (show v < 2 ^ 31 by omega)] at hN
      refine u_aload_n h dX5_go_20 rfl 0 rfl rfl ?_
      refine u_callV h (As := []) (wc := [(h0, .inr (5, mO q (nI st) ik ln sT fm bo bt)), ((q 0), aI G 86 z), ((q 2), aI G 344 p)]) (wr := []) (kX5_record G h0 q st hst ik ln sT fm bo bt z p) cwX5_go_X5_record rfl rfl hR ⟨⟨rfl, rfl⟩, by decide, by decide⟩ ⟨Nat.le_of_ble_eq_true rfl, Nat.le_of_ble_eq_true rfl⟩ (ci := 5) (qr := 0) rfl rfl [0, 1, 2] [] rfl rfl rfl rfl (by decide) (Nat.le_of_ble_eq_true rfl) rfl dX5_go_21 rfl (fun v9 u9 hp9 => ?_)
      obtain ⟨rfl, rfl⟩ := hp9
      refine u_wp (ws' := [(h0, .inr (5, mO q (nI (recN st)) ik ln sT fm bo bt)), ((q 0), aI G 86 z), ((q 2), aI G 344 (recP p z st))]) [0, 1, 2] rfl rfl ?_
      refine u_eqs (st' := []) rfl ?_
      refine u_iconst (v := 0) h dX5_go_24 (by decide) rfl ?_
      refine u_istore_n (lv' := [(2, .int 0), (0, .ref h0), (1, .int (nI v))]) h dX5_go_25 rfl (by rw [hL]; decide) rfl rfl ?_
      refine u_iconst (v := 1) h dX5_go_26 (by decide) rfl ?_
      refine u_istore_n (lv' := [(3, .int 1), (2, .int 0), (0, .ref h0), (1, .int (nI v))]) h dX5_go_27 rfl (by rw [hL]; decide) rfl rfl ?_
      have LL : ∀ (k9 : Nat) (n : Nat) (w : Zf) (mo : Bool), N - n = k9 → (n ≤ N) → (w = itS z v n) → (mo = decide (n < N)) → U G X 0 0 [(h0, .inr (5, mO q (nI (recN st)) ik ln sT fm bo bt)), ((q 0), aI G 86 w), ((q 2), aI G 344 (recP p z st))] 28 [(3, .int (bI mo)), (2, .int (nI n)), (0, .ref h0), (1, .int (nI v))] [] := by
        intro k9
        induction k9 using Nat.strongRecOn with
        | _ k9 ihL =>
          intro n w mo hk9 hn hw hm
          subst hk9
          refine u_iload_n h dX5_go_28 rfl 0 rfl rfl ?_
          refine u_if_eq_B (tgt := 80) h dX5_go_29 (by decide) rfl (fun c3 => ?_) (fun c3 => ?_)
          · refine u_iload_n h dX5_go_80 rfl 1 rfl rfl ?_
            exact u_iret h hRT dX5_go_81 (by omega) (by omega) (by (have h9 := hm; rw [c3] at h9; have h8 : n = N := by (simp at h9; omega)); subst h8; refine ⟨?_, ?_⟩ <;> simp [nxN, nxZ, nxP, okG, goA, c2, isV_nI hv, ix_nI (show v < 2 ^ 31 by omega), hw])
          · have hn2 : n < N := by have h9 := hm; rw [c3] at h9; simpa using h9.symm
            refine u_aload_n h dX5_go_32 rfl 2 rfl rfl ?_
            refine u_iload_n h dX5_go_33 rfl 3 rfl rfl ?_
            refine u_callV h (As := [.int (nI v)]) (wc := [(h0, .inr (5, mO q (nI (recN st)) ik ln sT fm bo bt)), ((q 0), aI G 86 w)]) (wr := [((q 2), aI G 344 (recP p z st))]) (kX5_makeStep G h0 (q 0) (mO q (nI (recN st)) ik ln sT fm bo bt) rfl w v hv (by rw [hw]; exact hN.2.2.1 n (by omega))) cwX5_go_X5_makeStep rfl rfl hR ⟨⟨rfl, rfl⟩, by decide, by decide⟩ ⟨Nat.le_of_ble_eq_true rfl, Nat.le_of_ble_eq_true rfl⟩ (ci := 5) (qr := 0) rfl rfl [0, 1] [2] rfl rfl rfl rfl (by decide) (Nat.le_of_ble_eq_true rfl) rfl dX5_go_34 rfl (fun v9 u9 hp9 => ?_)
            obtain ⟨rfl, rfl⟩ := hp9
            refine u_wp (ws' := [(h0, .inr (5, mO q (nI (recN st)) ik ln sT fm bo bt)), ((q 0), aI G 86 (stM w v)), ((q 2), aI G 344 (recP p z st))]) [1, 2, 0] rfl rfl ?_
            refine u_eqs (st' := []) rfl ?_
            refine u_iinc (k := 1) (v := (nI (n + 1))) (lv' := [(2, .int (nI (n + 1))), (3, .int (bI mo)), (0, .ref h0), (1, .int (nI v))]) h dX5_go_37 rfl (nI_add n 1) (by rw [hL]; decide) rfl rfl ?_
            refine u_aload_n h dX5_go_40 rfl 2 rfl rfl ?_
            refine u_get h flX5_go_7 0 (v := .ref (q 0)) rfl rfl dX5_go_41 rfl ?_
            refine u_iconst (v := 0) h dX5_go_44 (by decide) rfl ?_
            refine u_iload_n h dX5_go_45 rfl 3 rfl rfl ?_
            refine u_iadd (v := (nI v)) h dX5_go_46 (by have h9 := nI_add 0 v; rw [Nat.zero_add] at h9; exact h9) rfl ?_
            refine u_iald h (n := v) 1 rfl (by omega) (by omega) dX5_go_47 rfl ?_
            refine u_iconst (v := 4) h dX5_go_48 (by decide) rfl ?_
            refine u_icmp_eq (tgt := 75) h dX5_go_49 (by decide) rfl (fun c4 => ?_) (fun c4 => ?_)
            · refine u_iconst (v := 0) h dX5_go_75 (by decide) rfl ?_
              refine u_istore_n (lv' := [(3, .int 0), (2, .int (nI (n + 1))), (0, .ref h0), (1, .int (nI v))]) h dX5_go_76 rfl (by rw [hL]; decide) rfl rfl ?_
              refine u_goto (tgt := 28) h dX5_go_77 (by decide) ?_
              exact ihL _ (by omega) (n + 1) (stM w v) false rfl (by omega) (by rw [hw]; rfl) (by have h9 := hN.2.2.2 (n + 1) (by omega) (by omega); rw [show itS z v (n + 1) = stM w v by rw [hw]; rfl] at h9; simp [stp, c4] at h9; simp; omega)
            · refine u_aload_n h dX5_go_52 rfl 2 rfl rfl ?_
              refine u_get h flX5_go_7 0 (v := .ref (q 0)) rfl rfl dX5_go_53 rfl ?_
              refine u_iconst (v := 0) h dX5_go_56 (by decide) rfl ?_
              refine u_iload_n h dX5_go_57 rfl 3 rfl rfl ?_
              refine u_iadd (v := (nI v)) h dX5_go_58 (by have h9 := nI_add 0 v; rw [Nat.zero_add] at h9; exact h9) rfl ?_
              refine u_iald h (n := v) 1 rfl (by omega) (by omega) dX5_go_59 rfl ?_
              refine u_if_eq (tgt := 75) h dX5_go_60 (by decide) rfl (fun c5 => ?_) (fun c5 => ?_)
              · refine u_iconst (v := 0) h dX5_go_75 (by decide) rfl ?_
                refine u_istore_n (lv' := [(3, .int 0), (2, .int (nI (n + 1))), (0, .ref h0), (1, .int (nI v))]) h dX5_go_76 rfl (by rw [hL]; decide) rfl rfl ?_
                refine u_goto (tgt := 28) h dX5_go_77 (by decide) ?_
                exact ihL _ (by omega) (n + 1) (stM w v) false rfl (by omega) (by rw [hw]; rfl) (by have h9 := hN.2.2.2 (n + 1) (by omega) (by omega); rw [show itS z v (n + 1) = stM w v by rw [hw]; rfl] at h9; simp [stp, c4, c5] at h9; simp; omega)
              · refine u_aload_n h dX5_go_63 rfl 2 rfl rfl ?_
                refine u_iload_n h dX5_go_64 rfl 3 rfl rfl ?_
                refine u_callV h (As := [.int (nI v)]) (wc := [(h0, .inr (5, mO q (nI (recN st)) ik ln sT fm bo bt)), ((q 0), aI G 86 (stM w v))]) (wr := [((q 2), aI G 344 (recP p z st))]) (kX5_isLook G h0 (q 0) (mO q (nI (recN st)) ik ln sT fm bo bt) rfl (stM w v) v hv (by rw [hw]; exact hN.2.2.1 (n + 1) (by omega))) cwX5_go_X5_isLook rfl rfl hR ⟨⟨rfl, rfl⟩, by decide, by decide⟩ ⟨Nat.le_of_ble_eq_true rfl, Nat.le_of_ble_eq_true rfl⟩ (ci := 5) (qr := 0) rfl rfl [0, 1] [2] rfl rfl rfl rfl (by decide) (Nat.le_of_ble_eq_true rfl) rfl dX5_go_65 rfl (fun v9 u9 hp9 => ?_)
                obtain ⟨rfl, rfl⟩ := hp9
                refine u_wp (ws' := [(h0, .inr (5, mO q (nI (recN st)) ik ln sT fm bo bt)), ((q 0), aI G 86 (stM w v)), ((q 2), aI G 344 (recP p z st))]) [1, 2, 0] rfl rfl ?_
                refine u_eqs (st' := [.int (bI (isLook (stM w v) v))]) rfl ?_
                refine u_if_ne_B (tgt := 75) h dX5_go_68 (by decide) rfl (fun c6 => ?_) (fun c6 => ?_)
                · refine u_iconst (v := 0) h dX5_go_75 (by decide) rfl ?_
                  refine u_istore_n (lv' := [(3, .int 0), (2, .int (nI (n + 1))), (0, .ref h0), (1, .int (nI v))]) h dX5_go_76 rfl (by rw [hL]; decide) rfl rfl ?_
                  refine u_goto (tgt := 28) h dX5_go_77 (by decide) ?_
                  exact ihL _ (by omega) (n + 1) (stM w v) false rfl (by omega) (by rw [hw]; rfl) (by have h9 := hN.2.2.2 (n + 1) (by omega) (by omega); rw [show itS z v (n + 1) = stM w v by rw [hw]; rfl] at h9; simp [stp, c4, c5, c6] at h9; simp; omega)
                · refine u_iconst (v := 1) h dX5_go_71 (by decide) rfl ?_
                  refine u_goto (tgt := 76) h dX5_go_72 (by decide) ?_
                  refine u_istore_n (lv' := [(3, .int 1), (2, .int (nI (n + 1))), (0, .ref h0), (1, .int (nI v))]) h dX5_go_76 rfl (by rw [hL]; decide) rfl rfl ?_
                  refine u_goto (tgt := 28) h dX5_go_77 (by decide) ?_
                  exact ihL _ (by omega) (n + 1) (stM w v) true rfl (by omega) (by rw [hw]; rfl) (by have h9 := hN.2.2.2 (n + 1) (by omega) (by omega); rw [show itS z v (n + 1) = stM w v by rw [hw]; rfl] at h9; simp [stp, c4, c5, c6] at h9; simp; omega)
      exact LL _ 0 z true rfl (Nat.zero_le _) rfl (by simp [hN.1])
    · refine u_bipush (v := (-5)) h dX5_go_17 (by decide) rfl ?_
      exact u_iret h hRT dX5_go_19 (by omega) (by omega) (by first | (simp [nxN, nxZ, nxP, okG, goA, c1, c2, isV_nI hv, ix_nI (show v < 2 ^ 31 by omega)]; done) | (exfalso; simp_all; done) | (simp_all [nxN, nxZ, nxP, okG, goA, c1, c2, isV_nI hv, ix_nI (show v < 2 ^ 31 by omega)]; done))
  · refine u_iconst (v := (-1)) h dX5_go_7 (by decide) rfl ?_
    exact u_iret h hRT dX5_go_8 (by omega) (by omega) (by first | (simp [nxN, nxZ, nxP, okG, goA, c1]; done) | (exfalso; simp_all; done) | (simp_all [nxN, nxZ, nxP, okG, goA, c1]; done))

theorem flX5_shuffle_7 : FL wsX5_shuffle RX5 7 5 0 := ⟨RX5, TX5, 18, rfl, by decide, by decide +kernel, by decide +kernel⟩
set_option maxRecDepth 20000 in
theorem cwX5_shuffle_X5_record : CWd wsX5_shuffle (wsV RX5 67 RX5 yX5_record wsX5_record) yX5_record wsX5_record cX5_record 2 none 0 := ⟨gX5_shuffle_X5_record, ⟨_, rfl⟩, by decide +kernel, by decide, by decide⟩
set_option maxHeartbeats 8000000 in
set_option maxRecDepth 100000 in
theorem kX5_shuffle (G : Gx) (h0 : Nat) (q : Nat → Nat) (st : Nat) (hst : st ≤ 4) (ik ln sT fm bo bt : Int32) (z p : Zf) (x : Int32) : MC G yX5_shuffle wsX5_shuffle ({ frames := 2, cells := 0, slots := 0, locals := 46 } : Room) [.ref h0, .int x] [(h0, .inr (5, mO q (nI st) ik ln sT fm bo bt)), ((q 0), aI G 86 z), ((q 2), aI G 344 p)] (fun v' u' => v' = some (.int (shufA z x)) ∧ u' = [(h0, .inr (5, mO q (nI (nxN (okH z x) st)) ik ln sT fm bo bt)), ((q 0), aI G 86 (nxZ (okH z x) z (upd z 61 x))), ((q 2), aI G 344 (nxP (okH z x) p z st))]) 0 0 := by
  refine mc_of (cc := cX5_shuffle) (maxL := 3) (ret := (some .int)) (by decide) rfl (Nat.le_of_ble_eq_true rfl) (fun X h hR hL hRT => ?_)
  refine u_eql (lv' := [(0, .ref h0), (1, .int x)]) rfl ?_
  refine u_iload_n h dX5_shuffle_0 rfl 1 rfl rfl ?_
  refine u_if_ge (tgt := 7) h dX5_shuffle_1 (by decide) rfl (fun c1 => ?_) (fun c1 => ?_)
  · refine u_iload_n h dX5_shuffle_7 rfl 1 rfl rfl ?_
    refine u_aload_n h dX5_shuffle_8 rfl 0 rfl rfl ?_
    refine u_get h flX5_shuffle_7 0 (v := .ref (q 0)) rfl rfl dX5_shuffle_9 rfl ?_
    refine u_bipush (v := 61) h dX5_shuffle_12 (by decide) rfl ?_
    refine u_iald h (n := 61) 1 rfl (by omega) (by omega) dX5_shuffle_14 rfl ?_
    refine u_icmp_ne (tgt := 21) h dX5_shuffle_15 (by decide) rfl (fun c2 => ?_) (fun c2 => ?_)
    · refine u_aload_n h dX5_shuffle_21 rfl 0 rfl rfl ?_
      refine u_callV h (As := []) (wc := [(h0, .inr (5, mO q (nI st) ik ln sT fm bo bt)), ((q 0), aI G 86 z), ((q 2), aI G 344 p)]) (wr := []) (kX5_record G h0 q st hst ik ln sT fm bo bt z p) cwX5_shuffle_X5_record rfl rfl hR ⟨⟨rfl, rfl⟩, by decide, by decide⟩ ⟨Nat.le_of_ble_eq_true rfl, Nat.le_of_ble_eq_true rfl⟩ (ci := 5) (qr := 0) rfl rfl [0, 1, 2] [] rfl rfl rfl rfl (by decide) (Nat.le_of_ble_eq_true rfl) rfl dX5_shuffle_22 rfl (fun v9 u9 hp9 => ?_)
      obtain ⟨rfl, rfl⟩ := hp9
      refine u_wp (ws' := [(h0, .inr (5, mO q (nI (recN st)) ik ln sT fm bo bt)), ((q 0), aI G 86 z), ((q 2), aI G 344 (recP p z st))]) [0, 1, 2] rfl rfl ?_
      refine u_eqs (st' := []) rfl ?_
      refine u_aload_n h dX5_shuffle_25 rfl 0 rfl rfl ?_
      refine u_get h flX5_shuffle_7 0 (v := .ref (q 0)) rfl rfl dX5_shuffle_26 rfl ?_
      refine u_bipush (v := 61) h dX5_shuffle_29 (by decide) rfl ?_
      refine u_iald h (n := 61) 1 rfl (by omega) (by omega) dX5_shuffle_31 rfl ?_
      refine u_istore_n (lv' := [(2, .int (z 61)), (0, .ref h0), (1, .int x)]) h dX5_shuffle_32 rfl (by rw [hL]; decide) rfl rfl ?_
      refine u_aload_n h dX5_shuffle_33 rfl 1 rfl rfl ?_
      refine u_get h flX5_shuffle_7 0 (v := .ref (q 0)) rfl rfl dX5_shuffle_34 rfl ?_
      refine u_bipush (v := 61) h dX5_shuffle_37 (by decide) rfl ?_
      refine u_iload_n h dX5_shuffle_39 rfl 2 rfl rfl ?_
      refine u_iast h (n := 61) (v := x) 1 rfl (by omega) (by omega) rfl (ws' := [(h0, .inr (5, mO q (nI (recN st)) ik ln sT fm bo bt)), ((q 0), aI G 86 (upd z 61 x)), ((q 2), aI G 344 (recP p z st))]) rfl dX5_shuffle_40 rfl ?_
      refine u_iload_n h dX5_shuffle_41 rfl 0 rfl rfl ?_
      exact u_iret h hRT dX5_shuffle_42 (by omega) (by omega) (by first | (simp [nxN, nxZ, nxP, okH, shufA, c1, Int32.not_lt.mpr c1, c2]; done) | (exfalso; simp_all; done) | (simp_all [nxN, nxZ, nxP, okH, shufA, c1, Int32.not_lt.mpr c1, c2]; done))
    · refine u_bipush (v := (-5)) h dX5_shuffle_18 (by decide) rfl ?_
      exact u_iret h hRT dX5_shuffle_20 (by omega) (by omega) (by first | (simp [nxN, nxZ, nxP, okH, shufA, c1, Int32.not_lt.mpr c1, c2]; done) | (exfalso; simp_all; done) | (simp_all [nxN, nxZ, nxP, okH, shufA, c1, Int32.not_lt.mpr c1, c2]; done))
  · refine u_bipush (v := (-2)) h dX5_shuffle_4 (by decide) rfl ?_
    exact u_iret h hRT dX5_shuffle_6 (by omega) (by omega) (by first | (simp [nxN, nxZ, nxP, okH, shufA, c1, Int32.not_le.mp c1]; done) | (exfalso; simp_all; done) | (simp_all [nxN, nxZ, nxP, okH, shufA, c1, Int32.not_le.mp c1]; done))

theorem flX5_finishAll_7 : FL wsX5_finishAll RX5 7 5 0 := ⟨RX5, TX5, 18, rfl, by decide, by decide +kernel, by decide +kernel⟩
set_option maxRecDepth 20000 in
theorem cwX5_finishAll_X5_sum : CWd wsX5_finishAll (wsV RX5 106 RX5 yX5_sum wsX5_sum) yX5_sum wsX5_sum cX5_sum 4 (some .int) 1 := ⟨gX5_finishAll_X5_sum, ⟨_, rfl⟩, by decide +kernel, by decide, by decide⟩
set_option maxRecDepth 20000 in
theorem cwX5_finishAll_X5_notAway : CWd wsX5_finishAll (wsV RX5 63 RX5 yX5_notAway wsX5_notAway) yX5_notAway wsX5_notAway cX5_notAway 3 (some .int) 0 := ⟨gX5_finishAll_X5_notAway, ⟨_, rfl⟩, by decide +kernel, by decide, by decide⟩
set_option maxRecDepth 20000 in
theorem cwX5_finishAll_X5_makeStep : CWd wsX5_finishAll (wsV RX5 103 RX5 yX5_makeStep wsX5_makeStep) yX5_makeStep wsX5_makeStep cX5_makeStep 4 none 1 := ⟨gX5_finishAll_X5_makeStep, ⟨_, rfl⟩, by decide +kernel, by decide, by decide⟩
set_option maxHeartbeats 8000000 in
set_option maxRecDepth 100000 in
theorem kX5_finishAll (G : Gx) (h0 qz : Nat) (fs : List Value) (hfz : fs[0]? = some (.ref qz)) (z : Zf) (N : Nat) (hF : FiOk z N) : MC G yX5_finishAll wsX5_finishAll ({ frames := 3, cells := 0, slots := 0, locals := 69 } : Room) [.ref h0] [(h0, .inr (5, fs)), (qz, aI G 86 z)] (fun v' u' => v' = some (.int (finA z N)) ∧ u' = [(h0, .inr (5, fs)), (qz, aI G 86 (frZ z N))]) 0 0 := by
  refine mc_of (cc := cX5_finishAll) (maxL := 3) (ret := (some .int)) (by decide) rfl (Nat.le_of_ble_eq_true rfl) (fun X h hR hL hRT => ?_)
  refine u_eql (lv' := [(0, .ref h0)]) rfl ?_
  refine u_aload_n h dX5_finishAll_0 rfl 0 rfl rfl ?_
  refine u_bipush (v := 62) h dX5_finishAll_1 (by decide) rfl ?_
  refine u_callV h (As := [.int 62]) (wc := [(h0, .inr (5, fs)), (qz, aI G 86 z)]) (wr := []) (kX5_sum G h0 qz fs hfz z 62 (by omega)) cwX5_finishAll_X5_sum rfl rfl hR ⟨⟨rfl, rfl⟩, by decide, by decide⟩ ⟨Nat.le_of_ble_eq_true rfl, Nat.le_of_ble_eq_true rfl⟩ (ci := 5) (qr := 0) rfl rfl [0, 1] [] rfl rfl rfl rfl (by decide) (Nat.le_of_ble_eq_true rfl) rfl dX5_finishAll_3 rfl (fun v9 u9 hp9 => ?_)
  obtain ⟨rfl, rfl⟩ := hp9
  refine u_wp (ws' := [(h0, .inr (5, fs)), (qz, aI G 86 z)]) [0, 1] rfl rfl ?_
  refine u_eqs (st' := [.int (sumZ z 62 6)]) rfl ?_
  refine u_istore_n (lv' := [(1, .int (sumZ z 62 6)), (0, .ref h0)]) h dX5_finishAll_6 rfl (by rw [hL]; decide) rfl rfl ?_
  have LA : ∀ (k9 : Nat) (n : Nat) (w : Zf), N - n = k9 → (n ≤ N) → (w = frZ z n) → U G X 0 0 [(h0, .inr (5, fs)), (qz, aI G 86 w)] 7 [(1, .int (sumZ z 62 6)), (0, .ref h0)] [] := by
    intro k9
    induction k9 using Nat.strongRecOn with
    | _ k9 ihA =>
      intro n w hk9 hn hw
      subst hk9
      refine u_aload_n h dX5_finishAll_7 rfl 1 rfl rfl ?_
      refine u_callV h (As := []) (wc := [(h0, .inr (5, fs)), (qz, aI G 86 w)]) (wr := []) (kX5_notAway G h0 qz fs hfz w) cwX5_finishAll_X5_notAway rfl rfl hR ⟨⟨rfl, rfl⟩, by decide, by decide⟩ ⟨Nat.le_of_ble_eq_true rfl, Nat.le_of_ble_eq_true rfl⟩ (ci := 5) (qr := 0) rfl rfl [0, 1] [] rfl rfl rfl rfl (by decide) (Nat.le_of_ble_eq_true rfl) rfl dX5_finishAll_8 rfl (fun v9 u9 hp9 => ?_)
      obtain ⟨rfl, rfl⟩ := hp9
      refine u_wp (ws' := [(h0, .inr (5, fs)), (qz, aI G 86 w)]) [0, 1] rfl rfl ?_
      refine u_eqs (st' := [.int (cntZ w 6)]) rfl ?_
      refine u_if_le (tgt := 47) h dX5_finishAll_11 (by decide) rfl (fun c1 => ?_) (fun c1 => ?_)
      · refine u_aload_n h dX5_finishAll_47 rfl 1 rfl rfl ?_
        refine u_bipush (v := 62) h dX5_finishAll_48 (by decide) rfl ?_
        refine u_callV h (As := [.int 62]) (wc := [(h0, .inr (5, fs)), (qz, aI G 86 w)]) (wr := []) (kX5_sum G h0 qz fs hfz w 62 (by omega)) cwX5_finishAll_X5_sum rfl rfl hR ⟨⟨rfl, rfl⟩, by decide, by decide⟩ ⟨Nat.le_of_ble_eq_true rfl, Nat.le_of_ble_eq_true rfl⟩ (ci := 5) (qr := 0) rfl rfl [0, 1] [] rfl rfl rfl rfl (by decide) (Nat.le_of_ble_eq_true rfl) rfl dX5_finishAll_50 rfl (fun v9 u9 hp9 => ?_)
        obtain ⟨rfl, rfl⟩ := hp9
        refine u_wp (ws' := [(h0, .inr (5, fs)), (qz, aI G 86 w)]) [0, 1] rfl rfl ?_
        refine u_eqs (st' := [.int (sumZ w 62 6)]) rfl ?_
        refine u_iload_n h dX5_finishAll_53 rfl 0 rfl rfl ?_
        refine u_isub (v := ((sumZ w 62 6) - (sumZ z 62 6))) h dX5_finishAll_54 rfl rfl ?_
        exact u_iret h hRT dX5_finishAll_55 (by omega) (by omega) (by (have h8 : n = N := by rcases Nat.lt_or_ge n N with q | q; exact absurd (show 0 < cntZ w 6 by rw [hw]; exact hF.2.2.1 n q) (Int32.not_lt.mpr c1); omega); subst h8; exact ⟨by rw [hw]; rfl, by rw [hw]⟩)
      · have hn2 : n < N := by rcases Nat.lt_or_ge n N with q | q; exact q; exact absurd (show 0 < cntZ (frZ z N) 6 by rw [← Nat.le_antisymm hn q, ← hw]; exact Int32.not_le.mp c1) hF.2.2.2
        refine u_iconst (v := 0) h dX5_finishAll_14 (by decide) rfl ?_
        refine u_istore_n (lv' := [(2, .int 0), (1, .int (sumZ z 62 6)), (0, .ref h0)]) h dX5_finishAll_15 rfl (by rw [hL]; decide) rfl rfl ?_
        have LB : ∀ (k9 : Nat) (i : Nat) (w2 : Zf), 6 - i = k9 → (i ≤ 6) → (w2 = rdZ w i) → U G X 0 0 [(h0, .inr (5, fs)), (qz, aI G 86 w2)] 16 [(2, .int (nI i)), (1, .int (sumZ z 62 6)), (0, .ref h0)] [] := by
          intro k9
          induction k9 using Nat.strongRecOn with
          | _ k9 ihB =>
            intro i w2 hk9 hi hw2
            subst hk9
            refine u_iload_n h dX5_finishAll_16 rfl 0 rfl rfl ?_
            refine u_bipush (v := 6) h dX5_finishAll_17 (by decide) rfl ?_
            refine u_icmp_ge_N (a := i) (b := 6) (tgt := 44) h dX5_finishAll_19 (by decide) (by omega) (by omega) rfl (fun c2 => ?_) (fun c2 => ?_)
            · refine u_goto (tgt := 7) h dX5_finishAll_44 (by decide) ?_
              refine u_lv (lv' := [(1, .int (sumZ z 62 6)), (0, .ref h0)]) [1, 2] rfl ?_
              exact ihA _ (by omega) (n + 1) w2 rfl (by omega) (by rw [hw2, show i = 6 by omega, hw]; rfl)
            · refine u_aload_n h dX5_finishAll_22 rfl 2 rfl rfl ?_
              refine u_get h flX5_finishAll_7 0 (v := .ref qz) rfl hfz dX5_finishAll_23 rfl ?_
              refine u_iconst (v := 0) h dX5_finishAll_26 (by decide) rfl ?_
              refine u_iload_n h dX5_finishAll_27 rfl 0 rfl rfl ?_
              refine u_iadd (v := (nI i)) h dX5_finishAll_28 (by have h9 := nI_add 0 i; rw [Nat.zero_add] at h9; exact h9) rfl ?_
              refine u_iald h (n := i) 1 rfl (by omega) (by omega) dX5_finishAll_29 rfl ?_
              refine u_if_eq (tgt := 38) h dX5_finishAll_30 (by decide) rfl (fun c3 => ?_) (fun c3 => ?_)
              · refine u_iinc (k := 0) (v := (nI (i + 1))) (lv' := [(2, .int (nI (i + 1))), (1, .int (sumZ z 62 6)), (0, .ref h0)]) h dX5_finishAll_38 rfl (nI_add i 1) (by rw [hL]; decide) rfl rfl ?_
                refine u_goto (tgt := 16) h dX5_finishAll_41 (by decide) ?_
                exact ihB _ (by omega) (i + 1) w2 rfl (by omega) (by rw [hw2]; simp only [rdZ]; rw [if_pos (by rw [← hw2]; exact c3)])
              · have hv6 : i < 6 := by omega
                have hWw : Wf w2 := by rw [hw2, hw]; exact hF.2.1 n i (by omega) (by omega)
                refine u_aload_n h dX5_finishAll_33 rfl 2 rfl rfl ?_
                refine u_iload_n h dX5_finishAll_34 rfl 0 rfl rfl ?_
                refine u_callV h (As := [.int (nI i)]) (wc := [(h0, .inr (5, fs)), (qz, aI G 86 w2)]) (wr := []) (kX5_makeStep G h0 qz fs hfz w2 i hv6 hWw) cwX5_finishAll_X5_makeStep rfl rfl hR ⟨⟨rfl, rfl⟩, by decide, by decide⟩ ⟨Nat.le_of_ble_eq_true rfl, Nat.le_of_ble_eq_true rfl⟩ (ci := 5) (qr := 0) rfl rfl [0, 1] [] rfl rfl rfl rfl (by decide) (Nat.le_of_ble_eq_true rfl) rfl dX5_finishAll_35 rfl (fun v9 u9 hp9 => ?_)
                obtain ⟨rfl, rfl⟩ := hp9
                refine u_wp (ws' := [(h0, .inr (5, fs)), (qz, aI G 86 (stM w2 i))]) [0, 1] rfl rfl ?_
                refine u_eqs (st' := []) rfl ?_
                refine u_iinc (k := 0) (v := (nI (i + 1))) (lv' := [(2, .int (nI (i + 1))), (1, .int (sumZ z 62 6)), (0, .ref h0)]) h dX5_finishAll_38 rfl (nI_add i 1) (by rw [hL]; decide) rfl rfl ?_
                refine u_goto (tgt := 16) h dX5_finishAll_41 (by decide) ?_
                exact ihB _ (by omega) (i + 1) (stM w2 i) rfl (by omega) (by rw [hw2]; simp only [rdZ]; rw [if_neg (by rw [← hw2]; exact c3)])
        exact LB _ 0 w rfl (Nat.zero_le _) rfl
  exact LA _ 0 z rfl (Nat.zero_le _) rfl

set_option maxRecDepth 20000 in
theorem cwX5_finish_X5_notAway : CWd wsX5_finish (wsV RX5 63 RX5 yX5_notAway wsX5_notAway) yX5_notAway wsX5_notAway cX5_notAway 3 (some .int) 0 := ⟨gX5_finish_X5_notAway, ⟨_, rfl⟩, by decide +kernel, by decide, by decide⟩
set_option maxRecDepth 20000 in
theorem cwX5_finish_X5_record : CWd wsX5_finish (wsV RX5 67 RX5 yX5_record wsX5_record) yX5_record wsX5_record cX5_record 2 none 0 := ⟨gX5_finish_X5_record, ⟨_, rfl⟩, by decide +kernel, by decide, by decide⟩
set_option maxRecDepth 20000 in
theorem cwX5_finish_X5_finishAll : CWd wsX5_finish (wsV RX5 122 RX5 yX5_finishAll wsX5_finishAll) yX5_finishAll wsX5_finishAll cX5_finishAll 3 (some .int) 0 := ⟨gX5_finish_X5_finishAll, ⟨_, rfl⟩, by decide +kernel, by decide, by decide⟩
set_option maxHeartbeats 8000000 in
set_option maxRecDepth 100000 in
theorem kX5_finish (G : Gx) (h0 : Nat) (q : Nat → Nat) (st : Nat) (hst : st ≤ 4) (ik ln sT fm bo bt : Int32) (z p : Zf) (N : Nat) (hG : okF z = true → FiOk z N) : MC G yX5_finish wsX5_finish ({ frames := 4, cells := 0, slots := 0, locals := 91 } : Room) [.ref h0] [(h0, .inr (5, mO q (nI st) ik ln sT fm bo bt)), ((q 0), aI G 86 z), ((q 2), aI G 344 p)] (fun v' u' => v' = some (.int (finishA z N)) ∧ u' = [(h0, .inr (5, mO q (nI (nxN (okF z) st)) ik ln sT fm bo bt)), ((q 0), aI G 86 (nxZ (okF z) z (frZ z N))), ((q 2), aI G 344 (nxP (okF z) p z st))]) 0 0 := by
  refine mc_of (cc := cX5_finish) (maxL := 1) (ret := (some .int)) (by decide) rfl (Nat.le_of_ble_eq_true rfl) (fun X h hR hL hRT => ?_)
  refine u_eql (lv' := [(0, .ref h0)]) rfl ?_
  refine u_aload_n h dX5_finish_0 rfl 0 rfl rfl ?_
  refine u_callV h (As := []) (wc := [(h0, .inr (5, mO q (nI st) ik ln sT fm bo bt)), ((q 0), aI G 86 z)]) (wr := [((q 2), aI G 344 p)]) (kX5_notAway G h0 (q 0) (mO q (nI st) ik ln sT fm bo bt) rfl z) cwX5_finish_X5_notAway rfl rfl hR ⟨⟨rfl, rfl⟩, by decide, by decide⟩ ⟨Nat.le_of_ble_eq_true rfl, Nat.le_of_ble_eq_true rfl⟩ (ci := 5) (qr := 0) rfl rfl [0, 1] [2] rfl rfl rfl rfl (by decide) (Nat.le_of_ble_eq_true rfl) rfl dX5_finish_1 rfl (fun v9 u9 hp9 => ?_)
  obtain ⟨rfl, rfl⟩ := hp9
  refine u_wp (ws' := [(h0, .inr (5, mO q (nI st) ik ln sT fm bo bt)), ((q 0), aI G 86 z), ((q 2), aI G 344 p)]) [1, 2, 0] rfl rfl ?_
  refine u_eqs (st' := [.int (cntZ z 6)]) rfl ?_
  refine u_if_ne (tgt := 10) h dX5_finish_4 (by decide) rfl (fun c1 => ?_) (fun c1 => ?_)
  · have hF := hG (by simp [okF, c1])
    refine u_aload_n h dX5_finish_10 rfl 0 rfl rfl ?_
    refine u_callV h (As := []) (wc := [(h0, .inr (5, mO q (nI st) ik ln sT fm bo bt)), ((q 0), aI G 86 z), ((q 2), aI G 344 p)]) (wr := []) (kX5_record G h0 q st hst ik ln sT fm bo bt z p) cwX5_finish_X5_record rfl rfl hR ⟨⟨rfl, rfl⟩, by decide, by decide⟩ ⟨Nat.le_of_ble_eq_true rfl, Nat.le_of_ble_eq_true rfl⟩ (ci := 5) (qr := 0) rfl rfl [0, 1, 2] [] rfl rfl rfl rfl (by decide) (Nat.le_of_ble_eq_true rfl) rfl dX5_finish_11 rfl (fun v9 u9 hp9 => ?_)
    obtain ⟨rfl, rfl⟩ := hp9
    refine u_wp (ws' := [(h0, .inr (5, mO q (nI (recN st)) ik ln sT fm bo bt)), ((q 0), aI G 86 z), ((q 2), aI G 344 (recP p z st))]) [0, 1, 2] rfl rfl ?_
    refine u_eqs (st' := []) rfl ?_
    refine u_aload_n h dX5_finish_14 rfl 0 rfl rfl ?_
    refine u_callV h (As := []) (wc := [(h0, .inr (5, mO q (nI (recN st)) ik ln sT fm bo bt)), ((q 0), aI G 86 z)]) (wr := [((q 2), aI G 344 (recP p z st))]) (kX5_finishAll G h0 (q 0) (mO q (nI (recN st)) ik ln sT fm bo bt) rfl z  N hF) cwX5_finish_X5_finishAll rfl rfl hR ⟨⟨rfl, rfl⟩, by decide, by decide⟩ ⟨Nat.le_of_ble_eq_true rfl, Nat.le_of_ble_eq_true rfl⟩ (ci := 5) (qr := 0) rfl rfl [0, 1] [2] rfl rfl rfl rfl (by decide) (Nat.le_of_ble_eq_true rfl) rfl dX5_finish_15 rfl (fun v9 u9 hp9 => ?_)
    obtain ⟨rfl, rfl⟩ := hp9
    refine u_wp (ws' := [(h0, .inr (5, mO q (nI (recN st)) ik ln sT fm bo bt)), ((q 0), aI G 86 (frZ z N)), ((q 2), aI G 344 (recP p z st))]) [1, 2, 0] rfl rfl ?_
    refine u_eqs (st' := [.int (finA z N)]) rfl ?_
    exact u_iret h hRT dX5_finish_18 (by omega) (by omega) (by first | (simp [nxN, nxZ, nxP, okF, finishA, c1]; done) | (exfalso; simp_all; done) | (simp_all [nxN, nxZ, nxP, okF, finishA, c1]; done))
  · refine u_bipush (v := (-5)) h dX5_finish_7 (by decide) rfl ?_
    exact u_iret h hRT dX5_finish_9 (by omega) (by omega) (by first | (simp [nxN, nxZ, nxP, okF, finishA, c1]; done) | (exfalso; simp_all; done) | (simp_all [nxN, nxZ, nxP, okF, finishA, c1]; done))

theorem flX5_undo_51 : FL wsX5_undo RX5 51 5 3 := ⟨RX5, TX5, 18, rfl, by decide, by decide +kernel, by decide +kernel⟩
theorem fwX5_undo_51 : FW wsX5_undo RX5 51 5 3 false .int := ⟨RX5, TX5, 18, tyX5, rfl, by decide, by decide +kernel, by decide +kernel, tyX5_ok, nmX5, rfl, by decide +kernel, rfl⟩
theorem flX5_undo_16 : FL wsX5_undo RX5 16 5 2 := ⟨RX5, TX5, 18, rfl, by decide, by decide +kernel, by decide +kernel⟩
theorem flX5_undo_7 : FL wsX5_undo RX5 7 5 0 := ⟨RX5, TX5, 18, rfl, by decide, by decide +kernel, by decide +kernel⟩
set_option maxRecDepth 20000 in
theorem cwX5_undo_X5_copyRow : CWd wsX5_undo (wsS RX5 55 yX5_copyRow wsX5_copyRow) yX5_copyRow wsX5_copyRow cX5_copyRow 6 none 5 := ⟨gX5_undo_X5_copyRow, ⟨_, rfl⟩, by decide +kernel, by decide, by decide⟩
set_option maxHeartbeats 8000000 in
set_option maxRecDepth 100000 in
theorem kX5_undo (G : Gx) (h0 : Nat) (q : Nat → Nat) (st : Nat) (hst : st ≤ 4) (ik ln sT fm bo bt : Int32) (z p : Zf) : MC G yX5_undo wsX5_undo ({ frames := 1, cells := 0, slots := 0, locals := 25 } : Room) [.ref h0] [(h0, .inr (5, mO q (nI st) ik ln sT fm bo bt)), ((q 0), aI G 86 z), ((q 2), aI G 344 p)] (fun v' u' => v' = some (.int (if st = 0 then -5 else nI (st - 1))) ∧ u' = [(h0, .inr (5, mO q (nI (st - 1)) ik ln sT fm bo bt)), ((q 0), aI G 86 (if st = 0 then z else va_cpy p z (86 * (st - 1)) 0 86)), ((q 2), aI G 344 p)]) 0 0 := by
  refine mc_of (cc := cX5_undo) (maxL := 1) (ret := (some .int)) (by decide) rfl (Nat.le_of_ble_eq_true rfl) (fun X h hR hL hRT => ?_)
  refine u_eql (lv' := [(0, .ref h0)]) rfl ?_
  refine u_aload_n h dX5_undo_0 rfl 0 rfl rfl ?_
  refine u_get h flX5_undo_51 0 (v := .int (nI st)) rfl rfl dX5_undo_1 rfl ?_
  refine u_if_ne_N (a := st) (tgt := 10) h dX5_undo_4 (by decide) (by omega) rfl (fun c1 => ?_) (fun c1 => ?_)
  · refine u_aload_n h dX5_undo_10 rfl 0 rfl rfl ?_
    refine u_dup h dX5_undo_11 rfl rfl ?_
    refine u_get h flX5_undo_51 0 (v := .int (nI st)) rfl rfl dX5_undo_12 rfl ?_
    refine u_iconst (v := 1) h dX5_undo_15 (by decide) rfl ?_
    refine u_isub (v := (nI (st - 1))) h dX5_undo_16 (pk_sub (a := st) (b := 1) (by omega)) rfl ?_
    refine u_put h fwX5_undo_51 (ws' := [(h0, .inr (5, mO q (nI (st - 1)) ik ln sT fm bo bt)), ((q 0), aI G 86 z), ((q 2), aI G 344 p)]) 0 rfl (Nat.le_of_ble_eq_true rfl) rfl rfl rfl dX5_undo_17 rfl ?_
    refine u_aload_n h dX5_undo_20 rfl 0 rfl rfl ?_
    refine u_get h flX5_undo_16 0 (v := .ref (q 2)) rfl rfl dX5_undo_21 rfl ?_
    refine u_bipush (v := 86) h dX5_undo_24 (by decide) rfl ?_
    refine u_aload_n h dX5_undo_26 rfl 0 rfl rfl ?_
    refine u_get h flX5_undo_51 0 (v := .int (nI (st - 1))) rfl rfl dX5_undo_27 rfl ?_
    refine u_imul (v := (nI (86 * (st - 1)))) h dX5_undo_30 (pk_mul 86 (st - 1)) rfl ?_
    refine u_aload_n h dX5_undo_31 rfl 0 rfl rfl ?_
    refine u_get h flX5_undo_7 0 (v := .ref (q 0)) rfl rfl dX5_undo_32 rfl ?_
    refine u_iconst (v := 0) h dX5_undo_35 (by decide) rfl ?_
    refine u_bipush (v := 86) h dX5_undo_36 (by decide) rfl ?_
    refine u_callS h (As := [.ref (q 2), .int (nI (86 * (st - 1))), .ref (q 0), .int 0, .int 86]) (wc := [((q 2), aI G 344 p), ((q 0), aI G 86 z)]) (wr := [(h0, .inr (5, mO q (nI (st - 1)) ik ln sT fm bo bt))]) (kX5_copyRow G (q 2) (q 0) 344 86 (86 * (st - 1)) 0 86 p z (by omega) (by omega) (by omega) (by omega)) cwX5_undo_X5_copyRow rfl rfl hR ⟨⟨rfl, rfl⟩, by decide, by decide⟩ ⟨Nat.le_of_ble_eq_true rfl, Nat.le_of_ble_eq_true rfl⟩ [2, 1] [0] rfl rfl rfl rfl (by decide) (Nat.le_of_ble_eq_true rfl) rfl dX5_undo_38 rfl (fun v9 u9 hp9 => ?_)
    obtain ⟨rfl, rfl⟩ := hp9
    refine u_wp (ws' := [(h0, .inr (5, mO q (nI (st - 1)) ik ln sT fm bo bt)), ((q 0), aI G 86 (va_cpy p z (86 * (st - 1)) 0 86)), ((q 2), aI G 344 p)]) [0, 2, 1] rfl rfl ?_
    refine u_eqs (st' := []) rfl ?_
    refine u_aload_n h dX5_undo_41 rfl 0 rfl rfl ?_
    refine u_get h flX5_undo_51 0 (v := .int (nI (st - 1))) rfl rfl dX5_undo_42 rfl ?_
    exact u_iret h hRT dX5_undo_45 (by omega) (by omega) (by first | (simp [c1]; done) | (exfalso; simp_all; done) | (simp_all [c1]; done))
  · refine u_bipush (v := (-5)) h dX5_undo_7 (by decide) rfl ?_
    exact u_iret h hRT dX5_undo_9 (by omega) (by omega) (by first | (simp [c1]; done) | (exfalso; simp_all; done) | (simp_all [c1]; done))

theorem flX5_keep_7 : FL wsX5_keep RX5 7 5 0 := ⟨RX5, TX5, 18, rfl, by decide, by decide +kernel, by decide +kernel⟩
theorem flX5_keep_19 : FL wsX5_keep RX5 19 5 4 := ⟨RX5, TX5, 18, rfl, by decide, by decide +kernel, by decide +kernel⟩
theorem fwX5_keep_59 : FW wsX5_keep RX5 59 5 5 false .boolean := ⟨RX5, TX5, 18, tyX5, rfl, by decide, by decide +kernel, by decide +kernel, tyX5_ok, nmX5, rfl, by decide +kernel, rfl⟩
set_option maxRecDepth 20000 in
theorem cwX5_keep_X5_copyRow : CWd wsX5_keep (wsS RX5 55 yX5_copyRow wsX5_copyRow) yX5_copyRow wsX5_copyRow cX5_copyRow 6 none 5 := ⟨gX5_keep_X5_copyRow, ⟨_, rfl⟩, by decide +kernel, by decide, by decide⟩
set_option maxRecDepth 20000 in
theorem cwX5_keep_X5_notAway : CWd wsX5_keep (wsV RX5 63 RX5 yX5_notAway wsX5_notAway) yX5_notAway wsX5_notAway cX5_notAway 3 (some .int) 0 := ⟨gX5_keep_X5_notAway, ⟨_, rfl⟩, by decide +kernel, by decide, by decide⟩
set_option maxHeartbeats 8000000 in
set_option maxRecDepth 100000 in
theorem kX5_keep (G : Gx) (h0 : Nat) (q : Nat → Nat) (st : Nat) (ik ln sT fm bo bt : Int32) (z kp : Zf) : MC G yX5_keep wsX5_keep ({ frames := 1, cells := 0, slots := 0, locals := 25 } : Room) [.ref h0] [(h0, .inr (5, mO q (nI st) ik ln sT fm bo bt)), ((q 0), aI G 86 z), ((q 3), aI G 86 kp)] (fun v' u' => v' = some (.int (cntZ z 6)) ∧ u' = [(h0, .inr (5, mO q (nI st) 1 ln sT fm bo bt)), ((q 0), aI G 86 z), ((q 3), aI G 86 (va_cpy z kp 0 0 86))]) 0 0 := by
  refine mc_of (cc := cX5_keep) (maxL := 1) (ret := (some .int)) (by decide) rfl (Nat.le_of_ble_eq_true rfl) (fun X h hR hL hRT => ?_)
  refine u_eql (lv' := [(0, .ref h0)]) rfl ?_
  refine u_aload_n h dX5_keep_0 rfl 0 rfl rfl ?_
  refine u_get h flX5_keep_7 0 (v := .ref (q 0)) rfl rfl dX5_keep_1 rfl ?_
  refine u_iconst (v := 0) h dX5_keep_4 (by decide) rfl ?_
  refine u_aload_n h dX5_keep_5 rfl 0 rfl rfl ?_
  refine u_get h flX5_keep_19 0 (v := .ref (q 3)) rfl rfl dX5_keep_6 rfl ?_
  refine u_iconst (v := 0) h dX5_keep_9 (by decide) rfl ?_
  refine u_bipush (v := 86) h dX5_keep_10 (by decide) rfl ?_
  refine u_callS h (As := [.ref (q 0), .int 0, .ref (q 3), .int 0, .int 86]) (wc := [((q 0), aI G 86 z), ((q 3), aI G 86 kp)]) (wr := [(h0, .inr (5, mO q (nI st) ik ln sT fm bo bt))]) (kX5_copyRow G (q 0) (q 3) 86 86 0 0 86 z kp (by omega) (by omega) (by omega) (by omega)) cwX5_keep_X5_copyRow rfl rfl hR ⟨⟨rfl, rfl⟩, by decide, by decide⟩ ⟨Nat.le_of_ble_eq_true rfl, Nat.le_of_ble_eq_true rfl⟩ [1, 2] [0] rfl rfl rfl rfl (by decide) (Nat.le_of_ble_eq_true rfl) rfl dX5_keep_12 rfl (fun v9 u9 hp9 => ?_)
  obtain ⟨rfl, rfl⟩ := hp9
  refine u_wp (ws' := [(h0, .inr (5, mO q (nI st) ik ln sT fm bo bt)), ((q 0), aI G 86 z), ((q 3), aI G 86 (va_cpy z kp 0 0 86))]) [0, 1, 2] rfl rfl ?_
  refine u_eqs (st' := []) rfl ?_
  refine u_aload_n h dX5_keep_15 rfl 0 rfl rfl ?_
  refine u_iconst (v := 1) h dX5_keep_16 (by decide) rfl ?_
  refine u_put h fwX5_keep_59 (ws' := [(h0, .inr (5, mO q (nI st) 1 ln sT fm bo bt)), ((q 0), aI G 86 z), ((q 3), aI G 86 (va_cpy z kp 0 0 86))]) 0 rfl (Nat.le_of_ble_eq_true rfl) rfl rfl rfl dX5_keep_17 rfl ?_
  refine u_aload_n h dX5_keep_20 rfl 0 rfl rfl ?_
  refine u_callV h (As := []) (wc := [(h0, .inr (5, mO q (nI st) 1 ln sT fm bo bt)), ((q 0), aI G 86 z)]) (wr := [((q 3), aI G 86 (va_cpy z kp 0 0 86))]) (kX5_notAway G h0 (q 0) (mO q (nI st) 1 ln sT fm bo bt) rfl z) cwX5_keep_X5_notAway rfl rfl hR ⟨⟨rfl, rfl⟩, by decide, by decide⟩ ⟨Nat.le_of_ble_eq_true rfl, Nat.le_of_ble_eq_true rfl⟩ (ci := 5) (qr := 0) rfl rfl [0, 1] [2] rfl rfl rfl rfl (by decide) (Nat.le_of_ble_eq_true rfl) rfl dX5_keep_21 rfl (fun v9 u9 hp9 => ?_)
  obtain ⟨rfl, rfl⟩ := hp9
  refine u_wp (ws' := [(h0, .inr (5, mO q (nI st) 1 ln sT fm bo bt)), ((q 0), aI G 86 z), ((q 3), aI G 86 (va_cpy z kp 0 0 86))]) [1, 2, 0] rfl rfl ?_
  refine u_eqs (st' := [.int (cntZ z 6)]) rfl ?_
  exact u_iret h hRT dX5_keep_24 (by omega) (by omega) (by exact ⟨rfl, rfl⟩)

theorem flX5_restore_59 : FL wsX5_restore RX5 59 5 5 := ⟨RX5, TX5, 18, rfl, by decide, by decide +kernel, by decide +kernel⟩
theorem flX5_restore_19 : FL wsX5_restore RX5 19 5 4 := ⟨RX5, TX5, 18, rfl, by decide, by decide +kernel, by decide +kernel⟩
theorem flX5_restore_7 : FL wsX5_restore RX5 7 5 0 := ⟨RX5, TX5, 18, rfl, by decide, by decide +kernel, by decide +kernel⟩
set_option maxRecDepth 20000 in
theorem cwX5_restore_X5_record : CWd wsX5_restore (wsV RX5 67 RX5 yX5_record wsX5_record) yX5_record wsX5_record cX5_record 2 none 0 := ⟨gX5_restore_X5_record, ⟨_, rfl⟩, by decide +kernel, by decide, by decide⟩
set_option maxRecDepth 20000 in
theorem cwX5_restore_X5_copyRow : CWd wsX5_restore (wsS RX5 55 yX5_copyRow wsX5_copyRow) yX5_copyRow wsX5_copyRow cX5_copyRow 6 none 5 := ⟨gX5_restore_X5_copyRow, ⟨_, rfl⟩, by decide +kernel, by decide, by decide⟩
set_option maxRecDepth 20000 in
theorem cwX5_restore_X5_notAway : CWd wsX5_restore (wsV RX5 63 RX5 yX5_notAway wsX5_notAway) yX5_notAway wsX5_notAway cX5_notAway 3 (some .int) 0 := ⟨gX5_restore_X5_notAway, ⟨_, rfl⟩, by decide +kernel, by decide, by decide⟩
set_option maxHeartbeats 8000000 in
set_option maxRecDepth 100000 in
theorem kX5_restore (G : Gx) (h0 : Nat) (q : Nat → Nat) (st : Nat) (hst : st ≤ 4) (kb : Bool) (ln sT fm bo bt : Int32) (z p kp : Zf) : MC G yX5_restore wsX5_restore ({ frames := 2, cells := 0, slots := 0, locals := 46 } : Room) [.ref h0] [(h0, .inr (5, mO q (nI st) (bI kb) ln sT fm bo bt)), ((q 0), aI G 86 z), ((q 2), aI G 344 p), ((q 3), aI G 86 kp)] (fun v' u' => v' = some (.int (if kb = true then cntZ (va_cpy kp z 0 0 86) 6 else -5)) ∧ u' = [(h0, .inr (5, mO q (nI (nxN kb st)) (bI kb) ln sT fm bo bt)), ((q 0), aI G 86 (nxZ kb z (va_cpy kp z 0 0 86))), ((q 2), aI G 344 (nxP kb p z st)), ((q 3), aI G 86 kp)]) 0 0 := by
  refine mc_of (cc := cX5_restore) (maxL := 1) (ret := (some .int)) (by decide) rfl (Nat.le_of_ble_eq_true rfl) (fun X h hR hL hRT => ?_)
  refine u_eql (lv' := [(0, .ref h0)]) rfl ?_
  refine u_aload_n h dX5_restore_0 rfl 0 rfl rfl ?_
  refine u_get h flX5_restore_59 0 (v := .int (bI kb)) rfl rfl dX5_restore_1 rfl ?_
  refine u_if_ne_B (tgt := 10) h dX5_restore_4 (by decide) rfl (fun c1 => ?_) (fun c1 => ?_)
  · refine u_aload_n h dX5_restore_10 rfl 0 rfl rfl ?_
    refine u_callV h (As := []) (wc := [(h0, .inr (5, mO q (nI st) (bI kb) ln sT fm bo bt)), ((q 0), aI G 86 z), ((q 2), aI G 344 p)]) (wr := [((q 3), aI G 86 kp)]) (kX5_record G h0 q st hst (bI kb) ln sT fm bo bt z p) cwX5_restore_X5_record rfl rfl hR ⟨⟨rfl, rfl⟩, by decide, by decide⟩ ⟨Nat.le_of_ble_eq_true rfl, Nat.le_of_ble_eq_true rfl⟩ (ci := 5) (qr := 0) rfl rfl [0, 1, 2] [3] rfl rfl rfl rfl (by decide) (Nat.le_of_ble_eq_true rfl) rfl dX5_restore_11 rfl (fun v9 u9 hp9 => ?_)
    obtain ⟨rfl, rfl⟩ := hp9
    refine u_wp (ws' := [(h0, .inr (5, mO q (nI (recN st)) (bI kb) ln sT fm bo bt)), ((q 0), aI G 86 z), ((q 2), aI G 344 (recP p z st)), ((q 3), aI G 86 kp)]) [1, 2, 3, 0] rfl rfl ?_
    refine u_eqs (st' := []) rfl ?_
    refine u_aload_n h dX5_restore_14 rfl 0 rfl rfl ?_
    refine u_get h flX5_restore_19 0 (v := .ref (q 3)) rfl rfl dX5_restore_15 rfl ?_
    refine u_iconst (v := 0) h dX5_restore_18 (by decide) rfl ?_
    refine u_aload_n h dX5_restore_19 rfl 0 rfl rfl ?_
    refine u_get h flX5_restore_7 0 (v := .ref (q 0)) rfl rfl dX5_restore_20 rfl ?_
    refine u_iconst (v := 0) h dX5_restore_23 (by decide) rfl ?_
    refine u_bipush (v := 86) h dX5_restore_24 (by decide) rfl ?_
    refine u_callS h (As := [.ref (q 3), .int 0, .ref (q 0), .int 0, .int 86]) (wc := [((q 3), aI G 86 kp), ((q 0), aI G 86 z)]) (wr := [(h0, .inr (5, mO q (nI (recN st)) (bI kb) ln sT fm bo bt)), ((q 2), aI G 344 (recP p z st))]) (kX5_copyRow G (q 3) (q 0) 86 86 0 0 86 kp z (by omega) (by omega) (by omega) (by omega)) cwX5_restore_X5_copyRow rfl rfl hR ⟨⟨rfl, rfl⟩, by decide, by decide⟩ ⟨Nat.le_of_ble_eq_true rfl, Nat.le_of_ble_eq_true rfl⟩ [3, 1] [0, 2] rfl rfl rfl rfl (by decide) (Nat.le_of_ble_eq_true rfl) rfl dX5_restore_26 rfl (fun v9 u9 hp9 => ?_)
    obtain ⟨rfl, rfl⟩ := hp9
    refine u_wp (ws' := [(h0, .inr (5, mO q (nI (recN st)) (bI kb) ln sT fm bo bt)), ((q 0), aI G 86 (va_cpy kp z 0 0 86)), ((q 2), aI G 344 (recP p z st)), ((q 3), aI G 86 kp)]) [0, 3, 1, 2] rfl rfl ?_
    refine u_eqs (st' := []) rfl ?_
    refine u_aload_n h dX5_restore_29 rfl 0 rfl rfl ?_
    refine u_callV h (As := []) (wc := [(h0, .inr (5, mO q (nI (recN st)) (bI kb) ln sT fm bo bt)), ((q 0), aI G 86 (va_cpy kp z 0 0 86))]) (wr := [((q 2), aI G 344 (recP p z st)), ((q 3), aI G 86 kp)]) (kX5_notAway G h0 (q 0) (mO q (nI (recN st)) (bI kb) ln sT fm bo bt) rfl (va_cpy kp z 0 0 86)) cwX5_restore_X5_notAway rfl rfl hR ⟨⟨rfl, rfl⟩, by decide, by decide⟩ ⟨Nat.le_of_ble_eq_true rfl, Nat.le_of_ble_eq_true rfl⟩ (ci := 5) (qr := 0) rfl rfl [0, 1] [2, 3] rfl rfl rfl rfl (by decide) (Nat.le_of_ble_eq_true rfl) rfl dX5_restore_30 rfl (fun v9 u9 hp9 => ?_)
    obtain ⟨rfl, rfl⟩ := hp9
    refine u_wp (ws' := [(h0, .inr (5, mO q (nI (recN st)) (bI kb) ln sT fm bo bt)), ((q 0), aI G 86 (va_cpy kp z 0 0 86)), ((q 2), aI G 344 (recP p z st)), ((q 3), aI G 86 kp)]) [2, 3, 0, 1] rfl rfl ?_
    refine u_eqs (st' := [.int (cntZ (va_cpy kp z 0 0 86) 6)]) rfl ?_
    exact u_iret h hRT dX5_restore_33 (by omega) (by omega) (by first | (simp [nxN, nxZ, nxP, c1]; done) | (exfalso; simp_all; done) | (simp_all [nxN, nxZ, nxP, c1]; done))
  · refine u_bipush (v := (-5)) h dX5_restore_7 (by decide) rfl ?_
    exact u_iret h hRT dX5_restore_9 (by omega) (by omega) (by first | (simp [nxN, nxZ, nxP, c1]; done) | (exfalso; simp_all; done) | (simp_all [nxN, nxZ, nxP, c1]; done))

theorem flX5_stepsToFinish_7 : FL wsX5_stepsToFinish RX5 7 5 0 := ⟨RX5, TX5, 18, rfl, by decide, by decide +kernel, by decide +kernel⟩
theorem flX5_stepsToFinish_13 : FL wsX5_stepsToFinish RX5 13 5 1 := ⟨RX5, TX5, 18, rfl, by decide, by decide +kernel, by decide +kernel⟩
set_option maxRecDepth 20000 in
theorem cwX5_stepsToFinish_X5_copyRow : CWd wsX5_stepsToFinish (wsS RX5 55 yX5_copyRow wsX5_copyRow) yX5_copyRow wsX5_copyRow cX5_copyRow 6 none 5 := ⟨gX5_stepsToFinish_X5_copyRow, ⟨_, rfl⟩, by decide +kernel, by decide, by decide⟩
set_option maxRecDepth 20000 in
theorem cwX5_stepsToFinish_X5_finishAll : CWd wsX5_stepsToFinish (wsV RX5 122 RX5 yX5_finishAll wsX5_finishAll) yX5_finishAll wsX5_finishAll cX5_finishAll 3 (some .int) 0 := ⟨gX5_stepsToFinish_X5_finishAll, ⟨_, rfl⟩, by decide +kernel, by decide, by decide⟩
set_option maxHeartbeats 8000000 in
set_option maxRecDepth 100000 in
theorem kX5_stepsToFinish (G : Gx) (h0 : Nat) (q : Nat → Nat) (st ik ln sT fm bo bt : Int32) (z : Zf) (sp : Zf) (N : Nat) (hF : FiOk z N) : MC G yX5_stepsToFinish wsX5_stepsToFinish ({ frames := 4, cells := 0, slots := 0, locals := 91 } : Room) [.ref h0] [(h0, .inr (5, mO q st ik ln sT fm bo bt)), ((q 0), aI G 86 z), ((q 1), aI G 86 sp)] (fun v' u' => v' = some (.int (finA z N)) ∧ u' = [(h0, .inr (5, mO q st ik ln sT fm bo bt)), ((q 0), aI G 86 (va_cpy (va_cpy z sp 0 0 86) (frZ z N) 0 0 86)), ((q 1), aI G 86 (va_cpy z sp 0 0 86))]) 0 0 := by
  refine mc_of (cc := cX5_stepsToFinish) (maxL := 2) (ret := (some .int)) (by decide) rfl (Nat.le_of_ble_eq_true rfl) (fun X h hR hL hRT => ?_)
  refine u_eql (lv' := [(0, .ref h0)]) rfl ?_
  refine u_aload_n h dX5_stepsToFinish_0 rfl 0 rfl rfl ?_
  refine u_get h flX5_stepsToFinish_7 0 (v := .ref (q 0)) rfl rfl dX5_stepsToFinish_1 rfl ?_
  refine u_iconst (v := 0) h dX5_stepsToFinish_4 (by decide) rfl ?_
  refine u_aload_n h dX5_stepsToFinish_5 rfl 0 rfl rfl ?_
  refine u_get h flX5_stepsToFinish_13 0 (v := .ref (q 1)) rfl rfl dX5_stepsToFinish_6 rfl ?_
  refine u_iconst (v := 0) h dX5_stepsToFinish_9 (by decide) rfl ?_
  refine u_bipush (v := 86) h dX5_stepsToFinish_10 (by decide) rfl ?_
  refine u_callS h (As := [.ref (q 0), .int 0, .ref (q 1), .int 0, .int 86]) (wc := [((q 0), aI G 86 z), ((q 1), aI G 86 sp)]) (wr := [(h0, .inr (5, mO q st ik ln sT fm bo bt))]) (kX5_copyRow G (q 0) (q 1) 86 86 0 0 86 z sp (by omega) (by omega) (by omega) (by omega)) cwX5_stepsToFinish_X5_copyRow rfl rfl hR ⟨⟨rfl, rfl⟩, by decide, by decide⟩ ⟨Nat.le_of_ble_eq_true rfl, Nat.le_of_ble_eq_true rfl⟩ [1, 2] [0] rfl rfl rfl rfl (by decide) (Nat.le_of_ble_eq_true rfl) rfl dX5_stepsToFinish_12 rfl (fun v9 u9 hp9 => ?_)
  obtain ⟨rfl, rfl⟩ := hp9
  refine u_wp (ws' := [(h0, .inr (5, mO q st ik ln sT fm bo bt)), ((q 0), aI G 86 z), ((q 1), aI G 86 (va_cpy z sp 0 0 86))]) [0, 1, 2] rfl rfl ?_
  refine u_eqs (st' := []) rfl ?_
  refine u_aload_n h dX5_stepsToFinish_15 rfl 0 rfl rfl ?_
  refine u_callV h (As := []) (wc := [(h0, .inr (5, mO q st ik ln sT fm bo bt)), ((q 0), aI G 86 z)]) (wr := [((q 1), aI G 86 (va_cpy z sp 0 0 86))]) (kX5_finishAll G h0 (q 0) (mO q st ik ln sT fm bo bt) rfl z  N hF) cwX5_stepsToFinish_X5_finishAll rfl rfl hR ⟨⟨rfl, rfl⟩, by decide, by decide⟩ ⟨Nat.le_of_ble_eq_true rfl, Nat.le_of_ble_eq_true rfl⟩ (ci := 5) (qr := 0) rfl rfl [0, 1] [2] rfl rfl rfl rfl (by decide) (Nat.le_of_ble_eq_true rfl) rfl dX5_stepsToFinish_16 rfl (fun v9 u9 hp9 => ?_)
  obtain ⟨rfl, rfl⟩ := hp9
  refine u_wp (ws' := [(h0, .inr (5, mO q st ik ln sT fm bo bt)), ((q 0), aI G 86 (frZ z N)), ((q 1), aI G 86 (va_cpy z sp 0 0 86))]) [1, 2, 0] rfl rfl ?_
  refine u_eqs (st' := [.int (finA z N)]) rfl ?_
  refine u_istore_n (lv' := [(1, .int (finA z N)), (0, .ref h0)]) h dX5_stepsToFinish_19 rfl (by rw [hL]; decide) rfl rfl ?_
  refine u_aload_n h dX5_stepsToFinish_20 rfl 1 rfl rfl ?_
  refine u_get h flX5_stepsToFinish_13 0 (v := .ref (q 1)) rfl rfl dX5_stepsToFinish_21 rfl ?_
  refine u_iconst (v := 0) h dX5_stepsToFinish_24 (by decide) rfl ?_
  refine u_aload_n h dX5_stepsToFinish_25 rfl 1 rfl rfl ?_
  refine u_get h flX5_stepsToFinish_7 0 (v := .ref (q 0)) rfl rfl dX5_stepsToFinish_26 rfl ?_
  refine u_iconst (v := 0) h dX5_stepsToFinish_29 (by decide) rfl ?_
  refine u_bipush (v := 86) h dX5_stepsToFinish_30 (by decide) rfl ?_
  refine u_callS h (As := [.ref (q 1), .int 0, .ref (q 0), .int 0, .int 86]) (wc := [((q 1), aI G 86 (va_cpy z sp 0 0 86)), ((q 0), aI G 86 (frZ z N))]) (wr := [(h0, .inr (5, mO q st ik ln sT fm bo bt))]) (kX5_copyRow G (q 1) (q 0) 86 86 0 0 86 (va_cpy z sp 0 0 86) (frZ z N) (by omega) (by omega) (by omega) (by omega)) cwX5_stepsToFinish_X5_copyRow rfl rfl hR ⟨⟨rfl, rfl⟩, by decide, by decide⟩ ⟨Nat.le_of_ble_eq_true rfl, Nat.le_of_ble_eq_true rfl⟩ [2, 1] [0] rfl rfl rfl rfl (by decide) (Nat.le_of_ble_eq_true rfl) rfl dX5_stepsToFinish_32 rfl (fun v9 u9 hp9 => ?_)
  obtain ⟨rfl, rfl⟩ := hp9
  refine u_wp (ws' := [(h0, .inr (5, mO q st ik ln sT fm bo bt)), ((q 0), aI G 86 (va_cpy (va_cpy z sp 0 0 86) (frZ z N) 0 0 86)), ((q 1), aI G 86 (va_cpy z sp 0 0 86))]) [0, 2, 1] rfl rfl ?_
  refine u_eqs (st' := []) rfl ?_
  refine u_iload_n h dX5_stepsToFinish_35 rfl 0 rfl rfl ?_
  exact u_iret h hRT dX5_stepsToFinish_36 (by omega) (by omega) (by exact ⟨rfl, rfl⟩)

theorem flX5_type_125 : FL wsX5_type RX5 125 5 7 := ⟨RX5, TX5, 18, rfl, by decide, by decide +kernel, by decide +kernel⟩
theorem flX5_type_22 : FL wsX5_type RX5 22 5 6 := ⟨RX5, TX5, 18, rfl, by decide, by decide +kernel, by decide +kernel⟩
theorem fwX5_type_125 : FW wsX5_type RX5 125 5 7 false .int := ⟨RX5, TX5, 18, tyX5, rfl, by decide, by decide +kernel, by decide +kernel, tyX5_ok, nmX5, rfl, by decide +kernel, rfl⟩
set_option maxHeartbeats 8000000 in
set_option maxRecDepth 100000 in
theorem kX5_type (G : Gx) (h0 : Nat) (q : Nat → Nat) (ln : Nat) (hln : ln ≤ 60) (st ik sT fm bo bt ch : Int32) (t : Zf) : MC G yX5_type wsX5_type ({ frames := 0, cells := 0, slots := 0, locals := 0 } : Room) [.ref h0, .int ch] [(h0, .inr (5, mO q st ik (nI ln) sT fm bo bt)), ((q 4), aI G 60 t)] (fun v' u' => v' = some (.int (if ln = 60 then -3 else nI (ln + 1))) ∧ u' = [(h0, .inr (5, mO q st ik (nI (if ln = 60 then 60 else ln + 1)) sT fm bo bt)), ((q 4), aI G 60 (if ln = 60 then t else upd t ln ch))]) 0 0 := by
  refine mc_of (cc := cX5_type) (maxL := 2) (ret := (some .int)) (by decide) rfl (Nat.le_of_ble_eq_true rfl) (fun X h hR hL hRT => ?_)
  refine u_eql (lv' := [(0, .ref h0), (1, .int ch)]) rfl ?_
  refine u_aload_n h dX5_type_0 rfl 0 rfl rfl ?_
  refine u_get h flX5_type_125 0 (v := .int (nI ln)) rfl rfl dX5_type_1 rfl ?_
  refine u_bipush (v := 60) h dX5_type_4 (by decide) rfl ?_
  refine u_icmp_ne_N (a := ln) (b := 60) (tgt := 12) h dX5_type_6 (by decide) (by omega) (by omega) rfl (fun c1 => ?_) (fun c1 => ?_)
  · refine u_aload_n h dX5_type_12 rfl 0 rfl rfl ?_
    refine u_get h flX5_type_22 0 (v := .ref (q 4)) rfl rfl dX5_type_13 rfl ?_
    refine u_aload_n h dX5_type_16 rfl 0 rfl rfl ?_
    refine u_get h flX5_type_125 0 (v := .int (nI ln)) rfl rfl dX5_type_17 rfl ?_
    refine u_iload_n h dX5_type_20 rfl 1 rfl rfl ?_
    refine u_iast h (n := ln) (v := ch) 1 rfl (by omega) (by omega) rfl (ws' := [(h0, .inr (5, mO q st ik (nI ln) sT fm bo bt)), ((q 4), aI G 60 (upd t ln ch))]) rfl dX5_type_21 rfl ?_
    refine u_aload_n h dX5_type_22 rfl 0 rfl rfl ?_
    refine u_dup h dX5_type_23 rfl rfl ?_
    refine u_get h flX5_type_125 0 (v := .int (nI ln)) rfl rfl dX5_type_24 rfl ?_
    refine u_iconst (v := 1) h dX5_type_27 (by decide) rfl ?_
    refine u_iadd (v := (nI (ln + 1))) h dX5_type_28 (nI_add ln 1) rfl ?_
    refine u_put h fwX5_type_125 (ws' := [(h0, .inr (5, mO q st ik (nI (ln + 1)) sT fm bo bt)), ((q 4), aI G 60 (upd t ln ch))]) 0 rfl (Nat.le_of_ble_eq_true rfl) rfl rfl rfl dX5_type_29 rfl ?_
    refine u_aload_n h dX5_type_32 rfl 0 rfl rfl ?_
    refine u_get h flX5_type_125 0 (v := .int (nI (ln + 1))) rfl rfl dX5_type_33 rfl ?_
    exact u_iret h hRT dX5_type_36 (by omega) (by omega) (by first | (simp [c1]; done) | (exfalso; simp_all; done) | (simp_all [c1]; done))
  · refine u_bipush (v := (-3)) h dX5_type_9 (by decide) rfl ?_
    exact u_iret h hRT dX5_type_11 (by omega) (by omega) (by first | (simp [c1]; done) | (exfalso; simp_all; done) | (simp_all [c1]; done))

theorem flX5_clearText_125 : FL wsX5_clearText RX5 125 5 7 := ⟨RX5, TX5, 18, rfl, by decide, by decide +kernel, by decide +kernel⟩
theorem fwX5_clearText_125 : FW wsX5_clearText RX5 125 5 7 false .int := ⟨RX5, TX5, 18, tyX5, rfl, by decide, by decide +kernel, by decide +kernel, tyX5_ok, nmX5, rfl, by decide +kernel, rfl⟩
set_option maxHeartbeats 8000000 in
set_option maxRecDepth 100000 in
theorem kX5_clearText (G : Gx) (h0 : Nat) (q : Nat → Nat) (st ik ln sT fm bo bt : Int32) : MC G yX5_clearText wsX5_clearText ({ frames := 0, cells := 0, slots := 0, locals := 0 } : Room) [.ref h0] [(h0, .inr (5, mO q st ik ln sT fm bo bt))] (fun v' u' => v' = some (.int ln) ∧ u' = [(h0, .inr (5, mO q st ik 0 sT fm bo bt))]) 0 0 := by
  refine mc_of (cc := cX5_clearText) (maxL := 2) (ret := (some .int)) (by decide) rfl (Nat.le_of_ble_eq_true rfl) (fun X h hR hL hRT => ?_)
  refine u_eql (lv' := [(0, .ref h0)]) rfl ?_
  refine u_aload_n h dX5_clearText_0 rfl 0 rfl rfl ?_
  refine u_get h flX5_clearText_125 0 (v := .int ln) rfl rfl dX5_clearText_1 rfl ?_
  refine u_istore_n (lv' := [(1, .int ln), (0, .ref h0)]) h dX5_clearText_4 rfl (by rw [hL]; decide) rfl rfl ?_
  refine u_aload_n h dX5_clearText_5 rfl 1 rfl rfl ?_
  refine u_iconst (v := 0) h dX5_clearText_6 (by decide) rfl ?_
  refine u_put h fwX5_clearText_125 (ws' := [(h0, .inr (5, mO q st ik 0 sT fm bo bt))]) 0 rfl (Nat.le_of_ble_eq_true rfl) rfl rfl rfl dX5_clearText_7 rfl ?_
  refine u_iload_n h dX5_clearText_10 rfl 0 rfl rfl ?_
  exact u_iret h hRT dX5_clearText_11 (by omega) (by omega) (by exact ⟨rfl, rfl⟩)
