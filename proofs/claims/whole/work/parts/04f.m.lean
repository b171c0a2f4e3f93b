theorem flX5_orders_7 : FL wsX5_orders RX5 7 5 0 := ⟨RX5, TX5, 18, rfl, by decide, by decide +kernel, by decide +kernel⟩
theorem flX5_orders_13 : FL wsX5_orders RX5 13 5 1 := ⟨RX5, TX5, 18, rfl, by decide, by decide +kernel, by decide +kernel⟩
theorem fwX5_orders_143 : FW wsX5_orders RX5 143 5 15 false .int := ⟨RX5, TX5, 18, tyX5, rfl, by decide, by decide +kernel, by decide +kernel, tyX5_ok, nmX5, rfl, by decide +kernel, rfl⟩
theorem fwX5_orders_146 : FW wsX5_orders RX5 146 5 16 false .int := ⟨RX5, TX5, 18, tyX5, rfl, by decide, by decide +kernel, by decide +kernel, tyX5_ok, nmX5, rfl, by decide +kernel, rfl⟩
theorem fwX5_orders_149 : FW wsX5_orders RX5 149 5 17 false .int := ⟨RX5, TX5, 18, tyX5, rfl, by decide, by decide +kernel, by decide +kernel, tyX5_ok, nmX5, rfl, by decide +kernel, rfl⟩
theorem flX5_orders_143 : FL wsX5_orders RX5 143 5 15 := ⟨RX5, TX5, 18, rfl, by decide, by decide +kernel, by decide +kernel⟩
set_option maxRecDepth 20000 in
theorem cwX5_orders_X5_isVisitor : CWd wsX5_orders (wsS RX5 100 yX5_isVisitor wsX5_isVisitor) yX5_isVisitor wsX5_isVisitor cX5_isVisitor 1 (some .boolean) 1 := ⟨gX5_orders_X5_isVisitor, ⟨_, rfl⟩, by decide +kernel, by decide, by decide⟩
set_option maxRecDepth 20000 in
theorem cwX5_orders_X5_in : CWd wsX5_orders (wsS RX5 47 yX5_in wsX5_in) yX5_in wsX5_in cX5_in 3 (some .boolean) 3 := ⟨gX5_orders_X5_in, ⟨_, rfl⟩, by decide +kernel, by decide, by decide⟩
set_option maxRecDepth 20000 in
theorem cwX5_orders_X5_copyRow : CWd wsX5_orders (wsS RX5 55 yX5_copyRow wsX5_copyRow) yX5_copyRow wsX5_copyRow cX5_copyRow 6 none 5 := ⟨gX5_orders_X5_copyRow, ⟨_, rfl⟩, by decide +kernel, by decide, by decide⟩
set_option maxRecDepth 20000 in
theorem cwX5_orders_X5_collect : CWd wsX5_orders (wsV RX5 155 RX5 yX5_collect wsX5_collect) yX5_collect wsX5_collect cX5_collect 4 (some .boolean) 0 := ⟨gX5_orders_X5_collect, ⟨_, rfl⟩, by decide +kernel, by decide, by decide⟩
set_option maxRecDepth 20000 in
theorem cwX5_orders_X5_countFound : CWd wsX5_orders (wsV RX5 162 RX5 yX5_countFound wsX5_countFound) yX5_countFound wsX5_countFound cX5_countFound 8 (some .int) 3 := ⟨gX5_orders_X5_countFound, ⟨_, rfl⟩, by decide +kernel, by decide, by decide⟩
set_option maxRecDepth 20000 in
theorem cwX5_orders_X5_follow : CWd wsX5_orders (wsV RX5 159 RX5 yX5_follow wsX5_follow) yX5_follow wsX5_follow cX5_follow 5 (some .boolean) 3 := ⟨gX5_orders_X5_follow, ⟨_, rfl⟩, by decide +kernel, by decide, by decide⟩
set_option maxHeartbeats 8000000 in
set_option maxRecDepth 100000 in
theorem kX5_orders (G : Gx) (h0 : Nat) (q : Nat → Nat) (st ik ln sT fm bo bt : Int32) (z sp f : Zf) (x y w : Int32) (J : Nat) (hO : okO x y w = true → OrOk f z (ix x) (ix y) J) : MC G yX5_orders wsX5_orders ({ frames := 3, cells := 0, slots := 0, locals := 73 } : Room) [.ref h0, .int x, .int y, .int w] [(h0, .inr (5, mO q st ik ln sT fm bo bt)), ((q 0), aI G 86 z), ((q 1), aI G 86 sp), ((q 10), aI G 16500 f)] (fun v' u' => ∃ (sp' f' : Zf) (fm' bo' bt' : Int32), v' = some (.int (ordA f z x y w J)) ∧ u' = [(h0, .inr (5, mO q st ik ln sT fm' bo' bt')), ((q 0), aI G 86 z), ((q 1), aI G 86 sp'), ((q 10), aI G 16500 f')]) 0 0 := by
  refine mc_of (cc := cX5_orders) (maxL := 6) (ret := (some .int)) (by decide) rfl (Nat.le_of_ble_eq_true rfl) (fun X h hR hL hRT => ?_)
  refine u_eql (lv' := [(0, .ref h0), (1, .int x), (2, .int y), (3, .int w)]) rfl ?_
  refine u_iload_n h dX5_orders_0 rfl 1 rfl rfl ?_
  refine u_callS h (As := [.int x]) (wc := []) (wr := [(h0, .inr (5, mO q st ik ln sT fm bo bt)), ((q 0), aI G 86 z), ((q 1), aI G 86 sp), ((q 10), aI G 16500 f)]) (kX5_isVisitor G x) cwX5_orders_X5_isVisitor rfl rfl hR ⟨⟨rfl, rfl⟩, by decide, by decide⟩ ⟨Nat.le_of_ble_eq_true rfl, Nat.le_of_ble_eq_true rfl⟩ [] [0, 1, 2, 3] rfl rfl rfl rfl (by decide) (Nat.le_of_ble_eq_true rfl) rfl dX5_orders_1 rfl (fun v9 u9 hp9 => ?_)
  obtain ⟨rfl, rfl⟩ := hp9
  refine u_wp (ws' := [(h0, .inr (5, mO q st ik ln sT fm bo bt)), ((q 0), aI G 86 z), ((q 1), aI G 86 sp), ((q 10), aI G 16500 f)]) [0, 1, 2, 3] rfl rfl ?_
  refine u_eqs (st' := [.int (bI (isV x))]) rfl ?_
  refine u_if_eq_B (tgt := 14) h dX5_orders_4 (by decide) rfl (fun c1 => ?_) (fun c1 => ?_)
  · refine u_iconst (v := (-1)) h dX5_orders_14 (by decide) rfl ?_
    exact u_iret h hRT dX5_orders_15 (by omega) (by omega) (by exact ⟨sp, f, fm, bo, bt, by simp [ordA, c1], rfl⟩)
  · refine u_iload_n h dX5_orders_7 rfl 2 rfl rfl ?_
    refine u_callS h (As := [.int y]) (wc := []) (wr := [(h0, .inr (5, mO q st ik ln sT fm bo bt)), ((q 0), aI G 86 z), ((q 1), aI G 86 sp), ((q 10), aI G 16500 f)]) (kX5_isVisitor G y) cwX5_orders_X5_isVisitor rfl rfl hR ⟨⟨rfl, rfl⟩, by decide, by decide⟩ ⟨Nat.le_of_ble_eq_true rfl, Nat.le_of_ble_eq_true rfl⟩ [] [0, 1, 2, 3] rfl rfl rfl rfl (by decide) (Nat.le_of_ble_eq_true rfl) rfl dX5_orders_8 rfl (fun v9 u9 hp9 => ?_)
    obtain ⟨rfl, rfl⟩ := hp9
    refine u_wp (ws' := [(h0, .inr (5, mO q st ik ln sT fm bo bt)), ((q 0), aI G 86 z), ((q 1), aI G 86 sp), ((q 10), aI G 16500 f)]) [0, 1, 2, 3] rfl rfl ?_
    refine u_eqs (st' := [.int (bI (isV y))]) rfl ?_
    refine u_if_ne_B (tgt := 16) h dX5_orders_11 (by decide) rfl (fun c2 => ?_) (fun c2 => ?_)
    · obtain ⟨a, ha, rfl⟩ := isV_nat c1
      obtain ⟨b, hb, rfl⟩ := isV_nat c2
      refine u_iload_n h dX5_orders_16 rfl 3 rfl rfl ?_
      refine u_iconst (v := 0) h dX5_orders_17 (by decide) rfl ?_
      refine u_iconst (v := 2) h dX5_orders_18 (by decide) rfl ?_
      refine u_callS h (As := [.int w, .int 0, .int 2]) (wc := []) (wr := [(h0, .inr (5, mO q st ik ln sT fm bo bt)), ((q 0), aI G 86 z), ((q 1), aI G 86 sp), ((q 10), aI G 16500 f)]) (kX5_in G w 0 2) cwX5_orders_X5_in rfl rfl hR ⟨⟨rfl, rfl⟩, by decide, by decide⟩ ⟨Nat.le_of_ble_eq_true rfl, Nat.le_of_ble_eq_true rfl⟩ [] [0, 1, 2, 3] rfl rfl rfl rfl (by decide) (Nat.le_of_ble_eq_true rfl) rfl dX5_orders_19 rfl (fun v9 u9 hp9 => ?_)
      obtain ⟨rfl, rfl⟩ := hp9
      refine u_wp (ws' := [(h0, .inr (5, mO q st ik ln sT fm bo bt)), ((q 0), aI G 86 z), ((q 1), aI G 86 sp), ((q 10), aI G 16500 f)]) [0, 1, 2, 3] rfl rfl ?_
      refine u_eqs (st' := [.int (bI (inB w 0 2))]) rfl ?_
      refine u_if_eq_B (tgt := 30) h dX5_orders_22 (by decide) rfl (fun c3 => ?_) (fun c3 => ?_)
      · refine u_bipush (v := (-2)) h dX5_orders_30 (by decide) rfl ?_
        exact u_iret h hRT dX5_orders_32 (by omega) (by omega) (by exact ⟨sp, f, fm, bo, bt, by simp [ordA, c1, c2, c3], rfl⟩)
      · refine u_iload_n h dX5_orders_25 rfl 1 rfl rfl ?_
        refine u_iload_n h dX5_orders_26 rfl 2 rfl rfl ?_
        refine u_icmp_ne_N (a := a) (b := b) (tgt := 33) h dX5_orders_27 (by decide) (by omega) (by omega) rfl (fun c4 => ?_) (fun c4 => ?_)
        · have hab : ¬ nI a = nI b := fun q9 => c4 ((nI_eq (by omega) (by omega)).mp q9)
          have hJ := hO (by simp [okO, isV_nI ha, isV_nI hb, c3, hab])
          rw [ix_nI (show a < 2 ^ 31 by omega), ix_nI (show b < 2 ^ 31 by omega)] at hJ
          refine u_aload_n h dX5_orders_33 rfl 0 rfl rfl ?_
          refine u_get h flX5_orders_7 0 (v := .ref (q 0)) rfl rfl dX5_orders_34 rfl ?_
          refine u_iconst (v := 0) h dX5_orders_37 (by decide) rfl ?_
          refine u_aload_n h dX5_orders_38 rfl 0 rfl rfl ?_
          refine u_get h flX5_orders_13 0 (v := .ref (q 1)) rfl rfl dX5_orders_39 rfl ?_
          refine u_iconst (v := 0) h dX5_orders_42 (by decide) rfl ?_
          refine u_bipush (v := 86) h dX5_orders_43 (by decide) rfl ?_
          refine u_callS h (As := [.ref (q 0), .int 0, .ref (q 1), .int 0, .int 86]) (wc := [((q 0), aI G 86 z), ((q 1), aI G 86 sp)]) (wr := [(h0, .inr (5, mO q st ik ln sT fm bo bt)), ((q 10), aI G 16500 f)]) (kX5_copyRow G (q 0) (q 1) 86 86 0 0 86 z sp (by omega) (by omega) (by omega) (by omega)) cwX5_orders_X5_copyRow rfl rfl hR ⟨⟨rfl, rfl⟩, by decide, by decide⟩ ⟨Nat.le_of_ble_eq_true rfl, Nat.le_of_ble_eq_true rfl⟩ [1, 2] [0, 3] rfl rfl rfl rfl (by decide) (Nat.le_of_ble_eq_true rfl) rfl dX5_orders_45 rfl (fun v9 u9 hp9 => ?_)
          obtain ⟨rfl, rfl⟩ := hp9
          refine u_wp (ws' := [(h0, .inr (5, mO q st ik ln sT fm bo bt)), ((q 0), aI G 86 z), ((q 1), aI G 86 (va_cpy z sp 0 0 86)), ((q 10), aI G 16500 f)]) [0, 2, 3, 1] rfl rfl ?_
          refine u_eqs (st' := []) rfl ?_
          refine u_aload_n h dX5_orders_48 rfl 0 rfl rfl ?_
          refine u_iconst (v := 0) h dX5_orders_49 (by decide) rfl ?_
          refine u_put h fwX5_orders_143 (ws' := [(h0, .inr (5, mO q st ik ln sT 0 bo bt)), ((q 0), aI G 86 z), ((q 1), aI G 86 (va_cpy z sp 0 0 86)), ((q 10), aI G 16500 f)]) 0 rfl (Nat.le_of_ble_eq_true rfl) rfl rfl rfl dX5_orders_50 rfl ?_
          refine u_aload_n h dX5_orders_53 rfl 0 rfl rfl ?_
          refine u_iconst (v := 0) h dX5_orders_54 (by decide) rfl ?_
          refine u_put h fwX5_orders_146 (ws' := [(h0, .inr (5, mO q st ik ln sT 0 0 bt)), ((q 0), aI G 86 z), ((q 1), aI G 86 (va_cpy z sp 0 0 86)), ((q 10), aI G 16500 f)]) 0 rfl (Nat.le_of_ble_eq_true rfl) rfl rfl rfl dX5_orders_55 rfl ?_
          refine u_aload_n h dX5_orders_58 rfl 0 rfl rfl ?_
          refine u_iconst (v := 0) h dX5_orders_59 (by decide) rfl ?_
          refine u_put h fwX5_orders_149 (ws' := [(h0, .inr (5, mO q st ik ln sT 0 0 0)), ((q 0), aI G 86 z), ((q 1), aI G 86 (va_cpy z sp 0 0 86)), ((q 10), aI G 16500 f)]) 0 rfl (Nat.le_of_ble_eq_true rfl) rfl rfl rfl dX5_orders_60 rfl ?_
          refine u_aload_n h dX5_orders_63 rfl 0 rfl rfl ?_
          refine u_callV h (As := []) (wc := [(h0, .inr (5, mO q st ik ln sT 0 0 0)), ((q 0), aI G 86 z), ((q 10), aI G 16500 f)]) (wr := [((q 1), aI G 86 (va_cpy z sp 0 0 86))]) (kX5_collect G h0 q st ik ln sT 0 (by omega) 0 0 z f) cwX5_orders_X5_collect rfl rfl hR ⟨⟨rfl, rfl⟩, by decide, by decide⟩ ⟨Nat.le_of_ble_eq_true rfl, Nat.le_of_ble_eq_true rfl⟩ (ci := 5) (qr := 0) rfl rfl [0, 1, 3] [2] rfl rfl rfl rfl (by decide) (Nat.le_of_ble_eq_true rfl) rfl dX5_orders_64 rfl (fun v9 u9 hp9 => ?_)
          obtain ⟨rfl, rfl⟩ := hp9
          refine u_wp (ws' := [(h0, .inr (5, mO q st ik ln sT (nI (colN f z 0 0 0)) 0 0)), ((q 0), aI G 86 z), ((q 1), aI G 86 (va_cpy z sp 0 0 86)), ((q 10), aI G 16500 (colR f z 0 0 0))]) [1, 2, 0, 3] rfl rfl ?_
          refine u_eqs (st' := [.int (bI (colB f z 0 0 0))]) rfl ?_
          refine u_istore (lv' := [(4, .int (bI (colB f z 0 0 0))), (0, .ref h0), (1, .int (nI a)), (2, .int (nI b)), (3, .int w)]) h dX5_orders_67 (by rw [hL]; decide) rfl rfl ?_
          refine u_iconst (v := 0) h dX5_orders_69 (by decide) rfl ?_
          refine u_istore (lv' := [(5, .int 0), (4, .int (bI (colB f z 0 0 0))), (0, .ref h0), (1, .int (nI a)), (2, .int (nI b)), (3, .int w)]) h dX5_orders_70 (by rw [hL]; decide) rfl rfl ?_
          have LL : ∀ (k9 : Nat) (k : Nat) (ft : Bool) (n : Nat) (bo : Int32) (bt : Int32) (y9 : Zf) (e : Zf), J - k = k9 → (k ≤ J) → (e = (orS f z a b k).1) → (n = (orS f z a b k).2.1) → (ft = (orS f z a b k).2.2) → (∀ j : Nat, 53 ≤ j → y9 j = z j) → U G X 0 0 [(h0, .inr (5, mO q st ik ln sT (nI n) bo bt)), ((q 0), aI G 86 y9), ((q 1), aI G 86 (va_cpy z sp 0 0 86)), ((q 10), aI G 16500 e)] 72 [(5, .int (nI k)), (4, .int (bI ft)), (0, .ref h0), (1, .int (nI a)), (2, .int (nI b)), (3, .int w)] [] := by
            intro k9
            induction k9 using Nat.strongRecOn with
            | _ k9 ihL =>
              intro k ft n bo bt y9 e hk9 hk hf hn hK hw
              subst hk9
              have hn3 : n ≤ 300 := by rw [hn]; exact orS_le _ _ _ _ _
              have hJ3 := hJ.2.2.2
              refine u_iload h dX5_orders_72 0 rfl rfl ?_
              refine u_aload_n h dX5_orders_74 rfl 2 rfl rfl ?_
              refine u_get h flX5_orders_143 0 (v := .int (nI n)) rfl rfl dX5_orders_75 rfl ?_
              refine u_icmp_ge_N (a := k) (b := n) (tgt := 102) h dX5_orders_78 (by decide) (by omega) (by omega) rfl (fun c5 => ?_) (fun c5 => ?_)
              · have eJ : k = J := or_eq hJ hk (Or.inl (by rw [← hn]; omega))
                subst eJ
                refine u_iload h dX5_orders_102 1 rfl rfl ?_
                refine u_if_ne_B (tgt := 112) h dX5_orders_104 (by decide) rfl (fun c6 => ?_) (fun c6 => ?_)
                · refine u_iload_n h dX5_orders_112 rfl 5 rfl rfl ?_
                  refine u_if_ne (tgt := 123) h dX5_orders_113 (by decide) rfl (fun c7 => ?_) (fun c7 => ?_)
                  · refine u_aload_n h dX5_orders_123 rfl 2 rfl rfl ?_
                    have hW9 : ∀ k9 : Nat, k9 < n → Wf (tkZ e z k9) := fun k9 h9 => by rw [hf]; exact hJ.2.2.1 k k9 (Nat.le_refl _) (by rw [← hn]; exact h9)
                    refine u_iload_n h dX5_orders_124 rfl 3 rfl rfl ?_
                    refine u_iload_n h dX5_orders_125 rfl 4 rfl rfl ?_
                    refine u_iload_n h dX5_orders_126 rfl 5 rfl rfl ?_
                    refine u_iconst (v := 1) h dX5_orders_127 (by decide) rfl ?_
                    have J8 : ∀ x9 : Int32, x9 = (bI (decide (w = 1))) → U G X 0 0 [(h0, .inr (5, mO q st ik ln sT (nI n) bo bt)), ((q 0), aI G 86 y9), ((q 1), aI G 86 (va_cpy z sp 0 0 86)), ((q 10), aI G 16500 e)] 136 [(5, .int (nI k)), (4, .int (bI ft)), (0, .ref h0), (1, .int (nI a)), (2, .int (nI b)), (3, .int w)] [.int x9, .int (nI b), .int (nI a), .ref h0] := by
                      intro x9 e9
                      subst e9
                      refine u_callV h (As := [.int (nI a), .int (nI b), .int (bI (decide (w = 1)))]) (wc := [(h0, .inr (5, mO q st ik ln sT (nI n) bo bt)), ((q 0), aI G 86 y9), ((q 10), aI G 16500 e)]) (wr := [((q 1), aI G 86 (va_cpy z sp 0 0 86))]) (kX5_countFound G h0 q st ik ln sT n hn3 bo bt z y9 e hw a b (decide (w = 1)) ha hb hW9) cwX5_orders_X5_countFound rfl rfl hR ⟨⟨rfl, rfl⟩, by decide, by decide⟩ ⟨Nat.le_of_ble_eq_true rfl, Nat.le_of_ble_eq_true rfl⟩ (ci := 5) (qr := 0) rfl rfl [0, 1, 3] [2] rfl rfl rfl rfl (by decide) (Nat.le_of_ble_eq_true rfl) rfl dX5_orders_136 rfl (fun v9 u9 hp9 => ?_)
                      obtain ⟨z9, bo9, bt9, hz9, rfl, rfl⟩ := hp9
                      refine u_wp (ws' := [(h0, .inr (5, mO q st ik ln sT (nI n) bo9 bt9)), ((q 0), aI G 86 z9), ((q 1), aI G 86 (va_cpy z sp 0 0 86)), ((q 10), aI G 16500 e)]) [1, 2, 0, 3] rfl rfl ?_
                      refine u_eqs (st' := [.int (cfN e z a b (decide (w = 1)) n)]) rfl ?_
                      refine u_istore (lv' := [(5, .int (cfN e z a b (decide (w = 1)) n)), (4, .int (bI ft)), (0, .ref h0), (1, .int (nI a)), (2, .int (nI b)), (3, .int w)]) h dX5_orders_139 (by rw [hL]; decide) rfl rfl ?_
                      refine u_aload_n h dX5_orders_141 rfl 2 rfl rfl ?_
                      refine u_get h flX5_orders_13 0 (v := .ref (q 1)) rfl rfl dX5_orders_142 rfl ?_
                      refine u_iconst (v := 0) h dX5_orders_145 (by decide) rfl ?_
                      refine u_aload_n h dX5_orders_146 rfl 2 rfl rfl ?_
                      refine u_get h flX5_orders_7 0 (v := .ref (q 0)) rfl rfl dX5_orders_147 rfl ?_
                      refine u_iconst (v := 0) h dX5_orders_150 (by decide) rfl ?_
                      refine u_bipush (v := 86) h dX5_orders_151 (by decide) rfl ?_
                      refine u_callS h (As := [.ref (q 1), .int 0, .ref (q 0), .int 0, .int 86]) (wc := [((q 1), aI G 86 (va_cpy z sp 0 0 86)), ((q 0), aI G 86 z9)]) (wr := [(h0, .inr (5, mO q st ik ln sT (nI n) bo9 bt9)), ((q 10), aI G 16500 e)]) (kX5_copyRow G (q 1) (q 0) 86 86 0 0 86 (va_cpy z sp 0 0 86) z9 (by omega) (by omega) (by omega) (by omega)) cwX5_orders_X5_copyRow rfl rfl hR ⟨⟨rfl, rfl⟩, by decide, by decide⟩ ⟨Nat.le_of_ble_eq_true rfl, Nat.le_of_ble_eq_true rfl⟩ [2, 1] [0, 3] rfl rfl rfl rfl (by decide) (Nat.le_of_ble_eq_true rfl) rfl dX5_orders_153 rfl (fun v9 u9 hp9 => ?_)
                      obtain ⟨rfl, rfl⟩ := hp9
                      refine u_wp (ws' := [(h0, .inr (5, mO q st ik ln sT (nI n) bo9 bt9)), ((q 0), aI G 86 (va_cpy (va_cpy z sp 0 0 86) z9 0 0 86)), ((q 1), aI G 86 (va_cpy z sp 0 0 86)), ((q 10), aI G 16500 e)]) [0, 3, 2, 1] rfl rfl ?_
                      refine u_eqs (st' := []) rfl ?_
                      refine u_eqw (ws' := [(h0, .inr (5, mO q st ik ln sT (nI n) bo9 bt9)), ((q 0), aI G 86 z), ((q 1), aI G 86 (va_cpy z sp 0 0 86)), ((q 10), aI G 16500 e)]) (by rw [rest_eq hz9]) ?_
                      refine u_iload h dX5_orders_156 0 rfl rfl ?_
                      exact u_iret h hRT dX5_orders_158 (by omega) (by omega) (by exact ⟨(va_cpy z sp 0 0 86), e, (nI n), bo9, bt9, by simp [ordA, isV_nI ha, isV_nI hb, hab, ix_nI (show a < 2 ^ 31 by omega), ix_nI (show b < 2 ^ 31 by omega), ← hK, ← hn, ← hf, show inB (0 : Int32) 0 2 = true by decide, c3, c6, c7], rfl⟩)
                    refine u_icmp_ne (tgt := 135) h dX5_orders_128 (by decide) rfl (fun c10 => ?_) (fun c10 => ?_)
                    · refine u_iconst (v := 0) h dX5_orders_135 (by decide) rfl ?_
                      exact J8 _ (by first | (simp [bI, c1, c2, c3, c4, c5, c6, c7, c10]; done) | (exfalso; first | exact absurd (c1.symm.trans c2) (by decide) | exact absurd (c1.symm.trans c3) (by decide) | exact absurd (c1.symm.trans c4) (by decide) | exact absurd (c1.symm.trans c5) (by decide) | exact absurd (c1.symm.trans c6) (by decide) | exact absurd (c1.symm.trans c7) (by decide) | exact absurd (c1.symm.trans c10) (by decide) | exact absurd (c2.symm.trans c1) (by decide) | exact absurd (c2.symm.trans c3) (by decide) | exact absurd (c2.symm.trans c4) (by decide) | exact absurd (c2.symm.trans c5) (by decide) | exact absurd (c2.symm.trans c6) (by decide) | exact absurd (c2.symm.trans c7) (by decide) | exact absurd (c2.symm.trans c10) (by decide) | exact absurd (c3.symm.trans c1) (by decide) | exact absurd (c3.symm.trans c2) (by decide) | exact absurd (c3.symm.trans c4) (by decide) | exact absurd (c3.symm.trans c5) (by decide) | exact absurd (c3.symm.trans c6) (by decide) | exact absurd (c3.symm.trans c7) (by decide) | exact absurd (c3.symm.trans c10) (by decide) | exact absurd (c4.symm.trans c1) (by decide) | exact absurd (c4.symm.trans c2) (by decide) | exact absurd (c4.symm.trans c3) (by decide) | exact absurd (c4.symm.trans c5) (by decide) | exact absurd (c4.symm.trans c6) (by decide) | exact absurd (c4.symm.trans c7) (by decide) | exact absurd (c4.symm.trans c10) (by decide) | exact absurd (c5.symm.trans c1) (by decide) | exact absurd (c5.symm.trans c2) (by decide) | exact absurd (c5.symm.trans c3) (by decide) | exact absurd (c5.symm.trans c4) (by decide) | exact absurd (c5.symm.trans c6) (by decide) | exact absurd (c5.symm.trans c7) (by decide) | exact absurd (c5.symm.trans c10) (by decide) | exact absurd (c6.symm.trans c1) (by decide) | exact absurd (c6.symm.trans c2) (by decide) | exact absurd (c6.symm.trans c3) (by decide) | exact absurd (c6.symm.trans c4) (by decide) | exact absurd (c6.symm.trans c5) (by decide) | exact absurd (c6.symm.trans c7) (by decide) | exact absurd (c6.symm.trans c10) (by decide) | exact absurd (c7.symm.trans c1) (by decide) | exact absurd (c7.symm.trans c2) (by decide) | exact absurd (c7.symm.trans c3) (by decide) | exact absurd (c7.symm.trans c4) (by decide) | exact absurd (c7.symm.trans c5) (by decide) | exact absurd (c7.symm.trans c6) (by decide) | exact absurd (c7.symm.trans c10) (by decide) | exact absurd (c10.symm.trans c1) (by decide) | exact absurd (c10.symm.trans c2) (by decide) | exact absurd (c10.symm.trans c3) (by decide) | exact absurd (c10.symm.trans c4) (by decide) | exact absurd (c10.symm.trans c5) (by decide) | exact absurd (c10.symm.trans c6) (by decide) | exact absurd (c10.symm.trans c7) (by decide)))
                    · refine u_iconst (v := 1) h dX5_orders_131 (by decide) rfl ?_
                      refine u_goto (tgt := 136) h dX5_orders_132 (by decide) ?_
                      exact J8 _ (by first | (simp [bI, c1, c2, c3, c4, c5, c6, c7, c10]; done) | (exfalso; first | exact absurd (c1.symm.trans c2) (by decide) | exact absurd (c1.symm.trans c3) (by decide) | exact absurd (c1.symm.trans c4) (by decide) | exact absurd (c1.symm.trans c5) (by decide) | exact absurd (c1.symm.trans c6) (by decide) | exact absurd (c1.symm.trans c7) (by decide) | exact absurd (c1.symm.trans c10) (by decide) | exact absurd (c2.symm.trans c1) (by decide) | exact absurd (c2.symm.trans c3) (by decide) | exact absurd (c2.symm.trans c4) (by decide) | exact absurd (c2.symm.trans c5) (by decide) | exact absurd (c2.symm.trans c6) (by decide) | exact absurd (c2.symm.trans c7) (by decide) | exact absurd (c2.symm.trans c10) (by decide) | exact absurd (c3.symm.trans c1) (by decide) | exact absurd (c3.symm.trans c2) (by decide) | exact absurd (c3.symm.trans c4) (by decide) | exact absurd (c3.symm.trans c5) (by decide) | exact absurd (c3.symm.trans c6) (by decide) | exact absurd (c3.symm.trans c7) (by decide) | exact absurd (c3.symm.trans c10) (by decide) | exact absurd (c4.symm.trans c1) (by decide) | exact absurd (c4.symm.trans c2) (by decide) | exact absurd (c4.symm.trans c3) (by decide) | exact absurd (c4.symm.trans c5) (by decide) | exact absurd (c4.symm.trans c6) (by decide) | exact absurd (c4.symm.trans c7) (by decide) | exact absurd (c4.symm.trans c10) (by decide) | exact absurd (c5.symm.trans c1) (by decide) | exact absurd (c5.symm.trans c2) (by decide) | exact absurd (c5.symm.trans c3) (by decide) | exact absurd (c5.symm.trans c4) (by decide) | exact absurd (c5.symm.trans c6) (by decide) | exact absurd (c5.symm.trans c7) (by decide) | exact absurd (c5.symm.trans c10) (by decide) | exact absurd (c6.symm.trans c1) (by decide) | exact absurd (c6.symm.trans c2) (by decide) | exact absurd (c6.symm.trans c3) (by decide) | exact absurd (c6.symm.trans c4) (by decide) | exact absurd (c6.symm.trans c5) (by decide) | exact absurd (c6.symm.trans c7) (by decide) | exact absurd (c6.symm.trans c10) (by decide) | exact absurd (c7.symm.trans c1) (by decide) | exact absurd (c7.symm.trans c2) (by decide) | exact absurd (c7.symm.trans c3) (by decide) | exact absurd (c7.symm.trans c4) (by decide) | exact absurd (c7.symm.trans c5) (by decide) | exact absurd (c7.symm.trans c6) (by decide) | exact absurd (c7.symm.trans c10) (by decide) | exact absurd (c10.symm.trans c1) (by decide) | exact absurd (c10.symm.trans c2) (by decide) | exact absurd (c10.symm.trans c3) (by decide) | exact absurd (c10.symm.trans c4) (by decide) | exact absurd (c10.symm.trans c5) (by decide) | exact absurd (c10.symm.trans c6) (by decide) | exact absurd (c10.symm.trans c7) (by decide)))
                  · refine u_aload_n h dX5_orders_116 rfl 2 rfl rfl ?_
                    refine u_get h flX5_orders_143 0 (v := .int (nI n)) rfl rfl dX5_orders_117 rfl ?_
                    refine u_goto (tgt := 139) h dX5_orders_120 (by decide) ?_
                    refine u_istore (lv' := [(5, .int (nI n)), (4, .int (bI ft)), (0, .ref h0), (1, .int (nI a)), (2, .int (nI b)), (3, .int w)]) h dX5_orders_139 (by rw [hL]; decide) rfl rfl ?_
                    refine u_aload_n h dX5_orders_141 rfl 2 rfl rfl ?_
                    refine u_get h flX5_orders_13 0 (v := .ref (q 1)) rfl rfl dX5_orders_142 rfl ?_
                    refine u_iconst (v := 0) h dX5_orders_145 (by decide) rfl ?_
                    refine u_aload_n h dX5_orders_146 rfl 2 rfl rfl ?_
                    refine u_get h flX5_orders_7 0 (v := .ref (q 0)) rfl rfl dX5_orders_147 rfl ?_
                    refine u_iconst (v := 0) h dX5_orders_150 (by decide) rfl ?_
                    refine u_bipush (v := 86) h dX5_orders_151 (by decide) rfl ?_
                    refine u_callS h (As := [.ref (q 1), .int 0, .ref (q 0), .int 0, .int 86]) (wc := [((q 1), aI G 86 (va_cpy z sp 0 0 86)), ((q 0), aI G 86 y9)]) (wr := [(h0, .inr (5, mO q st ik ln sT (nI n) bo bt)), ((q 10), aI G 16500 e)]) (kX5_copyRow G (q 1) (q 0) 86 86 0 0 86 (va_cpy z sp 0 0 86) y9 (by omega) (by omega) (by omega) (by omega)) cwX5_orders_X5_copyRow rfl rfl hR ⟨⟨rfl, rfl⟩, by decide, by decide⟩ ⟨Nat.le_of_ble_eq_true rfl, Nat.le_of_ble_eq_true rfl⟩ [2, 1] [0, 3] rfl rfl rfl rfl (by decide) (Nat.le_of_ble_eq_true rfl) rfl dX5_orders_153 rfl (fun v9 u9 hp9 => ?_)
                    obtain ⟨rfl, rfl⟩ := hp9
                    refine u_wp (ws' := [(h0, .inr (5, mO q st ik ln sT (nI n) bo bt)), ((q 0), aI G 86 (va_cpy (va_cpy z sp 0 0 86) y9 0 0 86)), ((q 1), aI G 86 (va_cpy z sp 0 0 86)), ((q 10), aI G 16500 e)]) [0, 3, 2, 1] rfl rfl ?_
                    refine u_eqs (st' := []) rfl ?_
                    refine u_eqw (ws' := [(h0, .inr (5, mO q st ik ln sT (nI n) bo bt)), ((q 0), aI G 86 z), ((q 1), aI G 86 (va_cpy z sp 0 0 86)), ((q 10), aI G 16500 e)]) (by rw [rest_eq hw]) ?_
                    refine u_iload h dX5_orders_156 0 rfl rfl ?_
                    exact u_iret h hRT dX5_orders_158 (by omega) (by omega) (by exact ⟨(va_cpy z sp 0 0 86), e, (nI n), bo, bt, by simp [ordA, isV_nI ha, isV_nI hb, hab, ix_nI (show a < 2 ^ 31 by omega), ix_nI (show b < 2 ^ 31 by omega), ← hK, ← hn, ← hf, show inB (0 : Int32) 0 2 = true by decide, c3, c6, c7], rfl⟩)
                · refine u_bipush (v := (-5)) h dX5_orders_107 (by decide) rfl ?_
                  refine u_goto (tgt := 139) h dX5_orders_109 (by decide) ?_
                  refine u_istore (lv' := [(5, .int (-5)), (4, .int (bI ft)), (0, .ref h0), (1, .int (nI a)), (2, .int (nI b)), (3, .int w)]) h dX5_orders_139 (by rw [hL]; decide) rfl rfl ?_
                  refine u_aload_n h dX5_orders_141 rfl 2 rfl rfl ?_
                  refine u_get h flX5_orders_13 0 (v := .ref (q 1)) rfl rfl dX5_orders_142 rfl ?_
                  refine u_iconst (v := 0) h dX5_orders_145 (by decide) rfl ?_
                  refine u_aload_n h dX5_orders_146 rfl 2 rfl rfl ?_
                  refine u_get h flX5_orders_7 0 (v := .ref (q 0)) rfl rfl dX5_orders_147 rfl ?_
                  refine u_iconst (v := 0) h dX5_orders_150 (by decide) rfl ?_
                  refine u_bipush (v := 86) h dX5_orders_151 (by decide) rfl ?_
                  refine u_callS h (As := [.ref (q 1), .int 0, .ref (q 0), .int 0, .int 86]) (wc := [((q 1), aI G 86 (va_cpy z sp 0 0 86)), ((q 0), aI G 86 y9)]) (wr := [(h0, .inr (5, mO q st ik ln sT (nI n) bo bt)), ((q 10), aI G 16500 e)]) (kX5_copyRow G (q 1) (q 0) 86 86 0 0 86 (va_cpy z sp 0 0 86) y9 (by omega) (by omega) (by omega) (by omega)) cwX5_orders_X5_copyRow rfl rfl hR ⟨⟨rfl, rfl⟩, by decide, by decide⟩ ⟨Nat.le_of_ble_eq_true rfl, Nat.le_of_ble_eq_true rfl⟩ [2, 1] [0, 3] rfl rfl rfl rfl (by decide) (Nat.le_of_ble_eq_true rfl) rfl dX5_orders_153 rfl (fun v9 u9 hp9 => ?_)
                  obtain ⟨rfl, rfl⟩ := hp9
                  refine u_wp (ws' := [(h0, .inr (5, mO q st ik ln sT (nI n) bo bt)), ((q 0), aI G 86 (va_cpy (va_cpy z sp 0 0 86) y9 0 0 86)), ((q 1), aI G 86 (va_cpy z sp 0 0 86)), ((q 10), aI G 16500 e)]) [0, 3, 2, 1] rfl rfl ?_
                  refine u_eqs (st' := []) rfl ?_
                  refine u_eqw (ws' := [(h0, .inr (5, mO q st ik ln sT (nI n) bo bt)), ((q 0), aI G 86 z), ((q 1), aI G 86 (va_cpy z sp 0 0 86)), ((q 10), aI G 16500 e)]) (by rw [rest_eq hw]) ?_
                  refine u_iload h dX5_orders_156 0 rfl rfl ?_
                  exact u_iret h hRT dX5_orders_158 (by omega) (by omega) (by exact ⟨(va_cpy z sp 0 0 86), e, (nI n), bo, bt, by simp [ordA, isV_nI ha, isV_nI hb, hab, ix_nI (show a < 2 ^ 31 by omega), ix_nI (show b < 2 ^ 31 by omega), ← hK, ← hn, ← hf, show inB (0 : Int32) 0 2 = true by decide, c3, c6], rfl⟩)
              · refine u_iload h dX5_orders_81 1 rfl rfl ?_
                refine u_if_eq_B (tgt := 102) h dX5_orders_83 (by decide) rfl (fun c11 => ?_) (fun c11 => ?_)
                · have eJ : k = J := or_eq hJ hk (Or.inr (by rw [← hK]; exact c11))
                  subst eJ
                  refine u_iload h dX5_orders_102 1 rfl rfl ?_
                  refine u_if_ne_B (tgt := 112) h dX5_orders_104 (by decide) rfl (fun c12 => ?_) (fun c12 => ?_)
                  · refine u_iload_n h dX5_orders_112 rfl 5 rfl rfl ?_
                    refine u_if_ne (tgt := 123) h dX5_orders_113 (by decide) rfl (fun c13 => ?_) (fun c13 => ?_)
                    · refine u_aload_n h dX5_orders_123 rfl 2 rfl rfl ?_
                      have hW9 : ∀ k9 : Nat, k9 < n → Wf (tkZ e z k9) := fun k9 h9 => by rw [hf]; exact hJ.2.2.1 k k9 (Nat.le_refl _) (by rw [← hn]; exact h9)
                      refine u_iload_n h dX5_orders_124 rfl 3 rfl rfl ?_
                      refine u_iload_n h dX5_orders_125 rfl 4 rfl rfl ?_
                      refine u_iload_n h dX5_orders_126 rfl 5 rfl rfl ?_
                      refine u_iconst (v := 1) h dX5_orders_127 (by decide) rfl ?_
                      have J14 : ∀ x15 : Int32, x15 = (bI (decide (w = 1))) → U G X 0 0 [(h0, .inr (5, mO q st ik ln sT (nI n) bo bt)), ((q 0), aI G 86 y9), ((q 1), aI G 86 (va_cpy z sp 0 0 86)), ((q 10), aI G 16500 e)] 136 [(5, .int (nI k)), (4, .int (bI ft)), (0, .ref h0), (1, .int (nI a)), (2, .int (nI b)), (3, .int w)] [.int x15, .int (nI b), .int (nI a), .ref h0] := by
                        intro x15 e9
                        subst e9
                        refine u_callV h (As := [.int (nI a), .int (nI b), .int (bI (decide (w = 1)))]) (wc := [(h0, .inr (5, mO q st ik ln sT (nI n) bo bt)), ((q 0), aI G 86 y9), ((q 10), aI G 16500 e)]) (wr := [((q 1), aI G 86 (va_cpy z sp 0 0 86))]) (kX5_countFound G h0 q st ik ln sT n hn3 bo bt z y9 e hw a b (decide (w = 1)) ha hb hW9) cwX5_orders_X5_countFound rfl rfl hR ⟨⟨rfl, rfl⟩, by decide, by decide⟩ ⟨Nat.le_of_ble_eq_true rfl, Nat.le_of_ble_eq_true rfl⟩ (ci := 5) (qr := 0) rfl rfl [0, 1, 3] [2] rfl rfl rfl rfl (by decide) (Nat.le_of_ble_eq_true rfl) rfl dX5_orders_136 rfl (fun v9 u9 hp9 => ?_)
                        obtain ⟨z9, bo9, bt9, hz9, rfl, rfl⟩ := hp9
                        refine u_wp (ws' := [(h0, .inr (5, mO q st ik ln sT (nI n) bo9 bt9)), ((q 0), aI G 86 z9), ((q 1), aI G 86 (va_cpy z sp 0 0 86)), ((q 10), aI G 16500 e)]) [1, 2, 0, 3] rfl rfl ?_
                        refine u_eqs (st' := [.int (cfN e z a b (decide (w = 1)) n)]) rfl ?_
                        refine u_istore (lv' := [(5, .int (cfN e z a b (decide (w = 1)) n)), (4, .int (bI ft)), (0, .ref h0), (1, .int (nI a)), (2, .int (nI b)), (3, .int w)]) h dX5_orders_139 (by rw [hL]; decide) rfl rfl ?_
                        refine u_aload_n h dX5_orders_141 rfl 2 rfl rfl ?_
                        refine u_get h flX5_orders_13 0 (v := .ref (q 1)) rfl rfl dX5_orders_142 rfl ?_
                        refine u_iconst (v := 0) h dX5_orders_145 (by decide) rfl ?_
                        refine u_aload_n h dX5_orders_146 rfl 2 rfl rfl ?_
                        refine u_get h flX5_orders_7 0 (v := .ref (q 0)) rfl rfl dX5_orders_147 rfl ?_
                        refine u_iconst (v := 0) h dX5_orders_150 (by decide) rfl ?_
                        refine u_bipush (v := 86) h dX5_orders_151 (by decide) rfl ?_
                        refine u_callS h (As := [.ref (q 1), .int 0, .ref (q 0), .int 0, .int 86]) (wc := [((q 1), aI G 86 (va_cpy z sp 0 0 86)), ((q 0), aI G 86 z9)]) (wr := [(h0, .inr (5, mO q st ik ln sT (nI n) bo9 bt9)), ((q 10), aI G 16500 e)]) (kX5_copyRow G (q 1) (q 0) 86 86 0 0 86 (va_cpy z sp 0 0 86) z9 (by omega) (by omega) (by omega) (by omega)) cwX5_orders_X5_copyRow rfl rfl hR ⟨⟨rfl, rfl⟩, by decide, by decide⟩ ⟨Nat.le_of_ble_eq_true rfl, Nat.le_of_ble_eq_true rfl⟩ [2, 1] [0, 3] rfl rfl rfl rfl (by decide) (Nat.le_of_ble_eq_true rfl) rfl dX5_orders_153 rfl (fun v9 u9 hp9 => ?_)
                        obtain ⟨rfl, rfl⟩ := hp9
                        refine u_wp (ws' := [(h0, .inr (5, mO q st ik ln sT (nI n) bo9 bt9)), ((q 0), aI G 86 (va_cpy (va_cpy z sp 0 0 86) z9 0 0 86)), ((q 1), aI G 86 (va_cpy z sp 0 0 86)), ((q 10), aI G 16500 e)]) [0, 3, 2, 1] rfl rfl ?_
                        refine u_eqs (st' := []) rfl ?_
                        refine u_eqw (ws' := [(h0, .inr (5, mO q st ik ln sT (nI n) bo9 bt9)), ((q 0), aI G 86 z), ((q 1), aI G 86 (va_cpy z sp 0 0 86)), ((q 10), aI G 16500 e)]) (by rw [rest_eq hz9]) ?_
                        refine u_iload h dX5_orders_156 0 rfl rfl ?_
                        exact u_iret h hRT dX5_orders_158 (by omega) (by omega) (by exact ⟨(va_cpy z sp 0 0 86), e, (nI n), bo9, bt9, by simp [ordA, isV_nI ha, isV_nI hb, hab, ix_nI (show a < 2 ^ 31 by omega), ix_nI (show b < 2 ^ 31 by omega), ← hK, ← hn, ← hf, show inB (0 : Int32) 0 2 = true by decide, c3, c12, c13], rfl⟩)
                      refine u_icmp_ne (tgt := 135) h dX5_orders_128 (by decide) rfl (fun c16 => ?_) (fun c16 => ?_)
                      · refine u_iconst (v := 0) h dX5_orders_135 (by decide) rfl ?_
                        exact J14 _ (by first | (simp [bI, c1, c2, c3, c4, c5, c11, c12, c13, c16]; done) | (exfalso; first | exact absurd (c1.symm.trans c2) (by decide) | exact absurd (c1.symm.trans c3) (by decide) | exact absurd (c1.symm.trans c4) (by decide) | exact absurd (c1.symm.trans c5) (by decide) | exact absurd (c1.symm.trans c11) (by decide) | exact absurd (c1.symm.trans c12) (by decide) | exact absurd (c1.symm.trans c13) (by decide) | exact absurd (c1.symm.trans c16) (by decide) | exact absurd (c2.symm.trans c1) (by decide) | exact absurd (c2.symm.trans c3) (by decide) | exact absurd (c2.symm.trans c4) (by decide) | exact absurd (c2.symm.trans c5) (by decide) | exact absurd (c2.symm.trans c11) (by decide) | exact absurd (c2.symm.trans c12) (by decide) | exact absurd (c2.symm.trans c13) (by decide) | exact absurd (c2.symm.trans c16) (by decide) | exact absurd (c3.symm.trans c1) (by decide) | exact absurd (c3.symm.trans c2) (by decide) | exact absurd (c3.symm.trans c4) (by decide) | exact absurd (c3.symm.trans c5) (by decide) | exact absurd (c3.symm.trans c11) (by decide) | exact absurd (c3.symm.trans c12) (by decide) | exact absurd (c3.symm.trans c13) (by decide) | exact absurd (c3.symm.trans c16) (by decide) | exact absurd (c4.symm.trans c1) (by decide) | exact absurd (c4.symm.trans c2) (by decide) | exact absurd (c4.symm.trans c3) (by decide) | exact absurd (c4.symm.trans c5) (by decide) | exact absurd (c4.symm.trans c11) (by decide) | exact absurd (c4.symm.trans c12) (by decide) | exact absurd (c4.symm.trans c13) (by decide) | exact absurd (c4.symm.trans c16) (by decide) | exact absurd (c5.symm.trans c1) (by decide) | exact absurd (c5.symm.trans c2) (by decide) | exact absurd (c5.symm.trans c3) (by decide) | exact absurd (c5.symm.trans c4) (by decide) | exact absurd (c5.symm.trans c11) (by decide) | exact absurd (c5.symm.trans c12) (by decide) | exact absurd (c5.symm.trans c13) (by decide) | exact absurd (c5.symm.trans c16) (by decide) | exact absurd (c11.symm.trans c1) (by decide) | exact absurd (c11.symm.trans c2) (by decide) | exact absurd (c11.symm.trans c3) (by decide) | exact absurd (c11.symm.trans c4) (by decide) | exact absurd (c11.symm.trans c5) (by decide) | exact absurd (c11.symm.trans c12) (by decide) | exact absurd (c11.symm.trans c13) (by decide) | exact absurd (c11.symm.trans c16) (by decide) | exact absurd (c12.symm.trans c1) (by decide) | exact absurd (c12.symm.trans c2) (by decide) | exact absurd (c12.symm.trans c3) (by decide) | exact absurd (c12.symm.trans c4) (by decide) | exact absurd (c12.symm.trans c5) (by decide) | exact absurd (c12.symm.trans c11) (by decide) | exact absurd (c12.symm.trans c13) (by decide) | exact absurd (c12.symm.trans c16) (by decide) | exact absurd (c13.symm.trans c1) (by decide) | exact absurd (c13.symm.trans c2) (by decide) | exact absurd (c13.symm.trans c3) (by decide) | exact absurd (c13.symm.trans c4) (by decide) | exact absurd (c13.symm.trans c5) (by decide) | exact absurd (c13.symm.trans c11) (by decide) | exact absurd (c13.symm.trans c12) (by decide) | exact absurd (c13.symm.trans c16) (by decide) | exact absurd (c16.symm.trans c1) (by decide) | exact absurd (c16.symm.trans c2) (by decide) | exact absurd (c16.symm.trans c3) (by decide) | exact absurd (c16.symm.trans c4) (by decide) | exact absurd (c16.symm.trans c5) (by decide) | exact absurd (c16.symm.trans c11) (by decide) | exact absurd (c16.symm.trans c12) (by decide) | exact absurd (c16.symm.trans c13) (by decide)))
                      · refine u_iconst (v := 1) h dX5_orders_131 (by decide) rfl ?_
                        refine u_goto (tgt := 136) h dX5_orders_132 (by decide) ?_
                        exact J14 _ (by first | (simp [bI, c1, c2, c3, c4, c5, c11, c12, c13, c16]; done) | (exfalso; first | exact absurd (c1.symm.trans c2) (by decide) | exact absurd (c1.symm.trans c3) (by decide) | exact absurd (c1.symm.trans c4) (by decide) | exact absurd (c1.symm.trans c5) (by decide) | exact absurd (c1.symm.trans c11) (by decide) | exact absurd (c1.symm.trans c12) (by decide) | exact absurd (c1.symm.trans c13) (by decide) | exact absurd (c1.symm.trans c16) (by decide) | exact absurd (c2.symm.trans c1) (by decide) | exact absurd (c2.symm.trans c3) (by decide) | exact absurd (c2.symm.trans c4) (by decide) | exact absurd (c2.symm.trans c5) (by decide) | exact absurd (c2.symm.trans c11) (by decide) | exact absurd (c2.symm.trans c12) (by decide) | exact absurd (c2.symm.trans c13) (by decide) | exact absurd (c2.symm.trans c16) (by decide) | exact absurd (c3.symm.trans c1) (by decide) | exact absurd (c3.symm.trans c2) (by decide) | exact absurd (c3.symm.trans c4) (by decide) | exact absurd (c3.symm.trans c5) (by decide) | exact absurd (c3.symm.trans c11) (by decide) | exact absurd (c3.symm.trans c12) (by decide) | exact absurd (c3.symm.trans c13) (by decide) | exact absurd (c3.symm.trans c16) (by decide) | exact absurd (c4.symm.trans c1) (by decide) | exact absurd (c4.symm.trans c2) (by decide) | exact absurd (c4.symm.trans c3) (by decide) | exact absurd (c4.symm.trans c5) (by decide) | exact absurd (c4.symm.trans c11) (by decide) | exact absurd (c4.symm.trans c12) (by decide) | exact absurd (c4.symm.trans c13) (by decide) | exact absurd (c4.symm.trans c16) (by decide) | exact absurd (c5.symm.trans c1) (by decide) | exact absurd (c5.symm.trans c2) (by decide) | exact absurd (c5.symm.trans c3) (by decide) | exact absurd (c5.symm.trans c4) (by decide) | exact absurd (c5.symm.trans c11) (by decide) | exact absurd (c5.symm.trans c12) (by decide) | exact absurd (c5.symm.trans c13) (by decide) | exact absurd (c5.symm.trans c16) (by decide) | exact absurd (c11.symm.trans c1) (by decide) | exact absurd (c11.symm.trans c2) (by decide) | exact absurd (c11.symm.trans c3) (by decide) | exact absurd (c11.symm.trans c4) (by decide) | exact absurd (c11.symm.trans c5) (by decide) | exact absurd (c11.symm.trans c12) (by decide) | exact absurd (c11.symm.trans c13) (by decide) | exact absurd (c11.symm.trans c16) (by decide) | exact absurd (c12.symm.trans c1) (by decide) | exact absurd (c12.symm.trans c2) (by decide) | exact absurd (c12.symm.trans c3) (by decide) | exact absurd (c12.symm.trans c4) (by decide) | exact absurd (c12.symm.trans c5) (by decide) | exact absurd (c12.symm.trans c11) (by decide) | exact absurd (c12.symm.trans c13) (by decide) | exact absurd (c12.symm.trans c16) (by decide) | exact absurd (c13.symm.trans c1) (by decide) | exact absurd (c13.symm.trans c2) (by decide) | exact absurd (c13.symm.trans c3) (by decide) | exact absurd (c13.symm.trans c4) (by decide) | exact absurd (c13.symm.trans c5) (by decide) | exact absurd (c13.symm.trans c11) (by decide) | exact absurd (c13.symm.trans c12) (by decide) | exact absurd (c13.symm.trans c16) (by decide) | exact absurd (c16.symm.trans c1) (by decide) | exact absurd (c16.symm.trans c2) (by decide) | exact absurd (c16.symm.trans c3) (by decide) | exact absurd (c16.symm.trans c4) (by decide) | exact absurd (c16.symm.trans c5) (by decide) | exact absurd (c16.symm.trans c11) (by decide) | exact absurd (c16.symm.trans c12) (by decide) | exact absurd (c16.symm.trans c13) (by decide)))
                    · refine u_aload_n h dX5_orders_116 rfl 2 rfl rfl ?_
                      refine u_get h flX5_orders_143 0 (v := .int (nI n)) rfl rfl dX5_orders_117 rfl ?_
                      refine u_goto (tgt := 139) h dX5_orders_120 (by decide) ?_
                      refine u_istore (lv' := [(5, .int (nI n)), (4, .int (bI ft)), (0, .ref h0), (1, .int (nI a)), (2, .int (nI b)), (3, .int w)]) h dX5_orders_139 (by rw [hL]; decide) rfl rfl ?_
                      refine u_aload_n h dX5_orders_141 rfl 2 rfl rfl ?_
                      refine u_get h flX5_orders_13 0 (v := .ref (q 1)) rfl rfl dX5_orders_142 rfl ?_
                      refine u_iconst (v := 0) h dX5_orders_145 (by decide) rfl ?_
                      refine u_aload_n h dX5_orders_146 rfl 2 rfl rfl ?_
                      refine u_get h flX5_orders_7 0 (v := .ref (q 0)) rfl rfl dX5_orders_147 rfl ?_
                      refine u_iconst (v := 0) h dX5_orders_150 (by decide) rfl ?_
                      refine u_bipush (v := 86) h dX5_orders_151 (by decide) rfl ?_
                      refine u_callS h (As := [.ref (q 1), .int 0, .ref (q 0), .int 0, .int 86]) (wc := [((q 1), aI G 86 (va_cpy z sp 0 0 86)), ((q 0), aI G 86 y9)]) (wr := [(h0, .inr (5, mO q st ik ln sT (nI n) bo bt)), ((q 10), aI G 16500 e)]) (kX5_copyRow G (q 1) (q 0) 86 86 0 0 86 (va_cpy z sp 0 0 86) y9 (by omega) (by omega) (by omega) (by omega)) cwX5_orders_X5_copyRow rfl rfl hR ⟨⟨rfl, rfl⟩, by decide, by decide⟩ ⟨Nat.le_of_ble_eq_true rfl, Nat.le_of_ble_eq_true rfl⟩ [2, 1] [0, 3] rfl rfl rfl rfl (by decide) (Nat.le_of_ble_eq_true rfl) rfl dX5_orders_153 rfl (fun v9 u9 hp9 => ?_)
                      obtain ⟨rfl, rfl⟩ := hp9
                      refine u_wp (ws' := [(h0, .inr (5, mO q st ik ln sT (nI n) bo bt)), ((q 0), aI G 86 (va_cpy (va_cpy z sp 0 0 86) y9 0 0 86)), ((q 1), aI G 86 (va_cpy z sp 0 0 86)), ((q 10), aI G 16500 e)]) [0, 3, 2, 1] rfl rfl ?_
                      refine u_eqs (st' := []) rfl ?_
                      refine u_eqw (ws' := [(h0, .inr (5, mO q st ik ln sT (nI n) bo bt)), ((q 0), aI G 86 z), ((q 1), aI G 86 (va_cpy z sp 0 0 86)), ((q 10), aI G 16500 e)]) (by rw [rest_eq hw]) ?_
                      refine u_iload h dX5_orders_156 0 rfl rfl ?_
                      exact u_iret h hRT dX5_orders_158 (by omega) (by omega) (by exact ⟨(va_cpy z sp 0 0 86), e, (nI n), bo, bt, by simp [ordA, isV_nI ha, isV_nI hb, hab, ix_nI (show a < 2 ^ 31 by omega), ix_nI (show b < 2 ^ 31 by omega), ← hK, ← hn, ← hf, show inB (0 : Int32) 0 2 = true by decide, c3, c12, c13], rfl⟩)
                  · refine u_bipush (v := (-5)) h dX5_orders_107 (by decide) rfl ?_
                    refine u_goto (tgt := 139) h dX5_orders_109 (by decide) ?_
                    refine u_istore (lv' := [(5, .int (-5)), (4, .int (bI ft)), (0, .ref h0), (1, .int (nI a)), (2, .int (nI b)), (3, .int w)]) h dX5_orders_139 (by rw [hL]; decide) rfl rfl ?_
                    refine u_aload_n h dX5_orders_141 rfl 2 rfl rfl ?_
                    refine u_get h flX5_orders_13 0 (v := .ref (q 1)) rfl rfl dX5_orders_142 rfl ?_
                    refine u_iconst (v := 0) h dX5_orders_145 (by decide) rfl ?_
                    refine u_aload_n h dX5_orders_146 rfl 2 rfl rfl ?_
                    refine u_get h flX5_orders_7 0 (v := .ref (q 0)) rfl rfl dX5_orders_147 rfl ?_
                    refine u_iconst (v := 0) h dX5_orders_150 (by decide) rfl ?_
                    refine u_bipush (v := 86) h dX5_orders_151 (by decide) rfl ?_
                    refine u_callS h (As := [.ref (q 1), .int 0, .ref (q 0), .int 0, .int 86]) (wc := [((q 1), aI G 86 (va_cpy z sp 0 0 86)), ((q 0), aI G 86 y9)]) (wr := [(h0, .inr (5, mO q st ik ln sT (nI n) bo bt)), ((q 10), aI G 16500 e)]) (kX5_copyRow G (q 1) (q 0) 86 86 0 0 86 (va_cpy z sp 0 0 86) y9 (by omega) (by omega) (by omega) (by omega)) cwX5_orders_X5_copyRow rfl rfl hR ⟨⟨rfl, rfl⟩, by decide, by decide⟩ ⟨Nat.le_of_ble_eq_true rfl, Nat.le_of_ble_eq_true rfl⟩ [2, 1] [0, 3] rfl rfl rfl rfl (by decide) (Nat.le_of_ble_eq_true rfl) rfl dX5_orders_153 rfl (fun v9 u9 hp9 => ?_)
                    obtain ⟨rfl, rfl⟩ := hp9
                    refine u_wp (ws' := [(h0, .inr (5, mO q st ik ln sT (nI n) bo bt)), ((q 0), aI G 86 (va_cpy (va_cpy z sp 0 0 86) y9 0 0 86)), ((q 1), aI G 86 (va_cpy z sp 0 0 86)), ((q 10), aI G 16500 e)]) [0, 3, 2, 1] rfl rfl ?_
                    refine u_eqs (st' := []) rfl ?_
                    refine u_eqw (ws' := [(h0, .inr (5, mO q st ik ln sT (nI n) bo bt)), ((q 0), aI G 86 z), ((q 1), aI G 86 (va_cpy z sp 0 0 86)), ((q 10), aI G 16500 e)]) (by rw [rest_eq hw]) ?_
                    refine u_iload h dX5_orders_156 0 rfl rfl ?_
                    exact u_iret h hRT dX5_orders_158 (by omega) (by omega) (by exact ⟨(va_cpy z sp 0 0 86), e, (nI n), bo, bt, by simp [ordA, isV_nI ha, isV_nI hb, hab, ix_nI (show a < 2 ^ 31 by omega), ix_nI (show b < 2 ^ 31 by omega), ← hK, ← hn, ← hf, show inB (0 : Int32) 0 2 = true by decide, c3, c12], rfl⟩)
                · have hkJ : k < J := or_lt hJ hk (by rw [← hn]; exact c5) (by rw [← hK]; exact c11)
                  have hWk : Wf (tkZ e y9 k) := by rw [tk_row (f := e) (z := z) (fun i hi => rfl) hw, hf]; exact hJ.2.2.1 k k (by omega) (by rw [← hn]; exact c5)
                  refine u_aload_n h dX5_orders_86 rfl 2 rfl rfl ?_
                  refine u_iload h dX5_orders_87 0 rfl rfl ?_
                  refine u_iload_n h dX5_orders_89 rfl 3 rfl rfl ?_
                  refine u_iload_n h dX5_orders_90 rfl 4 rfl rfl ?_
                  refine u_callV h (As := [.int (nI k), .int (nI a), .int (nI b)]) (wc := [(h0, .inr (5, mO q st ik ln sT (nI n) bo bt)), ((q 0), aI G 86 y9), ((q 10), aI G 16500 e)]) (wr := [((q 1), aI G 86 (va_cpy z sp 0 0 86))]) (kX5_follow G h0 q st ik ln sT n hn3 bo bt y9 e k a b (by omega) ha hb hWk) cwX5_orders_X5_follow rfl rfl hR ⟨⟨rfl, rfl⟩, by decide, by decide⟩ ⟨Nat.le_of_ble_eq_true rfl, Nat.le_of_ble_eq_true rfl⟩ (ci := 5) (qr := 0) rfl rfl [0, 1, 3] [2] rfl rfl rfl rfl (by decide) (Nat.le_of_ble_eq_true rfl) rfl dX5_orders_91 rfl (fun v9 u9 hp9 => ?_)
                  obtain ⟨z9, bo9, bt9, hz9, rfl, rfl⟩ := hp9
                  refine u_wp (ws' := [(h0, .inr (5, mO q st ik ln sT (nI (fN2 e (tkZ e y9 k) k a b n)) bo9 bt9)), ((q 0), aI G 86 z9), ((q 1), aI G 86 (va_cpy z sp 0 0 86)), ((q 10), aI G 16500 (fF2 e (tkZ e y9 k) k a b n))]) [1, 2, 0, 3] rfl rfl ?_
                  refine u_eqs (st' := [.int (bI (fK2 e (tkZ e y9 k) k a b n))]) rfl ?_
                  refine u_istore (lv' := [(4, .int (bI (fK2 e (tkZ e y9 k) k a b n))), (5, .int (nI k)), (0, .ref h0), (1, .int (nI a)), (2, .int (nI b)), (3, .int w)]) h dX5_orders_94 (by rw [hL]; decide) rfl rfl ?_
                  refine u_iinc (k := 1) (v := (nI (k + 1))) (lv' := [(5, .int (nI (k + 1))), (4, .int (bI (fK2 e (tkZ e y9 k) k a b n))), (0, .ref h0), (1, .int (nI a)), (2, .int (nI b)), (3, .int w)]) h dX5_orders_96 rfl (nI_add k 1) (by rw [hL]; decide) rfl rfl ?_
                  refine u_goto (tgt := 72) h dX5_orders_99 (by decide) ?_
                  exact ihL _ (by omega) (k + 1) (fK2 e (tkZ e y9 k) k a b n) (fN2 e (tkZ e y9 k) k a b n) bo9 bt9 z9 (fF2 e (tkZ e y9 k) k a b n) rfl hkJ (by simp only [orS]; rw [← hf, ← hn, tk_row (f := e) (z := z) (fun i hi => rfl) hw]) (by simp only [orS]; rw [← hf, ← hn, tk_row (f := e) (z := z) (fun i hi => rfl) hw]) (by simp only [orS]; rw [← hf, ← hn, tk_row (f := e) (z := z) (fun i hi => rfl) hw]) (fun j hj => (hz9 j hj).trans (hw j hj))
          exact LL _ 0 (colB f z 0 0 0) (colN f z 0 0 0) 0 0 z (colR f z 0 0 0) rfl (Nat.zero_le _) rfl rfl rfl (fun j hj => rfl)
        · refine u_bipush (v := (-2)) h dX5_orders_30 (by decide) rfl ?_
          exact u_iret h hRT dX5_orders_32 (by omega) (by omega) (by exact ⟨sp, f, fm, bo, bt, by simp [ordA, c1, c2, c3, c4], rfl⟩)
    · refine u_iconst (v := (-1)) h dX5_orders_14 (by decide) rfl ?_
      exact u_iret h hRT dX5_orders_15 (by omega) (by omega) (by exact ⟨sp, f, fm, bo, bt, by simp [ordA, c1, c2], rfl⟩)
