theorem flX5_collect_143 : FL wsX5_collect RX5 143 5 15 := ⟨RX5, TX5, 18, rfl, by decide, by decide +kernel, by decide +kernel⟩
theorem flX5_collect_7 : FL wsX5_collect RX5 7 5 0 := ⟨RX5, TX5, 18, rfl, by decide, by decide +kernel, by decide +kernel⟩
theorem flX5_collect_40 : FL wsX5_collect RX5 40 5 14 := ⟨RX5, TX5, 18, rfl, by decide, by decide +kernel, by decide +kernel⟩
theorem flX5_collect_146 : FL wsX5_collect RX5 146 5 16 := ⟨RX5, TX5, 18, rfl, by decide, by decide +kernel, by decide +kernel⟩
theorem flX5_collect_149 : FL wsX5_collect RX5 149 5 17 := ⟨RX5, TX5, 18, rfl, by decide, by decide +kernel, by decide +kernel⟩
theorem fwX5_collect_143 : FW wsX5_collect RX5 143 5 15 false .int := ⟨RX5, TX5, 18, tyX5, rfl, by decide, by decide +kernel, by decide +kernel, tyX5_ok, nmX5, rfl, by decide +kernel, rfl⟩
set_option maxRecDepth 20000 in
theorem cwX5_collect_X5_copyRow : CWd wsX5_collect (wsS RX5 55 yX5_copyRow wsX5_copyRow) yX5_copyRow wsX5_copyRow cX5_copyRow 6 none 5 := ⟨gX5_collect_X5_copyRow, ⟨_, rfl⟩, by decide +kernel, by decide, by decide⟩
set_option maxHeartbeats 8000000 in
set_option maxRecDepth 100000 in
theorem kX5_collect (G : Gx) (h0 : Nat) (q : Nat → Nat) (st ik ln sT : Int32) (n : Nat) (hn : n ≤ 300) (bo bt : Int32) (z f : Zf) : MC G yX5_collect wsX5_collect ({ frames := 1, cells := 0, slots := 0, locals := 25 } : Room) [.ref h0] [(h0, .inr (5, mO q st ik ln sT (nI n) bo bt)), ((q 0), aI G 86 z), ((q 10), aI G 16500 f)] (fun v' u' => v' = some (.int (bI (colB f z bo bt n))) ∧ u' = [(h0, .inr (5, mO q st ik ln sT (nI (colN f z bo bt n)) bo bt)), ((q 0), aI G 86 z), ((q 10), aI G 16500 (colR f z bo bt n))]) 0 0 := by
  refine mc_of (cc := cX5_collect) (maxL := 4) (ret := (some .boolean)) (by decide) rfl (Nat.le_of_ble_eq_true rfl) (fun X h hR hL hRT => ?_)
  refine u_eql (lv' := [(0, .ref h0)]) rfl ?_
  refine u_iconst (v := 0) h dX5_collect_0 (by decide) rfl ?_
  refine u_istore_n (lv' := [(1, .int 0), (0, .ref h0)]) h dX5_collect_1 rfl (by rw [hL]; decide) rfl rfl ?_
  have LA : ∀ (k9 : Nat) (k : Nat), n - k = k9 → (k ≤ n) → (hasB f z bo bt k = false) → U G X 0 0 [(h0, .inr (5, mO q st ik ln sT (nI n) bo bt)), ((q 0), aI G 86 z), ((q 10), aI G 16500 f)] 2 [(1, .int (nI k)), (0, .ref h0)] [] := by
    intro k9
    induction k9 using Nat.strongRecOn with
    | _ k9 ihA =>
      intro k hk9 hk hh
      subst hk9
      refine u_iload_n h dX5_collect_2 rfl 0 rfl rfl ?_
      refine u_aload_n h dX5_collect_3 rfl 1 rfl rfl ?_
      refine u_get h flX5_collect_143 0 (v := .int (nI n)) rfl rfl dX5_collect_4 rfl ?_
      refine u_icmp_ge_N (a := k) (b := n) (tgt := 112) h dX5_collect_7 (by decide) (by omega) (by omega) rfl (fun c1 => ?_) (fun c1 => ?_)
      · refine u_aload_n h dX5_collect_112 rfl 1 rfl rfl ?_
        refine u_get h flX5_collect_143 0 (v := .int (nI n)) rfl rfl dX5_collect_113 rfl ?_
        refine u_sipush (v := 300) h dX5_collect_116 (by decide) rfl ?_
        refine u_icmp_ne_N (a := n) (b := 300) (tgt := 124) h dX5_collect_119 (by decide) (by omega) (by omega) rfl (fun c2 => ?_) (fun c2 => ?_)
        · refine u_aload_n h dX5_collect_124 rfl 1 rfl rfl ?_
          refine u_get h flX5_collect_7 0 (v := .ref (q 0)) rfl rfl dX5_collect_125 rfl ?_
          refine u_iconst (v := 0) h dX5_collect_128 (by decide) rfl ?_
          refine u_aload_n h dX5_collect_129 rfl 1 rfl rfl ?_
          refine u_get h flX5_collect_40 0 (v := .ref (q 10)) rfl rfl dX5_collect_130 rfl ?_
          refine u_bipush (v := 55) h dX5_collect_133 (by decide) rfl ?_
          refine u_aload_n h dX5_collect_135 rfl 1 rfl rfl ?_
          refine u_get h flX5_collect_143 0 (v := .int (nI n)) rfl rfl dX5_collect_136 rfl ?_
          refine u_imul (v := (nI (55 * n))) h dX5_collect_139 (pk_mul 55 n) rfl ?_
          refine u_bipush (v := 53) h dX5_collect_140 (by decide) rfl ?_
          refine u_callS h (As := [.ref (q 0), .int 0, .ref (q 10), .int (nI (55 * n)), .int 53]) (wc := [((q 0), aI G 86 z), ((q 10), aI G 16500 f)]) (wr := [(h0, .inr (5, mO q st ik ln sT (nI n) bo bt))]) (kX5_copyRow G (q 0) (q 10) 86 16500 0 (55 * n) 53 z f (by omega) (by omega) (by omega) (by omega)) cwX5_collect_X5_copyRow rfl rfl hR ⟨⟨rfl, rfl⟩, by decide, by decide⟩ ⟨Nat.le_of_ble_eq_true rfl, Nat.le_of_ble_eq_true rfl⟩ [1, 2] [0] rfl rfl rfl rfl (by decide) (Nat.le_of_ble_eq_true rfl) rfl dX5_collect_142 rfl (fun v9 u9 hp9 => ?_)
          obtain ⟨rfl, rfl⟩ := hp9
          refine u_wp (ws' := [(h0, .inr (5, mO q st ik ln sT (nI n) bo bt)), ((q 0), aI G 86 z), ((q 10), aI G 16500 (va_cpy z f 0 (55 * n) 53))]) [0, 1, 2] rfl rfl ?_
          refine u_eqs (st' := []) rfl ?_
          refine u_aload_n h dX5_collect_145 rfl 1 rfl rfl ?_
          refine u_get h flX5_collect_40 0 (v := .ref (q 10)) rfl rfl dX5_collect_146 rfl ?_
          refine u_bipush (v := 55) h dX5_collect_149 (by decide) rfl ?_
          refine u_aload_n h dX5_collect_151 rfl 1 rfl rfl ?_
          refine u_get h flX5_collect_143 0 (v := .int (nI n)) rfl rfl dX5_collect_152 rfl ?_
          refine u_imul (v := (nI (55 * n))) h dX5_collect_155 (pk_mul 55 n) rfl ?_
          refine u_bipush (v := 53) h dX5_collect_156 (by decide) rfl ?_
          refine u_iadd (v := (nI ((55 * n) + 53))) h dX5_collect_158 (nI_add (55 * n) 53) rfl ?_
          refine u_aload_n h dX5_collect_159 rfl 1 rfl rfl ?_
          refine u_get h flX5_collect_146 0 (v := .int bo) rfl rfl dX5_collect_160 rfl ?_
          refine u_iast h (n := ((55 * n) + 53)) (v := bo) 2 rfl (by omega) (by omega) rfl (ws' := [(h0, .inr (5, mO q st ik ln sT (nI n) bo bt)), ((q 0), aI G 86 z), ((q 10), aI G 16500 (upd (va_cpy z f 0 (55 * n) 53) ((55 * n) + 53) bo))]) rfl dX5_collect_163 rfl ?_
          refine u_aload_n h dX5_collect_164 rfl 1 rfl rfl ?_
          refine u_get h flX5_collect_40 0 (v := .ref (q 10)) rfl rfl dX5_collect_165 rfl ?_
          refine u_bipush (v := 55) h dX5_collect_168 (by decide) rfl ?_
          refine u_aload_n h dX5_collect_170 rfl 1 rfl rfl ?_
          refine u_get h flX5_collect_143 0 (v := .int (nI n)) rfl rfl dX5_collect_171 rfl ?_
          refine u_imul (v := (nI (55 * n))) h dX5_collect_174 (pk_mul 55 n) rfl ?_
          refine u_bipush (v := 53) h dX5_collect_175 (by decide) rfl ?_
          refine u_iadd (v := (nI ((55 * n) + 53))) h dX5_collect_177 (nI_add (55 * n) 53) rfl ?_
          refine u_iconst (v := 1) h dX5_collect_178 (by decide) rfl ?_
          refine u_iadd (v := (nI (((55 * n) + 53) + 1))) h dX5_collect_179 (nI_add ((55 * n) + 53) 1) rfl ?_
          refine u_aload_n h dX5_collect_180 rfl 1 rfl rfl ?_
          refine u_get h flX5_collect_149 0 (v := .int bt) rfl rfl dX5_collect_181 rfl ?_
          refine u_iast h (n := (((55 * n) + 53) + 1)) (v := bt) 2 rfl (by omega) (by omega) rfl (ws' := [(h0, .inr (5, mO q st ik ln sT (nI n) bo bt)), ((q 0), aI G 86 z), ((q 10), aI G 16500 (upd (upd (va_cpy z f 0 (55 * n) 53) ((55 * n) + 53) bo) (((55 * n) + 53) + 1) bt))]) rfl dX5_collect_184 rfl ?_
          refine u_aload_n h dX5_collect_185 rfl 1 rfl rfl ?_
          refine u_dup h dX5_collect_186 rfl rfl ?_
          refine u_get h flX5_collect_143 0 (v := .int (nI n)) rfl rfl dX5_collect_187 rfl ?_
          refine u_iconst (v := 1) h dX5_collect_190 (by decide) rfl ?_
          refine u_iadd (v := (nI (n + 1))) h dX5_collect_191 (nI_add n 1) rfl ?_
          refine u_put h fwX5_collect_143 (ws' := [(h0, .inr (5, mO q st ik ln sT (nI (n + 1)) bo bt)), ((q 0), aI G 86 z), ((q 10), aI G 16500 (upd (upd (va_cpy z f 0 (55 * n) 53) ((55 * n) + 53) bo) (((55 * n) + 53) + 1) bt))]) 0 rfl (Nat.le_of_ble_eq_true rfl) rfl rfl rfl dX5_collect_192 rfl ?_
          refine u_iconst (v := 1) h dX5_collect_195 (by decide) rfl ?_
          exact u_zret h hRT dX5_collect_196 rfl (by omega) (by omega) (by have hh2 : hasB f z bo bt n = false := (by rw [← hh, show k = n by omega]); have e9 := c2; simp [colB, colR, colN, colF, hh2, e9, bI])
        · refine u_iconst (v := 0) h dX5_collect_122 (by decide) rfl ?_
          exact u_zret h hRT dX5_collect_123 rfl (by omega) (by omega) (by have hh2 : hasB f z bo bt n = false := (by rw [← hh, show k = n by omega]); have e9 := c2; subst e9; simp [colB, colR, colN, colF, hh2, bI])
      · refine u_aload_n h dX5_collect_10 rfl 1 rfl rfl ?_
        refine u_get h flX5_collect_40 0 (v := .ref (q 10)) rfl rfl dX5_collect_11 rfl ?_
        refine u_bipush (v := 55) h dX5_collect_14 (by decide) rfl ?_
        refine u_iload_n h dX5_collect_16 rfl 0 rfl rfl ?_
        refine u_imul (v := (nI (55 * k))) h dX5_collect_17 (pk_mul 55 k) rfl ?_
        refine u_bipush (v := 53) h dX5_collect_18 (by decide) rfl ?_
        refine u_iadd (v := (nI ((55 * k) + 53))) h dX5_collect_20 (nI_add (55 * k) 53) rfl ?_
        refine u_iald h (n := ((55 * k) + 53)) 2 rfl (by omega) (by omega) dX5_collect_21 rfl ?_
        refine u_aload_n h dX5_collect_22 rfl 1 rfl rfl ?_
        refine u_get h flX5_collect_146 0 (v := .int bo) rfl rfl dX5_collect_23 rfl ?_
        have J3 : ∀ x4 : Int32, x4 = (bI (bkB f bo bt k)) → U G X 0 0 [(h0, .inr (5, mO q st ik ln sT (nI n) bo bt)), ((q 0), aI G 86 z), ((q 10), aI G 16500 f)] 55 [(1, .int (nI k)), (0, .ref h0)] [.int x4] := by
          intro x4 e9
          subst e9
          refine u_istore_n (lv' := [(2, .int (bI (bkB f bo bt k))), (1, .int (nI k)), (0, .ref h0)]) h dX5_collect_55 rfl (by rw [hL]; decide) rfl rfl ?_
          refine u_iconst (v := 0) h dX5_collect_56 (by decide) rfl ?_
          refine u_istore_n (lv' := [(3, .int 0), (2, .int (bI (bkB f bo bt k))), (1, .int (nI k)), (0, .ref h0)]) h dX5_collect_57 rfl (by rw [hL]; decide) rfl rfl ?_
          have LB : ∀ (k9 : Nat) (i : Nat) (sm : Bool), 53 - i = k9 → (i ≤ 53) → (sm = (bkB f bo bt k && smI f z k i)) → U G X 0 0 [(h0, .inr (5, mO q st ik ln sT (nI n) bo bt)), ((q 0), aI G 86 z), ((q 10), aI G 16500 f)] 58 [(3, .int (nI i)), (2, .int (bI sm)), (1, .int (nI k)), (0, .ref h0)] [] := by
            intro k9
            induction k9 using Nat.strongRecOn with
            | _ k9 ihB =>
              intro i sm hk9 hi hs
              subst hk9
              refine u_iload_n h dX5_collect_58 rfl 0 rfl rfl ?_
              refine u_bipush (v := 53) h dX5_collect_59 (by decide) rfl ?_
              refine u_icmp_ge_N (a := i) (b := 53) (tgt := 100) h dX5_collect_61 (by decide) (by omega) (by omega) rfl (fun c5 => ?_) (fun c5 => ?_)
              · refine u_iload_n h dX5_collect_100 rfl 1 rfl rfl ?_
                refine u_if_eq_B (tgt := 106) h dX5_collect_101 (by decide) rfl (fun c6 => ?_) (fun c6 => ?_)
                · refine u_iinc (k := 2) (v := (nI (k + 1))) (lv' := [(1, .int (nI (k + 1))), (3, .int (nI i)), (2, .int (bI sm)), (0, .ref h0)]) h dX5_collect_106 rfl (nI_add k 1) (by rw [hL]; decide) rfl rfl ?_
                  refine u_goto (tgt := 2) h dX5_collect_109 (by decide) ?_
                  refine u_lv (lv' := [(1, .int (nI (k + 1))), (0, .ref h0)]) [0, 3] rfl ?_
                  exact ihA _ (by omega) (k + 1) rfl (by omega) (by simp only [hasB]; rw [hh, sam_false hi (by rw [← hs]; exact c6)]; rfl)
                · refine u_iconst (v := 1) h dX5_collect_104 (by decide) rfl ?_
                  exact u_zret h hRT dX5_collect_105 rfl (by omega) (by omega) (by have hh2 : hasB f z bo bt n = true := hasB_of (k := k) (by omega) (by rw [samB, ← show i = 53 by omega, ← hs]; exact c6); simp [colB, colR, colN, hh2, bI])
              · refine u_iload_n h dX5_collect_64 rfl 1 rfl rfl ?_
                refine u_if_eq_B (tgt := 100) h dX5_collect_65 (by decide) rfl (fun c7 => ?_) (fun c7 => ?_)
                · refine u_iload_n h dX5_collect_100 rfl 1 rfl rfl ?_
                  refine u_if_eq_B (tgt := 106) h dX5_collect_101 (by decide) rfl (fun c8 => ?_) (fun c8 => ?_)
                  · refine u_iinc (k := 2) (v := (nI (k + 1))) (lv' := [(1, .int (nI (k + 1))), (3, .int (nI i)), (2, .int (bI sm)), (0, .ref h0)]) h dX5_collect_106 rfl (nI_add k 1) (by rw [hL]; decide) rfl rfl ?_
                    refine u_goto (tgt := 2) h dX5_collect_109 (by decide) ?_
                    refine u_lv (lv' := [(1, .int (nI (k + 1))), (0, .ref h0)]) [0, 3] rfl ?_
                    exact ihA _ (by omega) (k + 1) rfl (by omega) (by simp only [hasB]; rw [hh, sam_false hi (by rw [← hs]; exact c8)]; rfl)
                  · exact absurd c8 (by rw [c7]; decide)
                · refine u_aload_n h dX5_collect_68 rfl 3 rfl rfl ?_
                  refine u_get h flX5_collect_40 0 (v := .ref (q 10)) rfl rfl dX5_collect_69 rfl ?_
                  refine u_bipush (v := 55) h dX5_collect_72 (by decide) rfl ?_
                  refine u_iload_n h dX5_collect_74 rfl 2 rfl rfl ?_
                  refine u_imul (v := (nI (55 * k))) h dX5_collect_75 (pk_mul 55 k) rfl ?_
                  refine u_iload_n h dX5_collect_76 rfl 0 rfl rfl ?_
                  refine u_iadd (v := (nI ((55 * k) + i))) h dX5_collect_77 (nI_add (55 * k) i) rfl ?_
                  refine u_iald h (n := ((55 * k) + i)) 2 rfl (by omega) (by omega) dX5_collect_78 rfl ?_
                  refine u_aload_n h dX5_collect_79 rfl 3 rfl rfl ?_
                  refine u_get h flX5_collect_7 0 (v := .ref (q 0)) rfl rfl dX5_collect_80 rfl ?_
                  refine u_iload_n h dX5_collect_83 rfl 0 rfl rfl ?_
                  refine u_iald h (n := i) 1 rfl (by omega) (by omega) dX5_collect_84 rfl ?_
                  have J9 : ∀ x10 : Int32, x10 = (bI (decide (f (55 * k + i) = z i))) → U G X 0 0 [(h0, .inr (5, mO q st ik ln sT (nI n) bo bt)), ((q 0), aI G 86 z), ((q 10), aI G 16500 f)] 93 [(3, .int (nI i)), (2, .int (bI sm)), (1, .int (nI k)), (0, .ref h0)] [.int x10] := by
                    intro x10 e9
                    subst e9
                    refine u_istore_n (lv' := [(2, .int (bI (decide (f (55 * k + i) = z i)))), (3, .int (nI i)), (1, .int (nI k)), (0, .ref h0)]) h dX5_collect_93 rfl (by rw [hL]; decide) rfl rfl ?_
                    refine u_iinc (k := 1) (v := (nI (i + 1))) (lv' := [(3, .int (nI (i + 1))), (2, .int (bI (decide (f (55 * k + i) = z i)))), (1, .int (nI k)), (0, .ref h0)]) h dX5_collect_94 rfl (nI_add i 1) (by rw [hL]; decide) rfl rfl ?_
                    refine u_goto (tgt := 58) h dX5_collect_97 (by decide) ?_
                    exact ihB _ (by omega) (i + 1) (decide (f (55 * k + i) = z i)) rfl (by omega) (by have h9 := hs; rw [c7] at h9; simp only [smI]; rw [← Bool.and_assoc, ← h9, Bool.true_and])
                  refine u_icmp_ne (tgt := 92) h dX5_collect_85 (by decide) rfl (fun c11 => ?_) (fun c11 => ?_)
                  · refine u_iconst (v := 0) h dX5_collect_92 (by decide) rfl ?_
                    exact J9 _ (by first | (simp [bI, c1, c5, c7, c11]; done) | (exfalso; first | exact absurd (c1.symm.trans c5) (by decide) | exact absurd (c1.symm.trans c7) (by decide) | exact absurd (c1.symm.trans c11) (by decide) | exact absurd (c5.symm.trans c1) (by decide) | exact absurd (c5.symm.trans c7) (by decide) | exact absurd (c5.symm.trans c11) (by decide) | exact absurd (c7.symm.trans c1) (by decide) | exact absurd (c7.symm.trans c5) (by decide) | exact absurd (c7.symm.trans c11) (by decide) | exact absurd (c11.symm.trans c1) (by decide) | exact absurd (c11.symm.trans c5) (by decide) | exact absurd (c11.symm.trans c7) (by decide)))
                  · refine u_iconst (v := 1) h dX5_collect_88 (by decide) rfl ?_
                    refine u_goto (tgt := 93) h dX5_collect_89 (by decide) ?_
                    exact J9 _ (by first | (simp [bI, c1, c5, c7, c11]; done) | (exfalso; first | exact absurd (c1.symm.trans c5) (by decide) | exact absurd (c1.symm.trans c7) (by decide) | exact absurd (c1.symm.trans c11) (by decide) | exact absurd (c5.symm.trans c1) (by decide) | exact absurd (c5.symm.trans c7) (by decide) | exact absurd (c5.symm.trans c11) (by decide) | exact absurd (c7.symm.trans c1) (by decide) | exact absurd (c7.symm.trans c5) (by decide) | exact absurd (c7.symm.trans c11) (by decide) | exact absurd (c11.symm.trans c1) (by decide) | exact absurd (c11.symm.trans c5) (by decide) | exact absurd (c11.symm.trans c7) (by decide)))
          exact LB _ 0 (bkB f bo bt k) rfl (Nat.zero_le _) (by simp [smI])
        refine u_icmp_ne (tgt := 54) h dX5_collect_26 (by decide) rfl (fun c12 => ?_) (fun c12 => ?_)
        · refine u_iconst (v := 0) h dX5_collect_54 (by decide) rfl ?_
          exact J3 _ (by first | (simp [bI, bkB, c1, c12]; done) | (exfalso; first | exact absurd (c1.symm.trans c12) (by decide) | exact absurd (c12.symm.trans c1) (by decide)))
        · refine u_aload_n h dX5_collect_29 rfl 1 rfl rfl ?_
          refine u_get h flX5_collect_40 0 (v := .ref (q 10)) rfl rfl dX5_collect_30 rfl ?_
          refine u_bipush (v := 55) h dX5_collect_33 (by decide) rfl ?_
          refine u_iload_n h dX5_collect_35 rfl 0 rfl rfl ?_
          refine u_imul (v := (nI (55 * k))) h dX5_collect_36 (pk_mul 55 k) rfl ?_
          refine u_bipush (v := 53) h dX5_collect_37 (by decide) rfl ?_
          refine u_iadd (v := (nI ((55 * k) + 53))) h dX5_collect_39 (nI_add (55 * k) 53) rfl ?_
          refine u_iconst (v := 1) h dX5_collect_40 (by decide) rfl ?_
          refine u_iadd (v := (nI (((55 * k) + 53) + 1))) h dX5_collect_41 (nI_add ((55 * k) + 53) 1) rfl ?_
          refine u_iald h (n := (((55 * k) + 53) + 1)) 2 rfl (by omega) (by omega) dX5_collect_42 rfl ?_
          refine u_aload_n h dX5_collect_43 rfl 1 rfl rfl ?_
          refine u_get h flX5_collect_149 0 (v := .int bt) rfl rfl dX5_collect_44 rfl ?_
          refine u_icmp_ne (tgt := 54) h dX5_collect_47 (by decide) rfl (fun c13 => ?_) (fun c13 => ?_)
          · refine u_iconst (v := 0) h dX5_collect_54 (by decide) rfl ?_
            exact J3 _ (by first | (simp [bI, bkB, c1, c12, c13]; done) | (exfalso; first | exact absurd (c1.symm.trans c12) (by decide) | exact absurd (c1.symm.trans c13) (by decide) | exact absurd (c12.symm.trans c1) (by decide) | exact absurd (c12.symm.trans c13) (by decide) | exact absurd (c13.symm.trans c1) (by decide) | exact absurd (c13.symm.trans c12) (by decide)))
          · refine u_iconst (v := 1) h dX5_collect_50 (by decide) rfl ?_
            refine u_goto (tgt := 55) h dX5_collect_51 (by decide) ?_
            exact J3 _ (by first | (simp [bI, bkB, c1, c12, c13]; done) | (exfalso; first | exact absurd (c1.symm.trans c12) (by decide) | exact absurd (c1.symm.trans c13) (by decide) | exact absurd (c12.symm.trans c1) (by decide) | exact absurd (c12.symm.trans c13) (by decide) | exact absurd (c13.symm.trans c1) (by decide) | exact absurd (c13.symm.trans c12) (by decide)))
  exact LA _ 0 rfl (Nat.zero_le _) rfl

theorem flX5_takeFound_40 : FL wsX5_takeFound RX5 40 5 14 := ⟨RX5, TX5, 18, rfl, by decide, by decide +kernel, by decide +kernel⟩
theorem flX5_takeFound_7 : FL wsX5_takeFound RX5 7 5 0 := ⟨RX5, TX5, 18, rfl, by decide, by decide +kernel, by decide +kernel⟩
theorem fwX5_takeFound_146 : FW wsX5_takeFound RX5 146 5 16 false .int := ⟨RX5, TX5, 18, tyX5, rfl, by decide, by decide +kernel, by decide +kernel, tyX5_ok, nmX5, rfl, by decide +kernel, rfl⟩
theorem fwX5_takeFound_149 : FW wsX5_takeFound RX5 149 5 17 false .int := ⟨RX5, TX5, 18, tyX5, rfl, by decide, by decide +kernel, by decide +kernel, tyX5_ok, nmX5, rfl, by decide +kernel, rfl⟩
set_option maxRecDepth 20000 in
theorem cwX5_takeFound_X5_copyRow : CWd wsX5_takeFound (wsS RX5 55 yX5_copyRow wsX5_copyRow) yX5_copyRow wsX5_copyRow cX5_copyRow 6 none 5 := ⟨gX5_takeFound_X5_copyRow, ⟨_, rfl⟩, by decide +kernel, by decide, by decide⟩
set_option maxHeartbeats 8000000 in
set_option maxRecDepth 100000 in
theorem kX5_takeFound (G : Gx) (h0 : Nat) (q : Nat → Nat) (st ik ln sT : Int32) (n : Int32) (bo bt : Int32) (z f : Zf) (k : Nat) (hk : k < 300) : MC G yX5_takeFound wsX5_takeFound ({ frames := 1, cells := 0, slots := 0, locals := 25 } : Room) [.ref h0, .int (nI k)] [(h0, .inr (5, mO q st ik ln sT n bo bt)), ((q 0), aI G 86 z), ((q 10), aI G 16500 f)] (fun v' u' => v' = none ∧ u' = [(h0, .inr (5, mO q st ik ln sT n (f (55 * k + 53)) (f (55 * k + 53 + 1)))), ((q 0), aI G 86 (tkZ f z k)), ((q 10), aI G 16500 f)]) 0 0 := by
  refine mc_of (cc := cX5_takeFound) (maxL := 2) (ret := none) (by decide) rfl (Nat.le_of_ble_eq_true rfl) (fun X h hR hL hRT => ?_)
  refine u_eql (lv' := [(0, .ref h0), (1, .int (nI k))]) rfl ?_
  refine u_aload_n h dX5_takeFound_0 rfl 0 rfl rfl ?_
  refine u_get h flX5_takeFound_40 0 (v := .ref (q 10)) rfl rfl dX5_takeFound_1 rfl ?_
  refine u_bipush (v := 55) h dX5_takeFound_4 (by decide) rfl ?_
  refine u_iload_n h dX5_takeFound_6 rfl 1 rfl rfl ?_
  refine u_imul (v := (nI (55 * k))) h dX5_takeFound_7 (pk_mul 55 k) rfl ?_
  refine u_aload_n h dX5_takeFound_8 rfl 0 rfl rfl ?_
  refine u_get h flX5_takeFound_7 0 (v := .ref (q 0)) rfl rfl dX5_takeFound_9 rfl ?_
  refine u_iconst (v := 0) h dX5_takeFound_12 (by decide) rfl ?_
  refine u_bipush (v := 53) h dX5_takeFound_13 (by decide) rfl ?_
  refine u_callS h (As := [.ref (q 10), .int (nI (55 * k)), .ref (q 0), .int 0, .int 53]) (wc := [((q 10), aI G 16500 f), ((q 0), aI G 86 z)]) (wr := [(h0, .inr (5, mO q st ik ln sT n bo bt))]) (kX5_copyRow G (q 10) (q 0) 16500 86 (55 * k) 0 53 f z (by omega) (by omega) (by omega) (by omega)) cwX5_takeFound_X5_copyRow rfl rfl hR ⟨⟨rfl, rfl⟩, by decide, by decide⟩ ⟨Nat.le_of_ble_eq_true rfl, Nat.le_of_ble_eq_true rfl⟩ [2, 1] [0] rfl rfl rfl rfl (by decide) (Nat.le_of_ble_eq_true rfl) rfl dX5_takeFound_15 rfl (fun v9 u9 hp9 => ?_)
  obtain ⟨rfl, rfl⟩ := hp9
  refine u_wp (ws' := [(h0, .inr (5, mO q st ik ln sT n bo bt)), ((q 0), aI G 86 (va_cpy f z (55 * k) 0 53)), ((q 10), aI G 16500 f)]) [0, 2, 1] rfl rfl ?_
  refine u_eqs (st' := []) rfl ?_
  refine u_aload_n h dX5_takeFound_18 rfl 0 rfl rfl ?_
  refine u_aload_n h dX5_takeFound_19 rfl 0 rfl rfl ?_
  refine u_get h flX5_takeFound_40 0 (v := .ref (q 10)) rfl rfl dX5_takeFound_20 rfl ?_
  refine u_bipush (v := 55) h dX5_takeFound_23 (by decide) rfl ?_
  refine u_iload_n h dX5_takeFound_25 rfl 1 rfl rfl ?_
  refine u_imul (v := (nI (55 * k))) h dX5_takeFound_26 (pk_mul 55 k) rfl ?_
  refine u_bipush (v := 53) h dX5_takeFound_27 (by decide) rfl ?_
  refine u_iadd (v := (nI ((55 * k) + 53))) h dX5_takeFound_29 (nI_add (55 * k) 53) rfl ?_
  refine u_iald h (n := ((55 * k) + 53)) 2 rfl (by omega) (by omega) dX5_takeFound_30 rfl ?_
  refine u_put h fwX5_takeFound_146 (ws' := [(h0, .inr (5, mO q st ik ln sT n (f ((55 * k) + 53)) bt)), ((q 0), aI G 86 (va_cpy f z (55 * k) 0 53)), ((q 10), aI G 16500 f)]) 0 rfl (Nat.le_of_ble_eq_true rfl) rfl rfl rfl dX5_takeFound_31 rfl ?_
  refine u_aload_n h dX5_takeFound_34 rfl 0 rfl rfl ?_
  refine u_aload_n h dX5_takeFound_35 rfl 0 rfl rfl ?_
  refine u_get h flX5_takeFound_40 0 (v := .ref (q 10)) rfl rfl dX5_takeFound_36 rfl ?_
  refine u_bipush (v := 55) h dX5_takeFound_39 (by decide) rfl ?_
  refine u_iload_n h dX5_takeFound_41 rfl 1 rfl rfl ?_
  refine u_imul (v := (nI (55 * k))) h dX5_takeFound_42 (pk_mul 55 k) rfl ?_
  refine u_bipush (v := 53) h dX5_takeFound_43 (by decide) rfl ?_
  refine u_iadd (v := (nI ((55 * k) + 53))) h dX5_takeFound_45 (nI_add (55 * k) 53) rfl ?_
  refine u_iconst (v := 1) h dX5_takeFound_46 (by decide) rfl ?_
  refine u_iadd (v := (nI (((55 * k) + 53) + 1))) h dX5_takeFound_47 (nI_add ((55 * k) + 53) 1) rfl ?_
  refine u_iald h (n := (((55 * k) + 53) + 1)) 2 rfl (by omega) (by omega) dX5_takeFound_48 rfl ?_
  refine u_put h fwX5_takeFound_149 (ws' := [(h0, .inr (5, mO q st ik ln sT n (f ((55 * k) + 53)) (f (((55 * k) + 53) + 1)))), ((q 0), aI G 86 (va_cpy f z (55 * k) 0 53)), ((q 10), aI G 16500 f)]) 0 rfl (Nat.le_of_ble_eq_true rfl) rfl rfl rfl dX5_takeFound_49 rfl ?_
  exact u_vret h hRT dX5_takeFound_52 (by omega) (by omega) (by exact ⟨rfl, rfl⟩)

theorem flX5_follow_146 : FL wsX5_follow RX5 146 5 16 := ⟨RX5, TX5, 18, rfl, by decide, by decide +kernel, by decide +kernel⟩
theorem flX5_follow_149 : FL wsX5_follow RX5 149 5 17 := ⟨RX5, TX5, 18, rfl, by decide, by decide +kernel, by decide +kernel⟩
theorem flX5_follow_7 : FL wsX5_follow RX5 7 5 0 := ⟨RX5, TX5, 18, rfl, by decide, by decide +kernel, by decide +kernel⟩
theorem fwX5_follow_149 : FW wsX5_follow RX5 149 5 17 false .int := ⟨RX5, TX5, 18, tyX5, rfl, by decide, by decide +kernel, by decide +kernel, tyX5_ok, nmX5, rfl, by decide +kernel, rfl⟩
theorem fwX5_follow_146 : FW wsX5_follow RX5 146 5 16 false .int := ⟨RX5, TX5, 18, tyX5, rfl, by decide, by decide +kernel, by decide +kernel, tyX5_ok, nmX5, rfl, by decide +kernel, rfl⟩
set_option maxRecDepth 20000 in
theorem cwX5_follow_X5_takeFound : CWd wsX5_follow (wsV RX5 152 RX5 yX5_takeFound wsX5_takeFound) yX5_takeFound wsX5_takeFound cX5_takeFound 2 none 1 := ⟨gX5_follow_X5_takeFound, ⟨_, rfl⟩, by decide +kernel, by decide, by decide⟩
set_option maxRecDepth 20000 in
theorem cwX5_follow_X5_isLook : CWd wsX5_follow (wsV RX5 86 RX5 yX5_isLook wsX5_isLook) yX5_isLook wsX5_isLook cX5_isLook 3 (some .boolean) 1 := ⟨gX5_follow_X5_isLook, ⟨_, rfl⟩, by decide +kernel, by decide, by decide⟩
set_option maxRecDepth 20000 in
theorem cwX5_follow_X5_change : CWd wsX5_follow (wsV RX5 94 RX5 yX5_change wsX5_change) yX5_change wsX5_change cX5_change 2 none 1 := ⟨gX5_follow_X5_change, ⟨_, rfl⟩, by decide +kernel, by decide, by decide⟩
set_option maxRecDepth 20000 in
theorem cwX5_follow_X5_collect : CWd wsX5_follow (wsV RX5 155 RX5 yX5_collect wsX5_collect) yX5_collect wsX5_collect cX5_collect 4 (some .boolean) 0 := ⟨gX5_follow_X5_collect, ⟨_, rfl⟩, by decide +kernel, by decide, by decide⟩
set_option maxHeartbeats 8000000 in
set_option maxRecDepth 100000 in
theorem kX5_follow (G : Gx) (h0 : Nat) (q : Nat → Nat) (st ik ln sT : Int32) (n : Nat) (hn : n ≤ 300) (bo bt : Int32) (z f : Zf) (k a b : Nat) (hk : k < n) (ha : a < 6) (hb : b < 6) (hW : Wf (tkZ f z k)) : MC G yX5_follow wsX5_follow ({ frames := 2, cells := 0, slots := 0, locals := 48 } : Room) [.ref h0, .int (nI k), .int (nI a), .int (nI b)] [(h0, .inr (5, mO q st ik ln sT (nI n) bo bt)), ((q 0), aI G 86 z), ((q 10), aI G 16500 f)] (fun v' u' => ∃ (z' : Zf) (bo' bt' : Int32), (∀ j : Nat, 53 ≤ j → z' j = z j) ∧ v' = some (.int (bI (fK2 f (tkZ f z k) k a b n))) ∧ u' = [(h0, .inr (5, mO q st ik ln sT (nI (fN2 f (tkZ f z k) k a b n)) bo' bt')), ((q 0), aI G 86 z'), ((q 10), aI G 16500 (fF2 f (tkZ f z k) k a b n))]) 0 0 := by
  refine mc_of (cc := cX5_follow) (maxL := 5) (ret := (some .boolean)) (by decide) rfl (Nat.le_of_ble_eq_true rfl) (fun X h hR hL hRT => ?_)
  refine u_eql (lv' := [(0, .ref h0), (1, .int (nI k)), (2, .int (nI a)), (3, .int (nI b))]) rfl ?_
  refine u_iconst (v := 1) h dX5_follow_0 (by decide) rfl ?_
  refine u_istore (lv' := [(4, .int 1), (0, .ref h0), (1, .int (nI k)), (2, .int (nI a)), (3, .int (nI b))]) h dX5_follow_1 (by rw [hL]; decide) rfl rfl ?_
  refine u_aload_n h dX5_follow_3 rfl 1 rfl rfl ?_
  refine u_iload_n h dX5_follow_4 rfl 2 rfl rfl ?_
  refine u_callV h (As := [.int (nI k)]) (wc := [(h0, .inr (5, mO q st ik ln sT (nI n) bo bt)), ((q 0), aI G 86 z), ((q 10), aI G 16500 f)]) (wr := []) (kX5_takeFound G h0 q st ik ln sT (nI n) bo bt z f k (by omega)) cwX5_follow_X5_takeFound rfl rfl hR ⟨⟨rfl, rfl⟩, by decide, by decide⟩ ⟨Nat.le_of_ble_eq_true rfl, Nat.le_of_ble_eq_true rfl⟩ (ci := 5) (qr := 0) rfl rfl [0, 1, 2] [] rfl rfl rfl rfl (by decide) (Nat.le_of_ble_eq_true rfl) rfl dX5_follow_5 rfl (fun v9 u9 hp9 => ?_)
  obtain ⟨rfl, rfl⟩ := hp9
  refine u_wp (ws' := [(h0, .inr (5, mO q st ik ln sT (nI n) (f (55 * k + 53)) (f (55 * k + 53 + 1)))), ((q 0), aI G 86 (tkZ f z k)), ((q 10), aI G 16500 f)]) [0, 1, 2] rfl rfl ?_
  refine u_eqs (st' := []) rfl ?_
  refine u_aload_n h dX5_follow_8 rfl 1 rfl rfl ?_
  refine u_get h flX5_follow_146 0 (v := .int (f (55 * k + 53))) rfl rfl dX5_follow_9 rfl ?_
  refine u_if_ne (tgt := 54) h dX5_follow_12 (by decide) rfl (fun c1 => ?_) (fun c1 => ?_)
  · refine u_aload_n h dX5_follow_54 rfl 1 rfl rfl ?_
    refine u_iload_n h dX5_follow_55 rfl 2 rfl rfl ?_
    refine u_callV h (As := [.int (nI k)]) (wc := [(h0, .inr (5, mO q st ik ln sT (nI n) (f (55 * k + 53)) (f (55 * k + 53 + 1)))), ((q 0), aI G 86 (tkZ f z k)), ((q 10), aI G 16500 f)]) (wr := []) (kX5_takeFound G h0 q st ik ln sT (nI n) (f (55 * k + 53)) (f (55 * k + 53 + 1)) (tkZ f z k) f k (by omega)) cwX5_follow_X5_takeFound rfl rfl hR ⟨⟨rfl, rfl⟩, by decide, by decide⟩ ⟨Nat.le_of_ble_eq_true rfl, Nat.le_of_ble_eq_true rfl⟩ (ci := 5) (qr := 0) rfl rfl [0, 1, 2] [] rfl rfl rfl rfl (by decide) (Nat.le_of_ble_eq_true rfl) rfl dX5_follow_56 rfl (fun v9 u9 hp9 => ?_)
    obtain ⟨rfl, rfl⟩ := hp9
    refine u_wp (ws' := [(h0, .inr (5, mO q st ik ln sT (nI n) (f (55 * k + 53)) (f (55 * k + 53 + 1)))), ((q 0), aI G 86 (tkZ f (tkZ f z k) k)), ((q 10), aI G 16500 f)]) [0, 1, 2] rfl rfl ?_
    refine u_eqs (st' := []) rfl ?_
    have eA : flA f (tkZ f z k) k a 53 = false := by simp [flA, c1]
    refine u_eqw (ws' := [(h0, .inr (5, mO q st ik ln sT (nI n) (f (55 * k + 53)) (f (55 * k + 53 + 1)))), ((q 0), aI G 86 (tkZ f z k)), ((q 10), aI G 16500 f)]) (by rw [tk_row (f := f) (z := z) (fun i hi => rfl) (fun j hj => tkZ_hi hj)]) ?_
    refine u_iload h dX5_follow_59 0 rfl rfl ?_
    refine u_if_eq_N (a := 1) (tgt := 110) h dX5_follow_61 (by decide) (by omega) rfl (fun c2 => ?_) (fun c2 => ?_)
    · exact absurd c2 (by decide)
    · refine u_aload_n h dX5_follow_64 rfl 1 rfl rfl ?_
      refine u_get h flX5_follow_149 0 (v := .int (f (55 * k + 53 + 1))) rfl rfl dX5_follow_65 rfl ?_
      refine u_if_ne (tgt := 110) h dX5_follow_68 (by decide) rfl (fun c3 => ?_) (fun c3 => ?_)
      · refine u_iload h dX5_follow_110 0 rfl rfl ?_
        exact u_zret h hRT dX5_follow_112 rfl (by omega) (by omega) (by exact ⟨(tkZ f z k), (f (55 * k + 53)), (f (55 * k + 53 + 1)), fun j hj => by first | (rw [tkZ_hi hj]; done) | (rw [chM_hi hW hb hj, tkZ_hi hj]), by simp [fK2, fA2, bI, fK1, fF1, fN1, eA, c2, c3], by simp [fF2, fN2, fA2, fK1, fF1, fN1, eA, c2, c3]⟩)
      · refine u_aload_n h dX5_follow_71 rfl 1 rfl rfl ?_
        refine u_iload_n h dX5_follow_72 rfl 4 rfl rfl ?_
        refine u_callV h (As := [.int (nI b)]) (wc := [(h0, .inr (5, mO q st ik ln sT (nI n) (f (55 * k + 53)) (f (55 * k + 53 + 1)))), ((q 0), aI G 86 (tkZ f z k))]) (wr := [((q 10), aI G 16500 f)]) (kX5_isLook G h0 (q 0) (mO q st ik ln sT (nI n) (f (55 * k + 53)) (f (55 * k + 53 + 1))) rfl (tkZ f z k) b hb hW) cwX5_follow_X5_isLook rfl rfl hR ⟨⟨rfl, rfl⟩, by decide, by decide⟩ ⟨Nat.le_of_ble_eq_true rfl, Nat.le_of_ble_eq_true rfl⟩ (ci := 5) (qr := 0) rfl rfl [0, 1] [2] rfl rfl rfl rfl (by decide) (Nat.le_of_ble_eq_true rfl) rfl dX5_follow_73 rfl (fun v9 u9 hp9 => ?_)
        obtain ⟨rfl, rfl⟩ := hp9
        refine u_wp (ws' := [(h0, .inr (5, mO q st ik ln sT (nI n) (f (55 * k + 53)) (f (55 * k + 53 + 1)))), ((q 0), aI G 86 (tkZ f z k)), ((q 10), aI G 16500 f)]) [1, 2, 0] rfl rfl ?_
        refine u_eqs (st' := [.int (bI (isLook (tkZ f z k) b))]) rfl ?_
        refine u_if_ne_B (tgt := 110) h dX5_follow_76 (by decide) rfl (fun c4 => ?_) (fun c4 => ?_)
        · refine u_iload h dX5_follow_110 0 rfl rfl ?_
          exact u_zret h hRT dX5_follow_112 rfl (by omega) (by omega) (by exact ⟨(tkZ f z k), (f (55 * k + 53)), (f (55 * k + 53 + 1)), fun j hj => by first | (rw [tkZ_hi hj]; done) | (rw [chM_hi hW hb hj, tkZ_hi hj]), by simp [fK2, fA2, bI, fK1, fF1, fN1, eA, c2, c3, c4], by simp [fF2, fN2, fA2, fK1, fF1, fN1, eA, c2, c3, c4]⟩)
        · refine u_aload_n h dX5_follow_79 rfl 1 rfl rfl ?_
          refine u_iload_n h dX5_follow_80 rfl 4 rfl rfl ?_
          refine u_callV h (As := [.int (nI b)]) (wc := [(h0, .inr (5, mO q st ik ln sT (nI n) (f (55 * k + 53)) (f (55 * k + 53 + 1)))), ((q 0), aI G 86 (tkZ f z k))]) (wr := [((q 10), aI G 16500 f)]) (kX5_change G h0 (q 0) (mO q st ik ln sT (nI n) (f (55 * k + 53)) (f (55 * k + 53 + 1))) rfl (tkZ f z k) b hb hW) cwX5_follow_X5_change rfl rfl hR ⟨⟨rfl, rfl⟩, by decide, by decide⟩ ⟨Nat.le_of_ble_eq_true rfl, Nat.le_of_ble_eq_true rfl⟩ (ci := 5) (qr := 0) rfl rfl [0, 1] [2] rfl rfl rfl rfl (by decide) (Nat.le_of_ble_eq_true rfl) rfl dX5_follow_81 rfl (fun v9 u9 hp9 => ?_)
          obtain ⟨rfl, rfl⟩ := hp9
          refine u_wp (ws' := [(h0, .inr (5, mO q st ik ln sT (nI n) (f (55 * k + 53)) (f (55 * k + 53 + 1)))), ((q 0), aI G 86 (chM (tkZ f z k) b)), ((q 10), aI G 16500 f)]) [1, 2, 0] rfl rfl ?_
          refine u_eqs (st' := []) rfl ?_
          refine u_aload_n h dX5_follow_84 rfl 1 rfl rfl ?_
          refine u_aload_n h dX5_follow_85 rfl 1 rfl rfl ?_
          refine u_get h flX5_follow_7 0 (v := .ref (q 0)) rfl rfl dX5_follow_86 rfl ?_
          refine u_iconst (v := 0) h dX5_follow_89 (by decide) rfl ?_
          refine u_iload_n h dX5_follow_90 rfl 4 rfl rfl ?_
          refine u_iadd (v := (nI b)) h dX5_follow_91 (by have h9 := nI_add 0 b; rw [Nat.zero_add] at h9; exact h9) rfl ?_
          refine u_iald h (n := b) 1 rfl (by omega) (by omega) dX5_follow_92 rfl ?_
          have J5 : ∀ x6 : Int32, x6 = (flb (tkZ f z k) b) → U G X 0 0 [(h0, .inr (5, mO q st ik ln sT (nI n) (f (55 * k + 53)) (f (55 * k + 53 + 1)))), ((q 0), aI G 86 (chM (tkZ f z k) b)), ((q 10), aI G 16500 f)] 101 [(4, .int 1), (0, .ref h0), (1, .int (nI k)), (2, .int (nI a)), (3, .int (nI b))] [.int x6, .ref h0] := by
            intro x6 e9
            subst e9
            refine u_put h fwX5_follow_149 (ws' := [(h0, .inr (5, mO q st ik ln sT (nI n) (f (55 * k + 53)) (flb (tkZ f z k) b))), ((q 0), aI G 86 (chM (tkZ f z k) b)), ((q 10), aI G 16500 f)]) 0 rfl (Nat.le_of_ble_eq_true rfl) rfl rfl rfl dX5_follow_101 rfl ?_
            refine u_aload_n h dX5_follow_104 rfl 1 rfl rfl ?_
            refine u_callV h (As := []) (wc := [(h0, .inr (5, mO q st ik ln sT (nI n) (f (55 * k + 53)) (flb (tkZ f z k) b))), ((q 0), aI G 86 (chM (tkZ f z k) b)), ((q 10), aI G 16500 f)]) (wr := []) (kX5_collect G h0 q st ik ln sT n hn (f (55 * k + 53)) (flb (tkZ f z k) b) (chM (tkZ f z k) b) f) cwX5_follow_X5_collect rfl rfl hR ⟨⟨rfl, rfl⟩, by decide, by decide⟩ ⟨Nat.le_of_ble_eq_true rfl, Nat.le_of_ble_eq_true rfl⟩ (ci := 5) (qr := 0) rfl rfl [0, 1, 2] [] rfl rfl rfl rfl (by decide) (Nat.le_of_ble_eq_true rfl) rfl dX5_follow_105 rfl (fun v9 u9 hp9 => ?_)
            obtain ⟨rfl, rfl⟩ := hp9
            refine u_wp (ws' := [(h0, .inr (5, mO q st ik ln sT (nI (colN f (chM (tkZ f z k) b) (f (55 * k + 53)) (flb (tkZ f z k) b) n)) (f (55 * k + 53)) (flb (tkZ f z k) b))), ((q 0), aI G 86 (chM (tkZ f z k) b)), ((q 10), aI G 16500 (colR f (chM (tkZ f z k) b) (f (55 * k + 53)) (flb (tkZ f z k) b) n))]) [0, 1, 2] rfl rfl ?_
            refine u_eqs (st' := [.int (bI (colB f (chM (tkZ f z k) b) (f (55 * k + 53)) (flb (tkZ f z k) b) n))]) rfl ?_
            refine u_istore (lv' := [(4, .int (bI (colB f (chM (tkZ f z k) b) (f (55 * k + 53)) (flb (tkZ f z k) b) n))), (0, .ref h0), (1, .int (nI k)), (2, .int (nI a)), (3, .int (nI b))]) h dX5_follow_108 (by rw [hL]; decide) rfl rfl ?_
            refine u_iload h dX5_follow_110 0 rfl rfl ?_
            exact u_zret h hRT dX5_follow_112 (bI_nar _) (by omega) (by omega) (by exact ⟨(chM (tkZ f z k) b), (f (55 * k + 53)), (flb (tkZ f z k) b), fun j hj => by first | (rw [tkZ_hi hj]; done) | (rw [chM_hi hW hb hj, tkZ_hi hj]), by simp [fK2, fA2, bI, fK1, fF1, fN1, eA, c2, c3, c4], by simp [fF2, fN2, fA2, fK1, fF1, fN1, eA, c2, c3, c4]⟩)
          refine u_if_ne (tgt := 100) h dX5_follow_93 (by decide) rfl (fun c7 => ?_) (fun c7 => ?_)
          · refine u_iconst (v := 0) h dX5_follow_100 (by decide) rfl ?_
            exact J5 _ (by first | (simp [flb, bI, c1, c2, c3, c4, c7]; done) | (exfalso; first | exact absurd (c1.symm.trans c2) (by decide) | exact absurd (c1.symm.trans c3) (by decide) | exact absurd (c1.symm.trans c4) (by decide) | exact absurd (c1.symm.trans c7) (by decide) | exact absurd (c2.symm.trans c1) (by decide) | exact absurd (c2.symm.trans c3) (by decide) | exact absurd (c2.symm.trans c4) (by decide) | exact absurd (c2.symm.trans c7) (by decide) | exact absurd (c3.symm.trans c1) (by decide) | exact absurd (c3.symm.trans c2) (by decide) | exact absurd (c3.symm.trans c4) (by decide) | exact absurd (c3.symm.trans c7) (by decide) | exact absurd (c4.symm.trans c1) (by decide) | exact absurd (c4.symm.trans c2) (by decide) | exact absurd (c4.symm.trans c3) (by decide) | exact absurd (c4.symm.trans c7) (by decide) | exact absurd (c7.symm.trans c1) (by decide) | exact absurd (c7.symm.trans c2) (by decide) | exact absurd (c7.symm.trans c3) (by decide) | exact absurd (c7.symm.trans c4) (by decide)))
          · refine u_iconst (v := 1) h dX5_follow_96 (by decide) rfl ?_
            refine u_goto (tgt := 101) h dX5_follow_97 (by decide) ?_
            exact J5 _ (by first | (simp [flb, bI, c1, c2, c3, c4, c7]; done) | (exfalso; first | exact absurd (c1.symm.trans c2) (by decide) | exact absurd (c1.symm.trans c3) (by decide) | exact absurd (c1.symm.trans c4) (by decide) | exact absurd (c1.symm.trans c7) (by decide) | exact absurd (c2.symm.trans c1) (by decide) | exact absurd (c2.symm.trans c3) (by decide) | exact absurd (c2.symm.trans c4) (by decide) | exact absurd (c2.symm.trans c7) (by decide) | exact absurd (c3.symm.trans c1) (by decide) | exact absurd (c3.symm.trans c2) (by decide) | exact absurd (c3.symm.trans c4) (by decide) | exact absurd (c3.symm.trans c7) (by decide) | exact absurd (c4.symm.trans c1) (by decide) | exact absurd (c4.symm.trans c2) (by decide) | exact absurd (c4.symm.trans c3) (by decide) | exact absurd (c4.symm.trans c7) (by decide) | exact absurd (c7.symm.trans c1) (by decide) | exact absurd (c7.symm.trans c2) (by decide) | exact absurd (c7.symm.trans c3) (by decide) | exact absurd (c7.symm.trans c4) (by decide)))
  · refine u_aload_n h dX5_follow_15 rfl 1 rfl rfl ?_
    refine u_iload_n h dX5_follow_16 rfl 3 rfl rfl ?_
    refine u_callV h (As := [.int (nI a)]) (wc := [(h0, .inr (5, mO q st ik ln sT (nI n) (f (55 * k + 53)) (f (55 * k + 53 + 1)))), ((q 0), aI G 86 (tkZ f z k))]) (wr := [((q 10), aI G 16500 f)]) (kX5_isLook G h0 (q 0) (mO q st ik ln sT (nI n) (f (55 * k + 53)) (f (55 * k + 53 + 1))) rfl (tkZ f z k) a ha hW) cwX5_follow_X5_isLook rfl rfl hR ⟨⟨rfl, rfl⟩, by decide, by decide⟩ ⟨Nat.le_of_ble_eq_true rfl, Nat.le_of_ble_eq_true rfl⟩ (ci := 5) (qr := 0) rfl rfl [0, 1] [2] rfl rfl rfl rfl (by decide) (Nat.le_of_ble_eq_true rfl) rfl dX5_follow_17 rfl (fun v9 u9 hp9 => ?_)
    obtain ⟨rfl, rfl⟩ := hp9
    refine u_wp (ws' := [(h0, .inr (5, mO q st ik ln sT (nI n) (f (55 * k + 53)) (f (55 * k + 53 + 1)))), ((q 0), aI G 86 (tkZ f z k)), ((q 10), aI G 16500 f)]) [1, 2, 0] rfl rfl ?_
    refine u_eqs (st' := [.int (bI (isLook (tkZ f z k) a))]) rfl ?_
    refine u_if_ne_B (tgt := 54) h dX5_follow_20 (by decide) rfl (fun c8 => ?_) (fun c8 => ?_)
    · refine u_aload_n h dX5_follow_54 rfl 1 rfl rfl ?_
      refine u_iload_n h dX5_follow_55 rfl 2 rfl rfl ?_
      refine u_callV h (As := [.int (nI k)]) (wc := [(h0, .inr (5, mO q st ik ln sT (nI n) (f (55 * k + 53)) (f (55 * k + 53 + 1)))), ((q 0), aI G 86 (tkZ f z k)), ((q 10), aI G 16500 f)]) (wr := []) (kX5_takeFound G h0 q st ik ln sT (nI n) (f (55 * k + 53)) (f (55 * k + 53 + 1)) (tkZ f z k) f k (by omega)) cwX5_follow_X5_takeFound rfl rfl hR ⟨⟨rfl, rfl⟩, by decide, by decide⟩ ⟨Nat.le_of_ble_eq_true rfl, Nat.le_of_ble_eq_true rfl⟩ (ci := 5) (qr := 0) rfl rfl [0, 1, 2] [] rfl rfl rfl rfl (by decide) (Nat.le_of_ble_eq_true rfl) rfl dX5_follow_56 rfl (fun v9 u9 hp9 => ?_)
      obtain ⟨rfl, rfl⟩ := hp9
      refine u_wp (ws' := [(h0, .inr (5, mO q st ik ln sT (nI n) (f (55 * k + 53)) (f (55 * k + 53 + 1)))), ((q 0), aI G 86 (tkZ f (tkZ f z k) k)), ((q 10), aI G 16500 f)]) [0, 1, 2] rfl rfl ?_
      refine u_eqs (st' := []) rfl ?_
      have eA : flA f (tkZ f z k) k a 53 = false := by simp [flA, c1, c8]
      refine u_eqw (ws' := [(h0, .inr (5, mO q st ik ln sT (nI n) (f (55 * k + 53)) (f (55 * k + 53 + 1)))), ((q 0), aI G 86 (tkZ f z k)), ((q 10), aI G 16500 f)]) (by rw [tk_row (f := f) (z := z) (fun i hi => rfl) (fun j hj => tkZ_hi hj)]) ?_
      refine u_iload h dX5_follow_59 0 rfl rfl ?_
      refine u_if_eq_N (a := 1) (tgt := 110) h dX5_follow_61 (by decide) (by omega) rfl (fun c9 => ?_) (fun c9 => ?_)
      · exact absurd c9 (by decide)
      · refine u_aload_n h dX5_follow_64 rfl 1 rfl rfl ?_
        refine u_get h flX5_follow_149 0 (v := .int (f (55 * k + 53 + 1))) rfl rfl dX5_follow_65 rfl ?_
        refine u_if_ne (tgt := 110) h dX5_follow_68 (by decide) rfl (fun c10 => ?_) (fun c10 => ?_)
        · refine u_iload h dX5_follow_110 0 rfl rfl ?_
          exact u_zret h hRT dX5_follow_112 rfl (by omega) (by omega) (by exact ⟨(tkZ f z k), (f (55 * k + 53)), (f (55 * k + 53 + 1)), fun j hj => by first | (rw [tkZ_hi hj]; done) | (rw [chM_hi hW hb hj, tkZ_hi hj]), by simp [fK2, fA2, bI, fK1, fF1, fN1, eA, c9, c10], by simp [fF2, fN2, fA2, fK1, fF1, fN1, eA, c9, c10]⟩)
        · refine u_aload_n h dX5_follow_71 rfl 1 rfl rfl ?_
          refine u_iload_n h dX5_follow_72 rfl 4 rfl rfl ?_
          refine u_callV h (As := [.int (nI b)]) (wc := [(h0, .inr (5, mO q st ik ln sT (nI n) (f (55 * k + 53)) (f (55 * k + 53 + 1)))), ((q 0), aI G 86 (tkZ f z k))]) (wr := [((q 10), aI G 16500 f)]) (kX5_isLook G h0 (q 0) (mO q st ik ln sT (nI n) (f (55 * k + 53)) (f (55 * k + 53 + 1))) rfl (tkZ f z k) b hb hW) cwX5_follow_X5_isLook rfl rfl hR ⟨⟨rfl, rfl⟩, by decide, by decide⟩ ⟨Nat.le_of_ble_eq_true rfl, Nat.le_of_ble_eq_true rfl⟩ (ci := 5) (qr := 0) rfl rfl [0, 1] [2] rfl rfl rfl rfl (by decide) (Nat.le_of_ble_eq_true rfl) rfl dX5_follow_73 rfl (fun v9 u9 hp9 => ?_)
          obtain ⟨rfl, rfl⟩ := hp9
          refine u_wp (ws' := [(h0, .inr (5, mO q st ik ln sT (nI n) (f (55 * k + 53)) (f (55 * k + 53 + 1)))), ((q 0), aI G 86 (tkZ f z k)), ((q 10), aI G 16500 f)]) [1, 2, 0] rfl rfl ?_
          refine u_eqs (st' := [.int (bI (isLook (tkZ f z k) b))]) rfl ?_
          refine u_if_ne_B (tgt := 110) h dX5_follow_76 (by decide) rfl (fun c11 => ?_) (fun c11 => ?_)
          · refine u_iload h dX5_follow_110 0 rfl rfl ?_
            exact u_zret h hRT dX5_follow_112 rfl (by omega) (by omega) (by exact ⟨(tkZ f z k), (f (55 * k + 53)), (f (55 * k + 53 + 1)), fun j hj => by first | (rw [tkZ_hi hj]; done) | (rw [chM_hi hW hb hj, tkZ_hi hj]), by simp [fK2, fA2, bI, fK1, fF1, fN1, eA, c9, c10, c11], by simp [fF2, fN2, fA2, fK1, fF1, fN1, eA, c9, c10, c11]⟩)
          · refine u_aload_n h dX5_follow_79 rfl 1 rfl rfl ?_
            refine u_iload_n h dX5_follow_80 rfl 4 rfl rfl ?_
            refine u_callV h (As := [.int (nI b)]) (wc := [(h0, .inr (5, mO q st ik ln sT (nI n) (f (55 * k + 53)) (f (55 * k + 53 + 1)))), ((q 0), aI G 86 (tkZ f z k))]) (wr := [((q 10), aI G 16500 f)]) (kX5_change G h0 (q 0) (mO q st ik ln sT (nI n) (f (55 * k + 53)) (f (55 * k + 53 + 1))) rfl (tkZ f z k) b hb hW) cwX5_follow_X5_change rfl rfl hR ⟨⟨rfl, rfl⟩, by decide, by decide⟩ ⟨Nat.le_of_ble_eq_true rfl, Nat.le_of_ble_eq_true rfl⟩ (ci := 5) (qr := 0) rfl rfl [0, 1] [2] rfl rfl rfl rfl (by decide) (Nat.le_of_ble_eq_true rfl) rfl dX5_follow_81 rfl (fun v9 u9 hp9 => ?_)
            obtain ⟨rfl, rfl⟩ := hp9
            refine u_wp (ws' := [(h0, .inr (5, mO q st ik ln sT (nI n) (f (55 * k + 53)) (f (55 * k + 53 + 1)))), ((q 0), aI G 86 (chM (tkZ f z k) b)), ((q 10), aI G 16500 f)]) [1, 2, 0] rfl rfl ?_
            refine u_eqs (st' := []) rfl ?_
            refine u_aload_n h dX5_follow_84 rfl 1 rfl rfl ?_
            refine u_aload_n h dX5_follow_85 rfl 1 rfl rfl ?_
            refine u_get h flX5_follow_7 0 (v := .ref (q 0)) rfl rfl dX5_follow_86 rfl ?_
            refine u_iconst (v := 0) h dX5_follow_89 (by decide) rfl ?_
            refine u_iload_n h dX5_follow_90 rfl 4 rfl rfl ?_
            refine u_iadd (v := (nI b)) h dX5_follow_91 (by have h9 := nI_add 0 b; rw [Nat.zero_add] at h9; exact h9) rfl ?_
            refine u_iald h (n := b) 1 rfl (by omega) (by omega) dX5_follow_92 rfl ?_
            have J12 : ∀ x13 : Int32, x13 = (flb (tkZ f z k) b) → U G X 0 0 [(h0, .inr (5, mO q st ik ln sT (nI n) (f (55 * k + 53)) (f (55 * k + 53 + 1)))), ((q 0), aI G 86 (chM (tkZ f z k) b)), ((q 10), aI G 16500 f)] 101 [(4, .int 1), (0, .ref h0), (1, .int (nI k)), (2, .int (nI a)), (3, .int (nI b))] [.int x13, .ref h0] := by
              intro x13 e9
              subst e9
              refine u_put h fwX5_follow_149 (ws' := [(h0, .inr (5, mO q st ik ln sT (nI n) (f (55 * k + 53)) (flb (tkZ f z k) b))), ((q 0), aI G 86 (chM (tkZ f z k) b)), ((q 10), aI G 16500 f)]) 0 rfl (Nat.le_of_ble_eq_true rfl) rfl rfl rfl dX5_follow_101 rfl ?_
              refine u_aload_n h dX5_follow_104 rfl 1 rfl rfl ?_
              refine u_callV h (As := []) (wc := [(h0, .inr (5, mO q st ik ln sT (nI n) (f (55 * k + 53)) (flb (tkZ f z k) b))), ((q 0), aI G 86 (chM (tkZ f z k) b)), ((q 10), aI G 16500 f)]) (wr := []) (kX5_collect G h0 q st ik ln sT n hn (f (55 * k + 53)) (flb (tkZ f z k) b) (chM (tkZ f z k) b) f) cwX5_follow_X5_collect rfl rfl hR ⟨⟨rfl, rfl⟩, by decide, by decide⟩ ⟨Nat.le_of_ble_eq_true rfl, Nat.le_of_ble_eq_true rfl⟩ (ci := 5) (qr := 0) rfl rfl [0, 1, 2] [] rfl rfl rfl rfl (by decide) (Nat.le_of_ble_eq_true rfl) rfl dX5_follow_105 rfl (fun v9 u9 hp9 => ?_)
              obtain ⟨rfl, rfl⟩ := hp9
              refine u_wp (ws' := [(h0, .inr (5, mO q st ik ln sT (nI (colN f (chM (tkZ f z k) b) (f (55 * k + 53)) (flb (tkZ f z k) b) n)) (f (55 * k + 53)) (flb (tkZ f z k) b))), ((q 0), aI G 86 (chM (tkZ f z k) b)), ((q 10), aI G 16500 (colR f (chM (tkZ f z k) b) (f (55 * k + 53)) (flb (tkZ f z k) b) n))]) [0, 1, 2] rfl rfl ?_
              refine u_eqs (st' := [.int (bI (colB f (chM (tkZ f z k) b) (f (55 * k + 53)) (flb (tkZ f z k) b) n))]) rfl ?_
              refine u_istore (lv' := [(4, .int (bI (colB f (chM (tkZ f z k) b) (f (55 * k + 53)) (flb (tkZ f z k) b) n))), (0, .ref h0), (1, .int (nI k)), (2, .int (nI a)), (3, .int (nI b))]) h dX5_follow_108 (by rw [hL]; decide) rfl rfl ?_
              refine u_iload h dX5_follow_110 0 rfl rfl ?_
              exact u_zret h hRT dX5_follow_112 (bI_nar _) (by omega) (by omega) (by exact ⟨(chM (tkZ f z k) b), (f (55 * k + 53)), (flb (tkZ f z k) b), fun j hj => by first | (rw [tkZ_hi hj]; done) | (rw [chM_hi hW hb hj, tkZ_hi hj]), by simp [fK2, fA2, bI, fK1, fF1, fN1, eA, c9, c10, c11], by simp [fF2, fN2, fA2, fK1, fF1, fN1, eA, c9, c10, c11]⟩)
            refine u_if_ne (tgt := 100) h dX5_follow_93 (by decide) rfl (fun c14 => ?_) (fun c14 => ?_)
            · refine u_iconst (v := 0) h dX5_follow_100 (by decide) rfl ?_
              exact J12 _ (by first | (simp [flb, bI, c1, c8, c9, c10, c11, c14]; done) | (exfalso; first | exact absurd (c1.symm.trans c8) (by decide) | exact absurd (c1.symm.trans c9) (by decide) | exact absurd (c1.symm.trans c10) (by decide) | exact absurd (c1.symm.trans c11) (by decide) | exact absurd (c1.symm.trans c14) (by decide) | exact absurd (c8.symm.trans c1) (by decide) | exact absurd (c8.symm.trans c9) (by decide) | exact absurd (c8.symm.trans c10) (by decide) | exact absurd (c8.symm.trans c11) (by decide) | exact absurd (c8.symm.trans c14) (by decide) | exact absurd (c9.symm.trans c1) (by decide) | exact absurd (c9.symm.trans c8) (by decide) | exact absurd (c9.symm.trans c10) (by decide) | exact absurd (c9.symm.trans c11) (by decide) | exact absurd (c9.symm.trans c14) (by decide) | exact absurd (c10.symm.trans c1) (by decide) | exact absurd (c10.symm.trans c8) (by decide) | exact absurd (c10.symm.trans c9) (by decide) | exact absurd (c10.symm.trans c11) (by decide) | exact absurd (c10.symm.trans c14) (by decide) | exact absurd (c11.symm.trans c1) (by decide) | exact absurd (c11.symm.trans c8) (by decide) | exact absurd (c11.symm.trans c9) (by decide) | exact absurd (c11.symm.trans c10) (by decide) | exact absurd (c11.symm.trans c14) (by decide) | exact absurd (c14.symm.trans c1) (by decide) | exact absurd (c14.symm.trans c8) (by decide) | exact absurd (c14.symm.trans c9) (by decide) | exact absurd (c14.symm.trans c10) (by decide) | exact absurd (c14.symm.trans c11) (by decide)))
            · refine u_iconst (v := 1) h dX5_follow_96 (by decide) rfl ?_
              refine u_goto (tgt := 101) h dX5_follow_97 (by decide) ?_
              exact J12 _ (by first | (simp [flb, bI, c1, c8, c9, c10, c11, c14]; done) | (exfalso; first | exact absurd (c1.symm.trans c8) (by decide) | exact absurd (c1.symm.trans c9) (by decide) | exact absurd (c1.symm.trans c10) (by decide) | exact absurd (c1.symm.trans c11) (by decide) | exact absurd (c1.symm.trans c14) (by decide) | exact absurd (c8.symm.trans c1) (by decide) | exact absurd (c8.symm.trans c9) (by decide) | exact absurd (c8.symm.trans c10) (by decide) | exact absurd (c8.symm.trans c11) (by decide) | exact absurd (c8.symm.trans c14) (by decide) | exact absurd (c9.symm.trans c1) (by decide) | exact absurd (c9.symm.trans c8) (by decide) | exact absurd (c9.symm.trans c10) (by decide) | exact absurd (c9.symm.trans c11) (by decide) | exact absurd (c9.symm.trans c14) (by decide) | exact absurd (c10.symm.trans c1) (by decide) | exact absurd (c10.symm.trans c8) (by decide) | exact absurd (c10.symm.trans c9) (by decide) | exact absurd (c10.symm.trans c11) (by decide) | exact absurd (c10.symm.trans c14) (by decide) | exact absurd (c11.symm.trans c1) (by decide) | exact absurd (c11.symm.trans c8) (by decide) | exact absurd (c11.symm.trans c9) (by decide) | exact absurd (c11.symm.trans c10) (by decide) | exact absurd (c11.symm.trans c14) (by decide) | exact absurd (c14.symm.trans c1) (by decide) | exact absurd (c14.symm.trans c8) (by decide) | exact absurd (c14.symm.trans c9) (by decide) | exact absurd (c14.symm.trans c10) (by decide) | exact absurd (c14.symm.trans c11) (by decide)))
    · refine u_aload_n h dX5_follow_23 rfl 1 rfl rfl ?_
      refine u_iload_n h dX5_follow_24 rfl 3 rfl rfl ?_
      refine u_callV h (As := [.int (nI a)]) (wc := [(h0, .inr (5, mO q st ik ln sT (nI n) (f (55 * k + 53)) (f (55 * k + 53 + 1)))), ((q 0), aI G 86 (tkZ f z k))]) (wr := [((q 10), aI G 16500 f)]) (kX5_change G h0 (q 0) (mO q st ik ln sT (nI n) (f (55 * k + 53)) (f (55 * k + 53 + 1))) rfl (tkZ f z k) a ha hW) cwX5_follow_X5_change rfl rfl hR ⟨⟨rfl, rfl⟩, by decide, by decide⟩ ⟨Nat.le_of_ble_eq_true rfl, Nat.le_of_ble_eq_true rfl⟩ (ci := 5) (qr := 0) rfl rfl [0, 1] [2] rfl rfl rfl rfl (by decide) (Nat.le_of_ble_eq_true rfl) rfl dX5_follow_25 rfl (fun v9 u9 hp9 => ?_)
      obtain ⟨rfl, rfl⟩ := hp9
      refine u_wp (ws' := [(h0, .inr (5, mO q st ik ln sT (nI n) (f (55 * k + 53)) (f (55 * k + 53 + 1)))), ((q 0), aI G 86 (chM (tkZ f z k) a)), ((q 10), aI G 16500 f)]) [1, 2, 0] rfl rfl ?_
      refine u_eqs (st' := []) rfl ?_
      refine u_aload_n h dX5_follow_28 rfl 1 rfl rfl ?_
      refine u_aload_n h dX5_follow_29 rfl 1 rfl rfl ?_
      refine u_get h flX5_follow_7 0 (v := .ref (q 0)) rfl rfl dX5_follow_30 rfl ?_
      refine u_iconst (v := 0) h dX5_follow_33 (by decide) rfl ?_
      refine u_iload_n h dX5_follow_34 rfl 3 rfl rfl ?_
      refine u_iadd (v := (nI a)) h dX5_follow_35 (by have h9 := nI_add 0 a; rw [Nat.zero_add] at h9; exact h9) rfl ?_
      refine u_iald h (n := a) 1 rfl (by omega) (by omega) dX5_follow_36 rfl ?_
      have J15 : ∀ x16 : Int32, x16 = (flb (tkZ f z k) a) → U G X 0 0 [(h0, .inr (5, mO q st ik ln sT (nI n) (f (55 * k + 53)) (f (55 * k + 53 + 1)))), ((q 0), aI G 86 (chM (tkZ f z k) a)), ((q 10), aI G 16500 f)] 45 [(4, .int 1), (0, .ref h0), (1, .int (nI k)), (2, .int (nI a)), (3, .int (nI b))] [.int x16, .ref h0] := by
        intro x16 e9
        subst e9
        refine u_put h fwX5_follow_146 (ws' := [(h0, .inr (5, mO q st ik ln sT (nI n) (flb (tkZ f z k) a) (f (55 * k + 53 + 1)))), ((q 0), aI G 86 (chM (tkZ f z k) a)), ((q 10), aI G 16500 f)]) 0 rfl (Nat.le_of_ble_eq_true rfl) rfl rfl rfl dX5_follow_45 rfl ?_
        refine u_aload_n h dX5_follow_48 rfl 1 rfl rfl ?_
        refine u_callV h (As := []) (wc := [(h0, .inr (5, mO q st ik ln sT (nI n) (flb (tkZ f z k) a) (f (55 * k + 53 + 1)))), ((q 0), aI G 86 (chM (tkZ f z k) a)), ((q 10), aI G 16500 f)]) (wr := []) (kX5_collect G h0 q st ik ln sT n hn (flb (tkZ f z k) a) (f (55 * k + 53 + 1)) (chM (tkZ f z k) a) f) cwX5_follow_X5_collect rfl rfl hR ⟨⟨rfl, rfl⟩, by decide, by decide⟩ ⟨Nat.le_of_ble_eq_true rfl, Nat.le_of_ble_eq_true rfl⟩ (ci := 5) (qr := 0) rfl rfl [0, 1, 2] [] rfl rfl rfl rfl (by decide) (Nat.le_of_ble_eq_true rfl) rfl dX5_follow_49 rfl (fun v9 u9 hp9 => ?_)
        obtain ⟨rfl, rfl⟩ := hp9
        refine u_wp (ws' := [(h0, .inr (5, mO q st ik ln sT (nI (colN f (chM (tkZ f z k) a) (flb (tkZ f z k) a) (f (55 * k + 53 + 1)) n)) (flb (tkZ f z k) a) (f (55 * k + 53 + 1)))), ((q 0), aI G 86 (chM (tkZ f z k) a)), ((q 10), aI G 16500 (colR f (chM (tkZ f z k) a) (flb (tkZ f z k) a) (f (55 * k + 53 + 1)) n))]) [0, 1, 2] rfl rfl ?_
        refine u_eqs (st' := [.int (bI (colB f (chM (tkZ f z k) a) (flb (tkZ f z k) a) (f (55 * k + 53 + 1)) n))]) rfl ?_
        refine u_istore (lv' := [(4, .int (bI (colB f (chM (tkZ f z k) a) (flb (tkZ f z k) a) (f (55 * k + 53 + 1)) n))), (0, .ref h0), (1, .int (nI k)), (2, .int (nI a)), (3, .int (nI b))]) h dX5_follow_52 (by rw [hL]; decide) rfl rfl ?_
        refine u_aload_n h dX5_follow_54 rfl 1 rfl rfl ?_
        refine u_iload_n h dX5_follow_55 rfl 2 rfl rfl ?_
        refine u_callV h (As := [.int (nI k)]) (wc := [(h0, .inr (5, mO q st ik ln sT (nI (colN f (chM (tkZ f z k) a) (flb (tkZ f z k) a) (f (55 * k + 53 + 1)) n)) (flb (tkZ f z k) a) (f (55 * k + 53 + 1)))), ((q 0), aI G 86 (chM (tkZ f z k) a)), ((q 10), aI G 16500 (colR f (chM (tkZ f z k) a) (flb (tkZ f z k) a) (f (55 * k + 53 + 1)) n))]) (wr := []) (kX5_takeFound G h0 q st ik ln sT (nI (colN f (chM (tkZ f z k) a) (flb (tkZ f z k) a) (f (55 * k + 53 + 1)) n)) (flb (tkZ f z k) a) (f (55 * k + 53 + 1)) (chM (tkZ f z k) a) (colR f (chM (tkZ f z k) a) (flb (tkZ f z k) a) (f (55 * k + 53 + 1)) n) k (by omega)) cwX5_follow_X5_takeFound rfl rfl hR ⟨⟨rfl, rfl⟩, by decide, by decide⟩ ⟨Nat.le_of_ble_eq_true rfl, Nat.le_of_ble_eq_true rfl⟩ (ci := 5) (qr := 0) rfl rfl [0, 1, 2] [] rfl rfl rfl rfl (by decide) (Nat.le_of_ble_eq_true rfl) rfl dX5_follow_56 rfl (fun v9 u9 hp9 => ?_)
        obtain ⟨rfl, rfl⟩ := hp9
        refine u_wp (ws' := [(h0, .inr (5, mO q st ik ln sT (nI (colN f (chM (tkZ f z k) a) (flb (tkZ f z k) a) (f (55 * k + 53 + 1)) n)) ((colR f (chM (tkZ f z k) a) (flb (tkZ f z k) a) (f (55 * k + 53 + 1)) n) (55 * k + 53)) ((colR f (chM (tkZ f z k) a) (flb (tkZ f z k) a) (f (55 * k + 53 + 1)) n) (55 * k + 53 + 1)))), ((q 0), aI G 86 (tkZ (colR f (chM (tkZ f z k) a) (flb (tkZ f z k) a) (f (55 * k + 53 + 1)) n) (chM (tkZ f z k) a) k)), ((q 10), aI G 16500 (colR f (chM (tkZ f z k) a) (flb (tkZ f z k) a) (f (55 * k + 53 + 1)) n))]) [0, 1, 2] rfl rfl ?_
        refine u_eqs (st' := []) rfl ?_
        have eA : flA f (tkZ f z k) k a 53 = true := by simp [flA, c1, c8]
        have eF : fF1 f (tkZ f z k) k a n = (colR f (chM (tkZ f z k) a) (flb (tkZ f z k) a) (f (55 * k + 53 + 1)) n) := by simp [fF1, eA, flb]
        have eN : fN1 f (tkZ f z k) k a n = colN f (chM (tkZ f z k) a) (flb (tkZ f z k) a) (f (55 * k + 53 + 1)) n := by simp [fN1, eA]
        have eK : fK1 f (tkZ f z k) k a n = colB f (chM (tkZ f z k) a) (flb (tkZ f z k) a) (f (55 * k + 53 + 1)) n := by simp [fK1, eA]
        have hN1 := fN1_le (f := f) (t := tkZ f z k) (k := k) (a := a) hn
        refine u_eqw (ws' := [(h0, .inr (5, mO q st ik ln sT (nI (fN1 f (tkZ f z k) k a n)) (f (55 * k + 53)) (f (55 * k + 53 + 1)))), ((q 0), aI G 86 (tkZ f z k)), ((q 10), aI G 16500 (fF1 f (tkZ f z k) k a n))]) (by rw [← eF, eN, fF1_row hk (by omega), show 55 * k + 53 + 1 = 55 * k + 54 from rfl, fF1_row hk (by omega), tk_row (fun i hi => fF1_row hk (by omega)) (fun j hj => by rw [chM_hi hW ha hj, tkZ_hi hj])]) ?_
        refine u_eql (lv' := [(4, .int (bI (fK1 f (tkZ f z k) k a n))), (0, .ref h0), (1, .int (nI k)), (2, .int (nI a)), (3, .int (nI b))]) (by rw [eK]) ?_
        refine u_iload h dX5_follow_59 0 rfl rfl ?_
        refine u_if_eq_B (tgt := 110) h dX5_follow_61 (by decide) rfl (fun c17 => ?_) (fun c17 => ?_)
        · refine u_iload h dX5_follow_110 0 rfl rfl ?_
          exact u_zret h hRT dX5_follow_112 (bI_nar _) (by omega) (by omega) (by exact ⟨(tkZ f z k), (f (55 * k + 53)), (f (55 * k + 53 + 1)), fun j hj => by first | (rw [tkZ_hi hj]; done) | (rw [chM_hi hW hb hj, tkZ_hi hj]), by simp [fK2, fA2, bI, c17], by simp [fF2, fN2, fA2, c17]⟩)
        · refine u_aload_n h dX5_follow_64 rfl 1 rfl rfl ?_
          refine u_get h flX5_follow_149 0 (v := .int (f (55 * k + 53 + 1))) rfl rfl dX5_follow_65 rfl ?_
          refine u_if_ne (tgt := 110) h dX5_follow_68 (by decide) rfl (fun c18 => ?_) (fun c18 => ?_)
          · refine u_iload h dX5_follow_110 0 rfl rfl ?_
            exact u_zret h hRT dX5_follow_112 (bI_nar _) (by omega) (by omega) (by exact ⟨(tkZ f z k), (f (55 * k + 53)), (f (55 * k + 53 + 1)), fun j hj => by first | (rw [tkZ_hi hj]; done) | (rw [chM_hi hW hb hj, tkZ_hi hj]), by simp [fK2, fA2, bI, c17, c18], by simp [fF2, fN2, fA2, c17, c18]⟩)
          · refine u_aload_n h dX5_follow_71 rfl 1 rfl rfl ?_
            refine u_iload_n h dX5_follow_72 rfl 4 rfl rfl ?_
            refine u_callV h (As := [.int (nI b)]) (wc := [(h0, .inr (5, mO q st ik ln sT (nI (fN1 f (tkZ f z k) k a n)) (f (55 * k + 53)) (f (55 * k + 53 + 1)))), ((q 0), aI G 86 (tkZ f z k))]) (wr := [((q 10), aI G 16500 (fF1 f (tkZ f z k) k a n))]) (kX5_isLook G h0 (q 0) (mO q st ik ln sT (nI (fN1 f (tkZ f z k) k a n)) (f (55 * k + 53)) (f (55 * k + 53 + 1))) rfl (tkZ f z k) b hb hW) cwX5_follow_X5_isLook rfl rfl hR ⟨⟨rfl, rfl⟩, by decide, by decide⟩ ⟨Nat.le_of_ble_eq_true rfl, Nat.le_of_ble_eq_true rfl⟩ (ci := 5) (qr := 0) rfl rfl [0, 1] [2] rfl rfl rfl rfl (by decide) (Nat.le_of_ble_eq_true rfl) rfl dX5_follow_73 rfl (fun v9 u9 hp9 => ?_)
            obtain ⟨rfl, rfl⟩ := hp9
            refine u_wp (ws' := [(h0, .inr (5, mO q st ik ln sT (nI (fN1 f (tkZ f z k) k a n)) (f (55 * k + 53)) (f (55 * k + 53 + 1)))), ((q 0), aI G 86 (tkZ f z k)), ((q 10), aI G 16500 (fF1 f (tkZ f z k) k a n))]) [1, 2, 0] rfl rfl ?_
            refine u_eqs (st' := [.int (bI (isLook (tkZ f z k) b))]) rfl ?_
            refine u_if_ne_B (tgt := 110) h dX5_follow_76 (by decide) rfl (fun c19 => ?_) (fun c19 => ?_)
            · refine u_iload h dX5_follow_110 0 rfl rfl ?_
              exact u_zret h hRT dX5_follow_112 (bI_nar _) (by omega) (by omega) (by exact ⟨(tkZ f z k), (f (55 * k + 53)), (f (55 * k + 53 + 1)), fun j hj => by first | (rw [tkZ_hi hj]; done) | (rw [chM_hi hW hb hj, tkZ_hi hj]), by simp [fK2, fA2, bI, c17, c18, c19], by simp [fF2, fN2, fA2, c17, c18, c19]⟩)
            · refine u_aload_n h dX5_follow_79 rfl 1 rfl rfl ?_
              refine u_iload_n h dX5_follow_80 rfl 4 rfl rfl ?_
              refine u_callV h (As := [.int (nI b)]) (wc := [(h0, .inr (5, mO q st ik ln sT (nI (fN1 f (tkZ f z k) k a n)) (f (55 * k + 53)) (f (55 * k + 53 + 1)))), ((q 0), aI G 86 (tkZ f z k))]) (wr := [((q 10), aI G 16500 (fF1 f (tkZ f z k) k a n))]) (kX5_change G h0 (q 0) (mO q st ik ln sT (nI (fN1 f (tkZ f z k) k a n)) (f (55 * k + 53)) (f (55 * k + 53 + 1))) rfl (tkZ f z k) b hb hW) cwX5_follow_X5_change rfl rfl hR ⟨⟨rfl, rfl⟩, by decide, by decide⟩ ⟨Nat.le_of_ble_eq_true rfl, Nat.le_of_ble_eq_true rfl⟩ (ci := 5) (qr := 0) rfl rfl [0, 1] [2] rfl rfl rfl rfl (by decide) (Nat.le_of_ble_eq_true rfl) rfl dX5_follow_81 rfl (fun v9 u9 hp9 => ?_)
              obtain ⟨rfl, rfl⟩ := hp9
              refine u_wp (ws' := [(h0, .inr (5, mO q st ik ln sT (nI (fN1 f (tkZ f z k) k a n)) (f (55 * k + 53)) (f (55 * k + 53 + 1)))), ((q 0), aI G 86 (chM (tkZ f z k) b)), ((q 10), aI G 16500 (fF1 f (tkZ f z k) k a n))]) [1, 2, 0] rfl rfl ?_
              refine u_eqs (st' := []) rfl ?_
              refine u_aload_n h dX5_follow_84 rfl 1 rfl rfl ?_
              refine u_aload_n h dX5_follow_85 rfl 1 rfl rfl ?_
              refine u_get h flX5_follow_7 0 (v := .ref (q 0)) rfl rfl dX5_follow_86 rfl ?_
              refine u_iconst (v := 0) h dX5_follow_89 (by decide) rfl ?_
              refine u_iload_n h dX5_follow_90 rfl 4 rfl rfl ?_
              refine u_iadd (v := (nI b)) h dX5_follow_91 (by have h9 := nI_add 0 b; rw [Nat.zero_add] at h9; exact h9) rfl ?_
              refine u_iald h (n := b) 1 rfl (by omega) (by omega) dX5_follow_92 rfl ?_
              have J20 : ∀ x21 : Int32, x21 = (flb (tkZ f z k) b) → U G X 0 0 [(h0, .inr (5, mO q st ik ln sT (nI (fN1 f (tkZ f z k) k a n)) (f (55 * k + 53)) (f (55 * k + 53 + 1)))), ((q 0), aI G 86 (chM (tkZ f z k) b)), ((q 10), aI G 16500 (fF1 f (tkZ f z k) k a n))] 101 [(4, .int (bI (fK1 f (tkZ f z k) k a n))), (0, .ref h0), (1, .int (nI k)), (2, .int (nI a)), (3, .int (nI b))] [.int x21, .ref h0] := by
                intro x21 e9
                subst e9
                refine u_put h fwX5_follow_149 (ws' := [(h0, .inr (5, mO q st ik ln sT (nI (fN1 f (tkZ f z k) k a n)) (f (55 * k + 53)) (flb (tkZ f z k) b))), ((q 0), aI G 86 (chM (tkZ f z k) b)), ((q 10), aI G 16500 (fF1 f (tkZ f z k) k a n))]) 0 rfl (Nat.le_of_ble_eq_true rfl) rfl rfl rfl dX5_follow_101 rfl ?_
                refine u_aload_n h dX5_follow_104 rfl 1 rfl rfl ?_
                refine u_callV h (As := []) (wc := [(h0, .inr (5, mO q st ik ln sT (nI (fN1 f (tkZ f z k) k a n)) (f (55 * k + 53)) (flb (tkZ f z k) b))), ((q 0), aI G 86 (chM (tkZ f z k) b)), ((q 10), aI G 16500 (fF1 f (tkZ f z k) k a n))]) (wr := []) (kX5_collect G h0 q st ik ln sT (fN1 f (tkZ f z k) k a n) hN1.2 (f (55 * k + 53)) (flb (tkZ f z k) b) (chM (tkZ f z k) b) (fF1 f (tkZ f z k) k a n)) cwX5_follow_X5_collect rfl rfl hR ⟨⟨rfl, rfl⟩, by decide, by decide⟩ ⟨Nat.le_of_ble_eq_true rfl, Nat.le_of_ble_eq_true rfl⟩ (ci := 5) (qr := 0) rfl rfl [0, 1, 2] [] rfl rfl rfl rfl (by decide) (Nat.le_of_ble_eq_true rfl) rfl dX5_follow_105 rfl (fun v9 u9 hp9 => ?_)
                obtain ⟨rfl, rfl⟩ := hp9
                refine u_wp (ws' := [(h0, .inr (5, mO q st ik ln sT (nI (colN (fF1 f (tkZ f z k) k a n) (chM (tkZ f z k) b) (f (55 * k + 53)) (flb (tkZ f z k) b) (fN1 f (tkZ f z k) k a n))) (f (55 * k + 53)) (flb (tkZ f z k) b))), ((q 0), aI G 86 (chM (tkZ f z k) b)), ((q 10), aI G 16500 (colR (fF1 f (tkZ f z k) k a n) (chM (tkZ f z k) b) (f (55 * k + 53)) (flb (tkZ f z k) b) (fN1 f (tkZ f z k) k a n)))]) [0, 1, 2] rfl rfl ?_
                refine u_eqs (st' := [.int (bI (colB (fF1 f (tkZ f z k) k a n) (chM (tkZ f z k) b) (f (55 * k + 53)) (flb (tkZ f z k) b) (fN1 f (tkZ f z k) k a n)))]) rfl ?_
                refine u_istore (lv' := [(4, .int (bI (colB (fF1 f (tkZ f z k) k a n) (chM (tkZ f z k) b) (f (55 * k + 53)) (flb (tkZ f z k) b) (fN1 f (tkZ f z k) k a n)))), (0, .ref h0), (1, .int (nI k)), (2, .int (nI a)), (3, .int (nI b))]) h dX5_follow_108 (by rw [hL]; decide) rfl rfl ?_
                refine u_iload h dX5_follow_110 0 rfl rfl ?_
                exact u_zret h hRT dX5_follow_112 (bI_nar _) (by omega) (by omega) (by exact ⟨(chM (tkZ f z k) b), (f (55 * k + 53)), (flb (tkZ f z k) b), fun j hj => by first | (rw [tkZ_hi hj]; done) | (rw [chM_hi hW hb hj, tkZ_hi hj]), by simp [fK2, fA2, bI, c17, c18, c19], by simp [fF2, fN2, fA2, c17, c18, c19]⟩)
              refine u_if_ne (tgt := 100) h dX5_follow_93 (by decide) rfl (fun c22 => ?_) (fun c22 => ?_)
              · refine u_iconst (v := 0) h dX5_follow_100 (by decide) rfl ?_
                exact J20 _ (by first | (simp [flb, bI, c1, c8, c17, c18, c19, c22]; done) | (exfalso; first | exact absurd (c1.symm.trans c8) (by decide) | exact absurd (c1.symm.trans c17) (by decide) | exact absurd (c1.symm.trans c18) (by decide) | exact absurd (c1.symm.trans c19) (by decide) | exact absurd (c1.symm.trans c22) (by decide) | exact absurd (c8.symm.trans c1) (by decide) | exact absurd (c8.symm.trans c17) (by decide) | exact absurd (c8.symm.trans c18) (by decide) | exact absurd (c8.symm.trans c19) (by decide) | exact absurd (c8.symm.trans c22) (by decide) | exact absurd (c17.symm.trans c1) (by decide) | exact absurd (c17.symm.trans c8) (by decide) | exact absurd (c17.symm.trans c18) (by decide) | exact absurd (c17.symm.trans c19) (by decide) | exact absurd (c17.symm.trans c22) (by decide) | exact absurd (c18.symm.trans c1) (by decide) | exact absurd (c18.symm.trans c8) (by decide) | exact absurd (c18.symm.trans c17) (by decide) | exact absurd (c18.symm.trans c19) (by decide) | exact absurd (c18.symm.trans c22) (by decide) | exact absurd (c19.symm.trans c1) (by decide) | exact absurd (c19.symm.trans c8) (by decide) | exact absurd (c19.symm.trans c17) (by decide) | exact absurd (c19.symm.trans c18) (by decide) | exact absurd (c19.symm.trans c22) (by decide) | exact absurd (c22.symm.trans c1) (by decide) | exact absurd (c22.symm.trans c8) (by decide) | exact absurd (c22.symm.trans c17) (by decide) | exact absurd (c22.symm.trans c18) (by decide) | exact absurd (c22.symm.trans c19) (by decide)))
              · refine u_iconst (v := 1) h dX5_follow_96 (by decide) rfl ?_
                refine u_goto (tgt := 101) h dX5_follow_97 (by decide) ?_
                exact J20 _ (by first | (simp [flb, bI, c1, c8, c17, c18, c19, c22]; done) | (exfalso; first | exact absurd (c1.symm.trans c8) (by decide) | exact absurd (c1.symm.trans c17) (by decide) | exact absurd (c1.symm.trans c18) (by decide) | exact absurd (c1.symm.trans c19) (by decide) | exact absurd (c1.symm.trans c22) (by decide) | exact absurd (c8.symm.trans c1) (by decide) | exact absurd (c8.symm.trans c17) (by decide) | exact absurd (c8.symm.trans c18) (by decide) | exact absurd (c8.symm.trans c19) (by decide) | exact absurd (c8.symm.trans c22) (by decide) | exact absurd (c17.symm.trans c1) (by decide) | exact absurd (c17.symm.trans c8) (by decide) | exact absurd (c17.symm.trans c18) (by decide) | exact absurd (c17.symm.trans c19) (by decide) | exact absurd (c17.symm.trans c22) (by decide) | exact absurd (c18.symm.trans c1) (by decide) | exact absurd (c18.symm.trans c8) (by decide) | exact absurd (c18.symm.trans c17) (by decide) | exact absurd (c18.symm.trans c19) (by decide) | exact absurd (c18.symm.trans c22) (by decide) | exact absurd (c19.symm.trans c1) (by decide) | exact absurd (c19.symm.trans c8) (by decide) | exact absurd (c19.symm.trans c17) (by decide) | exact absurd (c19.symm.trans c18) (by decide) | exact absurd (c19.symm.trans c22) (by decide) | exact absurd (c22.symm.trans c1) (by decide) | exact absurd (c22.symm.trans c8) (by decide) | exact absurd (c22.symm.trans c17) (by decide) | exact absurd (c22.symm.trans c18) (by decide) | exact absurd (c22.symm.trans c19) (by decide)))
      refine u_if_ne (tgt := 44) h dX5_follow_37 (by decide) rfl (fun c23 => ?_) (fun c23 => ?_)
      · refine u_iconst (v := 0) h dX5_follow_44 (by decide) rfl ?_
        exact J15 _ (by first | (simp [flb, bI, c1, c8, c23]; done) | (exfalso; first | exact absurd (c1.symm.trans c8) (by decide) | exact absurd (c1.symm.trans c23) (by decide) | exact absurd (c8.symm.trans c1) (by decide) | exact absurd (c8.symm.trans c23) (by decide) | exact absurd (c23.symm.trans c1) (by decide) | exact absurd (c23.symm.trans c8) (by decide)))
      · refine u_iconst (v := 1) h dX5_follow_40 (by decide) rfl ?_
        refine u_goto (tgt := 45) h dX5_follow_41 (by decide) ?_
        exact J15 _ (by first | (simp [flb, bI, c1, c8, c23]; done) | (exfalso; first | exact absurd (c1.symm.trans c8) (by decide) | exact absurd (c1.symm.trans c23) (by decide) | exact absurd (c8.symm.trans c1) (by decide) | exact absurd (c8.symm.trans c23) (by decide) | exact absurd (c23.symm.trans c1) (by decide) | exact absurd (c23.symm.trans c8) (by decide)))

theorem flX5_countFound_143 : FL wsX5_countFound RX5 143 5 15 := ⟨RX5, TX5, 18, rfl, by decide, by decide +kernel, by decide +kernel⟩
theorem flX5_countFound_7 : FL wsX5_countFound RX5 7 5 0 := ⟨RX5, TX5, 18, rfl, by decide, by decide +kernel, by decide +kernel⟩
theorem flX5_countFound_146 : FL wsX5_countFound RX5 146 5 16 := ⟨RX5, TX5, 18, rfl, by decide, by decide +kernel, by decide +kernel⟩
theorem flX5_countFound_149 : FL wsX5_countFound RX5 149 5 17 := ⟨RX5, TX5, 18, rfl, by decide, by decide +kernel, by decide +kernel⟩
set_option maxRecDepth 20000 in
theorem cwX5_countFound_X5_takeFound : CWd wsX5_countFound (wsV RX5 152 RX5 yX5_takeFound wsX5_takeFound) yX5_takeFound wsX5_takeFound cX5_takeFound 2 none 1 := ⟨gX5_countFound_X5_takeFound, ⟨_, rfl⟩, by decide +kernel, by decide, by decide⟩
set_option maxRecDepth 20000 in
theorem cwX5_countFound_X5_isLook : CWd wsX5_countFound (wsV RX5 86 RX5 yX5_isLook wsX5_isLook) yX5_isLook wsX5_isLook cX5_isLook 3 (some .boolean) 1 := ⟨gX5_countFound_X5_isLook, ⟨_, rfl⟩, by decide +kernel, by decide, by decide⟩
set_option maxHeartbeats 8000000 in
set_option maxRecDepth 100000 in
theorem kX5_countFound (G : Gx) (h0 : Nat) (q : Nat → Nat) (st ik ln sT : Int32) (n : Nat) (hn : n ≤ 300) (bo0 bt0 : Int32) (z y0 f : Zf) (hy : ∀ j : Nat, 53 ≤ j → y0 j = z j) (a b : Nat) (w : Bool) (ha : a < 6) (hb : b < 6) (hW : ∀ k : Nat, k < n → Wf (tkZ f z k)) : MC G yX5_countFound wsX5_countFound ({ frames := 2, cells := 0, slots := 0, locals := 46 } : Room) [.ref h0, .int (nI a), .int (nI b), .int (bI w)] [(h0, .inr (5, mO q st ik ln sT (nI n) bo0 bt0)), ((q 0), aI G 86 y0), ((q 10), aI G 16500 f)] (fun v' u' => ∃ (z' : Zf) (bo' bt' : Int32), (∀ j : Nat, 53 ≤ j → z' j = z j) ∧ v' = some (.int (cfN f z a b w n)) ∧ u' = [(h0, .inr (5, mO q st ik ln sT (nI n) bo' bt')), ((q 0), aI G 86 z'), ((q 10), aI G 16500 f)]) 0 0 := by
  refine mc_of (cc := cX5_countFound) (maxL := 8) (ret := (some .int)) (by decide) rfl (Nat.le_of_ble_eq_true rfl) (fun X h hR hL hRT => ?_)
  refine u_eql (lv' := [(0, .ref h0), (1, .int (nI a)), (2, .int (nI b)), (3, .int (bI w))]) rfl ?_
  refine u_iconst (v := 0) h dX5_countFound_0 (by decide) rfl ?_
  refine u_istore (lv' := [(4, .int 0), (0, .ref h0), (1, .int (nI a)), (2, .int (nI b)), (3, .int (bI w))]) h dX5_countFound_1 (by rw [hL]; decide) rfl rfl ?_
  refine u_iconst (v := 0) h dX5_countFound_3 (by decide) rfl ?_
  refine u_istore (lv' := [(5, .int 0), (4, .int 0), (0, .ref h0), (1, .int (nI a)), (2, .int (nI b)), (3, .int (bI w))]) h dX5_countFound_4 (by rw [hL]; decide) rfl rfl ?_
  have LL : ∀ (k9 : Nat) (k : Nat) (m : Int32) (y : Zf) (bo : Int32) (bt : Int32), n - k = k9 → (k ≤ n) → (m = cfN f z a b w k) → (∀ j : Nat, 53 ≤ j → y j = z j) → U G X 0 0 [(h0, .inr (5, mO q st ik ln sT (nI n) bo bt)), ((q 0), aI G 86 y), ((q 10), aI G 16500 f)] 6 [(5, .int (nI k)), (4, .int m), (0, .ref h0), (1, .int (nI a)), (2, .int (nI b)), (3, .int (bI w))] [] := by
    intro k9
    induction k9 using Nat.strongRecOn with
    | _ k9 ihL =>
      intro k m y bo bt hk9 hk hm hw
      subst hk9
      refine u_iload h dX5_countFound_6 0 rfl rfl ?_
      refine u_aload_n h dX5_countFound_8 rfl 2 rfl rfl ?_
      refine u_get h flX5_countFound_143 0 (v := .int (nI n)) rfl rfl dX5_countFound_9 rfl ?_
      refine u_icmp_ge_N (a := k) (b := n) (tgt := 138) h dX5_countFound_12 (by decide) (by omega) (by omega) rfl (fun c1 => ?_) (fun c1 => ?_)
      · refine u_iload h dX5_countFound_138 1 rfl rfl ?_
        exact u_iret h hRT dX5_countFound_140 (by omega) (by omega) (by exact ⟨y, bo, bt, hw, by rw [hm, show k = n by omega], rfl⟩)
      · refine u_aload_n h dX5_countFound_15 rfl 2 rfl rfl ?_
        refine u_iload h dX5_countFound_16 0 rfl rfl ?_
        refine u_callV h (As := [.int (nI k)]) (wc := [(h0, .inr (5, mO q st ik ln sT (nI n) bo bt)), ((q 0), aI G 86 y), ((q 10), aI G 16500 f)]) (wr := []) (kX5_takeFound G h0 q st ik ln sT (nI n) bo bt y f k (by omega)) cwX5_countFound_X5_takeFound rfl rfl hR ⟨⟨rfl, rfl⟩, by decide, by decide⟩ ⟨Nat.le_of_ble_eq_true rfl, Nat.le_of_ble_eq_true rfl⟩ (ci := 5) (qr := 0) rfl rfl [0, 1, 2] [] rfl rfl rfl rfl (by decide) (Nat.le_of_ble_eq_true rfl) rfl dX5_countFound_18 rfl (fun v9 u9 hp9 => ?_)
        obtain ⟨rfl, rfl⟩ := hp9
        refine u_wp (ws' := [(h0, .inr (5, mO q st ik ln sT (nI n) (f (55 * k + 53)) (f (55 * k + 53 + 1)))), ((q 0), aI G 86 (tkZ f y k)), ((q 10), aI G 16500 f)]) [0, 1, 2] rfl rfl ?_
        refine u_eqs (st' := []) rfl ?_
        refine u_eqw (ws' := [(h0, .inr (5, mO q st ik ln sT (nI n) (f (55 * k + 53)) (f (55 * k + 53 + 1)))), ((q 0), aI G 86 (tkZ f z k)), ((q 10), aI G 16500 f)]) (by rw [tk_row (f := f) (z := z) (fun i hi => rfl) hw]) ?_
        refine u_aload_n h dX5_countFound_21 rfl 2 rfl rfl ?_
        refine u_get h flX5_countFound_7 0 (v := .ref (q 0)) rfl rfl dX5_countFound_22 rfl ?_
        refine u_iconst (v := 0) h dX5_countFound_25 (by decide) rfl ?_
        refine u_iload_n h dX5_countFound_26 rfl 3 rfl rfl ?_
        refine u_iadd (v := (nI a)) h dX5_countFound_27 (by have h9 := nI_add 0 a; rw [Nat.zero_add] at h9; exact h9) rfl ?_
        refine u_iald h (n := a) 1 rfl (by omega) (by omega) dX5_countFound_28 rfl ?_
        refine u_iconst (v := 4) h dX5_countFound_29 (by decide) rfl ?_
        have J2 : ∀ x3 : Int32, x3 = (bI (inB2 (tkZ f z k) a b)) → U G X 0 0 [(h0, .inr (5, mO q st ik ln sT (nI n) (f (55 * k + 53)) (f (55 * k + 53 + 1)))), ((q 0), aI G 86 (tkZ f z k)), ((q 10), aI G 16500 f)] 50 [(5, .int (nI k)), (4, .int m), (0, .ref h0), (1, .int (nI a)), (2, .int (nI b)), (3, .int (bI w))] [.int x3] := by
          intro x3 e9
          subst e9
          refine u_istore (lv' := [(6, .int (bI (inB2 (tkZ f z k) a b))), (5, .int (nI k)), (4, .int m), (0, .ref h0), (1, .int (nI a)), (2, .int (nI b)), (3, .int (bI w))]) h dX5_countFound_50 (by rw [hL]; decide) rfl rfl ?_
          refine u_aload_n h dX5_countFound_52 rfl 3 rfl rfl ?_
          refine u_get h flX5_countFound_146 0 (v := .int (f (55 * k + 53))) rfl rfl dX5_countFound_53 rfl ?_
          have J4 : ∀ x5 : Int32, x5 = (bI (stuB f (tkZ f z k) k a b)) → U G X 0 0 [(h0, .inr (5, mO q st ik ln sT (nI n) (f (55 * k + 53)) (f (55 * k + 53 + 1)))), ((q 0), aI G 86 (tkZ f z k)), ((q 10), aI G 16500 f)] 103 [(6, .int (bI (inB2 (tkZ f z k) a b))), (5, .int (nI k)), (4, .int m), (0, .ref h0), (1, .int (nI a)), (2, .int (nI b)), (3, .int (bI w))] [.int x5] := by
            intro x5 e9
            subst e9
            refine u_istore (lv' := [(7, .int (bI (stuB f (tkZ f z k) k a b))), (6, .int (bI (inB2 (tkZ f z k) a b))), (5, .int (nI k)), (4, .int m), (0, .ref h0), (1, .int (nI a)), (2, .int (nI b)), (3, .int (bI w))]) h dX5_countFound_103 (by rw [hL]; decide) rfl rfl ?_
            refine u_iload h dX5_countFound_105 3 rfl rfl ?_
            refine u_iload_n h dX5_countFound_107 rfl 7 rfl rfl ?_
            have J6 : ∀ x7 : Int32, x7 = (bI (if w = true then inB2 (tkZ f z k) a b else stuB f (tkZ f z k) k a b)) → U G X 0 0 [(h0, .inr (5, mO q st ik ln sT (nI n) (f (55 * k + 53)) (f (55 * k + 53 + 1)))), ((q 0), aI G 86 (tkZ f z k)), ((q 10), aI G 16500 f)] 129 [(7, .int (bI (stuB f (tkZ f z k) k a b))), (6, .int (bI (inB2 (tkZ f z k) a b))), (5, .int (nI k)), (4, .int m), (0, .ref h0), (1, .int (nI a)), (2, .int (nI b)), (3, .int (bI w))] [.int x7, .int m] := by
              intro x7 e9
              subst e9
              refine u_iadd (v := (m + (bI (if w = true then inB2 (tkZ f z k) a b else stuB f (tkZ f z k) k a b)))) h dX5_countFound_129 rfl rfl ?_
              refine u_istore (lv' := [(4, .int (m + (bI (if w = true then inB2 (tkZ f z k) a b else stuB f (tkZ f z k) k a b)))), (7, .int (bI (stuB f (tkZ f z k) k a b))), (6, .int (bI (inB2 (tkZ f z k) a b))), (5, .int (nI k)), (0, .ref h0), (1, .int (nI a)), (2, .int (nI b)), (3, .int (bI w))]) h dX5_countFound_130 (by rw [hL]; decide) rfl rfl ?_
              refine u_iinc (k := 3) (v := (nI (k + 1))) (lv' := [(5, .int (nI (k + 1))), (4, .int (m + (bI (if w = true then inB2 (tkZ f z k) a b else stuB f (tkZ f z k) k a b)))), (7, .int (bI (stuB f (tkZ f z k) k a b))), (6, .int (bI (inB2 (tkZ f z k) a b))), (0, .ref h0), (1, .int (nI a)), (2, .int (nI b)), (3, .int (bI w))]) h dX5_countFound_132 rfl (nI_add k 1) (by rw [hL]; decide) rfl rfl ?_
              refine u_goto (tgt := 6) h dX5_countFound_135 (by decide) ?_
              refine u_lv (lv' := [(5, .int (nI (k + 1))), (4, .int (m + (bI (if w = true then inB2 (tkZ f z k) a b else stuB f (tkZ f z k) k a b)))), (0, .ref h0), (1, .int (nI a)), (2, .int (nI b)), (3, .int (bI w))]) [0, 1, 4, 5, 6, 7] rfl ?_
              exact ihL _ (by omega) (k + 1) (m + (bI (if w = true then inB2 (tkZ f z k) a b else stuB f (tkZ f z k) k a b))) (tkZ f z k) (f (55 * k + 53)) (f (55 * k + 53 + 1)) rfl (by omega) (by rw [hm]; rfl) (fun j hj => tkZ_hi hj)
            refine u_if_eq_B (tgt := 119) h dX5_countFound_108 (by decide) rfl (fun c8 => ?_) (fun c8 => ?_)
            · refine u_iload h dX5_countFound_119 0 rfl rfl ?_
              refine u_if_eq_B (tgt := 128) h dX5_countFound_121 (by decide) rfl (fun c9 => ?_) (fun c9 => ?_)
              · refine u_iconst (v := 0) h dX5_countFound_128 (by decide) rfl ?_
                exact J6 _ (by first | (simp [bI, c1, c8, c9]; done) | (exfalso; first | exact absurd (c1.symm.trans c8) (by decide) | exact absurd (c1.symm.trans c9) (by decide) | exact absurd (c8.symm.trans c1) (by decide) | exact absurd (c8.symm.trans c9) (by decide) | exact absurd (c9.symm.trans c1) (by decide) | exact absurd (c9.symm.trans c8) (by decide)))
              · refine u_iconst (v := 1) h dX5_countFound_124 (by decide) rfl ?_
                refine u_goto (tgt := 129) h dX5_countFound_125 (by decide) ?_
                exact J6 _ (by first | (simp [bI, c1, c8, c9]; done) | (exfalso; first | exact absurd (c1.symm.trans c8) (by decide) | exact absurd (c1.symm.trans c9) (by decide) | exact absurd (c8.symm.trans c1) (by decide) | exact absurd (c8.symm.trans c9) (by decide) | exact absurd (c9.symm.trans c1) (by decide) | exact absurd (c9.symm.trans c8) (by decide)))
            · refine u_iload h dX5_countFound_111 1 rfl rfl ?_
              refine u_if_eq_B (tgt := 128) h dX5_countFound_113 (by decide) rfl (fun c10 => ?_) (fun c10 => ?_)
              · refine u_iconst (v := 0) h dX5_countFound_128 (by decide) rfl ?_
                exact J6 _ (by first | (simp [bI, c1, c8, c10]; done) | (exfalso; first | exact absurd (c1.symm.trans c8) (by decide) | exact absurd (c1.symm.trans c10) (by decide) | exact absurd (c8.symm.trans c1) (by decide) | exact absurd (c8.symm.trans c10) (by decide) | exact absurd (c10.symm.trans c1) (by decide) | exact absurd (c10.symm.trans c8) (by decide)))
              · refine u_goto (tgt := 124) h dX5_countFound_116 (by decide) ?_
                refine u_iconst (v := 1) h dX5_countFound_124 (by decide) rfl ?_
                refine u_goto (tgt := 129) h dX5_countFound_125 (by decide) ?_
                exact J6 _ (by first | (simp [bI, c1, c8, c10]; done) | (exfalso; first | exact absurd (c1.symm.trans c8) (by decide) | exact absurd (c1.symm.trans c10) (by decide) | exact absurd (c8.symm.trans c1) (by decide) | exact absurd (c8.symm.trans c10) (by decide) | exact absurd (c10.symm.trans c1) (by decide) | exact absurd (c10.symm.trans c8) (by decide)))
          refine u_if_eq (tgt := 66) h dX5_countFound_56 (by decide) rfl (fun c11 => ?_) (fun c11 => ?_)
          · refine u_aload_n h dX5_countFound_66 rfl 3 rfl rfl ?_
            refine u_get h flX5_countFound_146 0 (v := .int (f (55 * k + 53))) rfl rfl dX5_countFound_67 rfl ?_
            refine u_iconst (v := 1) h dX5_countFound_70 (by decide) rfl ?_
            refine u_icmp_eq (tgt := 82) h dX5_countFound_71 (by decide) rfl (fun c12 => ?_) (fun c12 => ?_)
            · refine u_aload_n h dX5_countFound_82 rfl 3 rfl rfl ?_
              refine u_get h flX5_countFound_149 0 (v := .int (f (55 * k + 53 + 1))) rfl rfl dX5_countFound_83 rfl ?_
              refine u_iconst (v := 1) h dX5_countFound_86 (by decide) rfl ?_
              refine u_icmp_eq (tgt := 98) h dX5_countFound_87 (by decide) rfl (fun c13 => ?_) (fun c13 => ?_)
              · refine u_iconst (v := 1) h dX5_countFound_98 (by decide) rfl ?_
                refine u_goto (tgt := 103) h dX5_countFound_99 (by decide) ?_
                exact J4 _ (by first | (simp [bI, stuB, c1, c11, c12, c13]; done) | (exfalso; first | exact absurd (c1.symm.trans c11) (by decide) | exact absurd (c1.symm.trans c12) (by decide) | exact absurd (c1.symm.trans c13) (by decide) | exact absurd (c11.symm.trans c1) (by decide) | exact absurd (c11.symm.trans c12) (by decide) | exact absurd (c11.symm.trans c13) (by decide) | exact absurd (c12.symm.trans c1) (by decide) | exact absurd (c12.symm.trans c11) (by decide) | exact absurd (c12.symm.trans c13) (by decide) | exact absurd (c13.symm.trans c1) (by decide) | exact absurd (c13.symm.trans c11) (by decide) | exact absurd (c13.symm.trans c12) (by decide)))
              · refine u_aload_n h dX5_countFound_90 rfl 3 rfl rfl ?_
                refine u_iload_n h dX5_countFound_91 rfl 5 rfl rfl ?_
                refine u_callV h (As := [.int (nI b)]) (wc := [(h0, .inr (5, mO q st ik ln sT (nI n) (f (55 * k + 53)) (f (55 * k + 53 + 1)))), ((q 0), aI G 86 (tkZ f z k))]) (wr := [((q 10), aI G 16500 f)]) (kX5_isLook G h0 (q 0) (mO q st ik ln sT (nI n) (f (55 * k + 53)) (f (55 * k + 53 + 1))) rfl (tkZ f z k) b hb (hW k (by omega))) cwX5_countFound_X5_isLook rfl rfl hR ⟨⟨rfl, rfl⟩, by decide, by decide⟩ ⟨Nat.le_of_ble_eq_true rfl, Nat.le_of_ble_eq_true rfl⟩ (ci := 5) (qr := 0) rfl rfl [0, 1] [2] rfl rfl rfl rfl (by decide) (Nat.le_of_ble_eq_true rfl) rfl dX5_countFound_92 rfl (fun v9 u9 hp9 => ?_)
                obtain ⟨rfl, rfl⟩ := hp9
                refine u_wp (ws' := [(h0, .inr (5, mO q st ik ln sT (nI n) (f (55 * k + 53)) (f (55 * k + 53 + 1)))), ((q 0), aI G 86 (tkZ f z k)), ((q 10), aI G 16500 f)]) [1, 2, 0] rfl rfl ?_
                refine u_eqs (st' := [.int (bI (isLook (tkZ f z k) b))]) rfl ?_
                refine u_if_eq_B (tgt := 102) h dX5_countFound_95 (by decide) rfl (fun c14 => ?_) (fun c14 => ?_)
                · refine u_iconst (v := 0) h dX5_countFound_102 (by decide) rfl ?_
                  exact J4 _ (by first | (simp [bI, stuB, c1, c11, c12, c13, c14]; done) | (exfalso; first | exact absurd (c1.symm.trans c11) (by decide) | exact absurd (c1.symm.trans c12) (by decide) | exact absurd (c1.symm.trans c13) (by decide) | exact absurd (c1.symm.trans c14) (by decide) | exact absurd (c11.symm.trans c1) (by decide) | exact absurd (c11.symm.trans c12) (by decide) | exact absurd (c11.symm.trans c13) (by decide) | exact absurd (c11.symm.trans c14) (by decide) | exact absurd (c12.symm.trans c1) (by decide) | exact absurd (c12.symm.trans c11) (by decide) | exact absurd (c12.symm.trans c13) (by decide) | exact absurd (c12.symm.trans c14) (by decide) | exact absurd (c13.symm.trans c1) (by decide) | exact absurd (c13.symm.trans c11) (by decide) | exact absurd (c13.symm.trans c12) (by decide) | exact absurd (c13.symm.trans c14) (by decide) | exact absurd (c14.symm.trans c1) (by decide) | exact absurd (c14.symm.trans c11) (by decide) | exact absurd (c14.symm.trans c12) (by decide) | exact absurd (c14.symm.trans c13) (by decide)))
                · refine u_iconst (v := 1) h dX5_countFound_98 (by decide) rfl ?_
                  refine u_goto (tgt := 103) h dX5_countFound_99 (by decide) ?_
                  exact J4 _ (by first | (simp [bI, stuB, c1, c11, c12, c13, c14]; done) | (exfalso; first | exact absurd (c1.symm.trans c11) (by decide) | exact absurd (c1.symm.trans c12) (by decide) | exact absurd (c1.symm.trans c13) (by decide) | exact absurd (c1.symm.trans c14) (by decide) | exact absurd (c11.symm.trans c1) (by decide) | exact absurd (c11.symm.trans c12) (by decide) | exact absurd (c11.symm.trans c13) (by decide) | exact absurd (c11.symm.trans c14) (by decide) | exact absurd (c12.symm.trans c1) (by decide) | exact absurd (c12.symm.trans c11) (by decide) | exact absurd (c12.symm.trans c13) (by decide) | exact absurd (c12.symm.trans c14) (by decide) | exact absurd (c13.symm.trans c1) (by decide) | exact absurd (c13.symm.trans c11) (by decide) | exact absurd (c13.symm.trans c12) (by decide) | exact absurd (c13.symm.trans c14) (by decide) | exact absurd (c14.symm.trans c1) (by decide) | exact absurd (c14.symm.trans c11) (by decide) | exact absurd (c14.symm.trans c12) (by decide) | exact absurd (c14.symm.trans c13) (by decide)))
            · refine u_aload_n h dX5_countFound_74 rfl 3 rfl rfl ?_
              refine u_iload_n h dX5_countFound_75 rfl 4 rfl rfl ?_
              refine u_callV h (As := [.int (nI a)]) (wc := [(h0, .inr (5, mO q st ik ln sT (nI n) (f (55 * k + 53)) (f (55 * k + 53 + 1)))), ((q 0), aI G 86 (tkZ f z k))]) (wr := [((q 10), aI G 16500 f)]) (kX5_isLook G h0 (q 0) (mO q st ik ln sT (nI n) (f (55 * k + 53)) (f (55 * k + 53 + 1))) rfl (tkZ f z k) a ha (hW k (by omega))) cwX5_countFound_X5_isLook rfl rfl hR ⟨⟨rfl, rfl⟩, by decide, by decide⟩ ⟨Nat.le_of_ble_eq_true rfl, Nat.le_of_ble_eq_true rfl⟩ (ci := 5) (qr := 0) rfl rfl [0, 1] [2] rfl rfl rfl rfl (by decide) (Nat.le_of_ble_eq_true rfl) rfl dX5_countFound_76 rfl (fun v9 u9 hp9 => ?_)
              obtain ⟨rfl, rfl⟩ := hp9
              refine u_wp (ws' := [(h0, .inr (5, mO q st ik ln sT (nI n) (f (55 * k + 53)) (f (55 * k + 53 + 1)))), ((q 0), aI G 86 (tkZ f z k)), ((q 10), aI G 16500 f)]) [1, 2, 0] rfl rfl ?_
              refine u_eqs (st' := [.int (bI (isLook (tkZ f z k) a))]) rfl ?_
              refine u_if_eq_B (tgt := 102) h dX5_countFound_79 (by decide) rfl (fun c15 => ?_) (fun c15 => ?_)
              · refine u_iconst (v := 0) h dX5_countFound_102 (by decide) rfl ?_
                exact J4 _ (by first | (simp [bI, stuB, c1, c11, c12, c15]; done) | (exfalso; first | exact absurd (c1.symm.trans c11) (by decide) | exact absurd (c1.symm.trans c12) (by decide) | exact absurd (c1.symm.trans c15) (by decide) | exact absurd (c11.symm.trans c1) (by decide) | exact absurd (c11.symm.trans c12) (by decide) | exact absurd (c11.symm.trans c15) (by decide) | exact absurd (c12.symm.trans c1) (by decide) | exact absurd (c12.symm.trans c11) (by decide) | exact absurd (c12.symm.trans c15) (by decide) | exact absurd (c15.symm.trans c1) (by decide) | exact absurd (c15.symm.trans c11) (by decide) | exact absurd (c15.symm.trans c12) (by decide)))
              · refine u_aload_n h dX5_countFound_82 rfl 3 rfl rfl ?_
                refine u_get h flX5_countFound_149 0 (v := .int (f (55 * k + 53 + 1))) rfl rfl dX5_countFound_83 rfl ?_
                refine u_iconst (v := 1) h dX5_countFound_86 (by decide) rfl ?_
                refine u_icmp_eq (tgt := 98) h dX5_countFound_87 (by decide) rfl (fun c16 => ?_) (fun c16 => ?_)
                · refine u_iconst (v := 1) h dX5_countFound_98 (by decide) rfl ?_
                  refine u_goto (tgt := 103) h dX5_countFound_99 (by decide) ?_
                  exact J4 _ (by first | (simp [bI, stuB, c1, c11, c12, c15, c16]; done) | (exfalso; first | exact absurd (c1.symm.trans c11) (by decide) | exact absurd (c1.symm.trans c12) (by decide) | exact absurd (c1.symm.trans c15) (by decide) | exact absurd (c1.symm.trans c16) (by decide) | exact absurd (c11.symm.trans c1) (by decide) | exact absurd (c11.symm.trans c12) (by decide) | exact absurd (c11.symm.trans c15) (by decide) | exact absurd (c11.symm.trans c16) (by decide) | exact absurd (c12.symm.trans c1) (by decide) | exact absurd (c12.symm.trans c11) (by decide) | exact absurd (c12.symm.trans c15) (by decide) | exact absurd (c12.symm.trans c16) (by decide) | exact absurd (c15.symm.trans c1) (by decide) | exact absurd (c15.symm.trans c11) (by decide) | exact absurd (c15.symm.trans c12) (by decide) | exact absurd (c15.symm.trans c16) (by decide) | exact absurd (c16.symm.trans c1) (by decide) | exact absurd (c16.symm.trans c11) (by decide) | exact absurd (c16.symm.trans c12) (by decide) | exact absurd (c16.symm.trans c15) (by decide)))
                · refine u_aload_n h dX5_countFound_90 rfl 3 rfl rfl ?_
                  refine u_iload_n h dX5_countFound_91 rfl 5 rfl rfl ?_
                  refine u_callV h (As := [.int (nI b)]) (wc := [(h0, .inr (5, mO q st ik ln sT (nI n) (f (55 * k + 53)) (f (55 * k + 53 + 1)))), ((q 0), aI G 86 (tkZ f z k))]) (wr := [((q 10), aI G 16500 f)]) (kX5_isLook G h0 (q 0) (mO q st ik ln sT (nI n) (f (55 * k + 53)) (f (55 * k + 53 + 1))) rfl (tkZ f z k) b hb (hW k (by omega))) cwX5_countFound_X5_isLook rfl rfl hR ⟨⟨rfl, rfl⟩, by decide, by decide⟩ ⟨Nat.le_of_ble_eq_true rfl, Nat.le_of_ble_eq_true rfl⟩ (ci := 5) (qr := 0) rfl rfl [0, 1] [2] rfl rfl rfl rfl (by decide) (Nat.le_of_ble_eq_true rfl) rfl dX5_countFound_92 rfl (fun v9 u9 hp9 => ?_)
                  obtain ⟨rfl, rfl⟩ := hp9
                  refine u_wp (ws' := [(h0, .inr (5, mO q st ik ln sT (nI n) (f (55 * k + 53)) (f (55 * k + 53 + 1)))), ((q 0), aI G 86 (tkZ f z k)), ((q 10), aI G 16500 f)]) [1, 2, 0] rfl rfl ?_
                  refine u_eqs (st' := [.int (bI (isLook (tkZ f z k) b))]) rfl ?_
                  refine u_if_eq_B (tgt := 102) h dX5_countFound_95 (by decide) rfl (fun c17 => ?_) (fun c17 => ?_)
                  · refine u_iconst (v := 0) h dX5_countFound_102 (by decide) rfl ?_
                    exact J4 _ (by first | (simp [bI, stuB, c1, c11, c12, c15, c16, c17]; done) | (exfalso; first | exact absurd (c1.symm.trans c11) (by decide) | exact absurd (c1.symm.trans c12) (by decide) | exact absurd (c1.symm.trans c15) (by decide) | exact absurd (c1.symm.trans c16) (by decide) | exact absurd (c1.symm.trans c17) (by decide) | exact absurd (c11.symm.trans c1) (by decide) | exact absurd (c11.symm.trans c12) (by decide) | exact absurd (c11.symm.trans c15) (by decide) | exact absurd (c11.symm.trans c16) (by decide) | exact absurd (c11.symm.trans c17) (by decide) | exact absurd (c12.symm.trans c1) (by decide) | exact absurd (c12.symm.trans c11) (by decide) | exact absurd (c12.symm.trans c15) (by decide) | exact absurd (c12.symm.trans c16) (by decide) | exact absurd (c12.symm.trans c17) (by decide) | exact absurd (c15.symm.trans c1) (by decide) | exact absurd (c15.symm.trans c11) (by decide) | exact absurd (c15.symm.trans c12) (by decide) | exact absurd (c15.symm.trans c16) (by decide) | exact absurd (c15.symm.trans c17) (by decide) | exact absurd (c16.symm.trans c1) (by decide) | exact absurd (c16.symm.trans c11) (by decide) | exact absurd (c16.symm.trans c12) (by decide) | exact absurd (c16.symm.trans c15) (by decide) | exact absurd (c16.symm.trans c17) (by decide) | exact absurd (c17.symm.trans c1) (by decide) | exact absurd (c17.symm.trans c11) (by decide) | exact absurd (c17.symm.trans c12) (by decide) | exact absurd (c17.symm.trans c15) (by decide) | exact absurd (c17.symm.trans c16) (by decide)))
                  · refine u_iconst (v := 1) h dX5_countFound_98 (by decide) rfl ?_
                    refine u_goto (tgt := 103) h dX5_countFound_99 (by decide) ?_
                    exact J4 _ (by first | (simp [bI, stuB, c1, c11, c12, c15, c16, c17]; done) | (exfalso; first | exact absurd (c1.symm.trans c11) (by decide) | exact absurd (c1.symm.trans c12) (by decide) | exact absurd (c1.symm.trans c15) (by decide) | exact absurd (c1.symm.trans c16) (by decide) | exact absurd (c1.symm.trans c17) (by decide) | exact absurd (c11.symm.trans c1) (by decide) | exact absurd (c11.symm.trans c12) (by decide) | exact absurd (c11.symm.trans c15) (by decide) | exact absurd (c11.symm.trans c16) (by decide) | exact absurd (c11.symm.trans c17) (by decide) | exact absurd (c12.symm.trans c1) (by decide) | exact absurd (c12.symm.trans c11) (by decide) | exact absurd (c12.symm.trans c15) (by decide) | exact absurd (c12.symm.trans c16) (by decide) | exact absurd (c12.symm.trans c17) (by decide) | exact absurd (c15.symm.trans c1) (by decide) | exact absurd (c15.symm.trans c11) (by decide) | exact absurd (c15.symm.trans c12) (by decide) | exact absurd (c15.symm.trans c16) (by decide) | exact absurd (c15.symm.trans c17) (by decide) | exact absurd (c16.symm.trans c1) (by decide) | exact absurd (c16.symm.trans c11) (by decide) | exact absurd (c16.symm.trans c12) (by decide) | exact absurd (c16.symm.trans c15) (by decide) | exact absurd (c16.symm.trans c17) (by decide) | exact absurd (c17.symm.trans c1) (by decide) | exact absurd (c17.symm.trans c11) (by decide) | exact absurd (c17.symm.trans c12) (by decide) | exact absurd (c17.symm.trans c15) (by decide) | exact absurd (c17.symm.trans c16) (by decide)))
          · refine u_aload_n h dX5_countFound_59 rfl 3 rfl rfl ?_
            refine u_get h flX5_countFound_149 0 (v := .int (f (55 * k + 53 + 1))) rfl rfl dX5_countFound_60 rfl ?_
            refine u_if_ne (tgt := 102) h dX5_countFound_63 (by decide) rfl (fun c18 => ?_) (fun c18 => ?_)
            · refine u_iconst (v := 0) h dX5_countFound_102 (by decide) rfl ?_
              exact J4 _ (by first | (simp [bI, stuB, c1, c11, c18]; done) | (exfalso; first | exact absurd (c1.symm.trans c11) (by decide) | exact absurd (c1.symm.trans c18) (by decide) | exact absurd (c11.symm.trans c1) (by decide) | exact absurd (c11.symm.trans c18) (by decide) | exact absurd (c18.symm.trans c1) (by decide) | exact absurd (c18.symm.trans c11) (by decide)))
            · refine u_aload_n h dX5_countFound_66 rfl 3 rfl rfl ?_
              refine u_get h flX5_countFound_146 0 (v := .int (f (55 * k + 53))) rfl rfl dX5_countFound_67 rfl ?_
              refine u_iconst (v := 1) h dX5_countFound_70 (by decide) rfl ?_
              refine u_icmp_eq (tgt := 82) h dX5_countFound_71 (by decide) rfl (fun c19 => ?_) (fun c19 => ?_)
              · refine u_aload_n h dX5_countFound_82 rfl 3 rfl rfl ?_
                refine u_get h flX5_countFound_149 0 (v := .int (f (55 * k + 53 + 1))) rfl rfl dX5_countFound_83 rfl ?_
                refine u_iconst (v := 1) h dX5_countFound_86 (by decide) rfl ?_
                refine u_icmp_eq (tgt := 98) h dX5_countFound_87 (by decide) rfl (fun c20 => ?_) (fun c20 => ?_)
                · refine u_iconst (v := 1) h dX5_countFound_98 (by decide) rfl ?_
                  refine u_goto (tgt := 103) h dX5_countFound_99 (by decide) ?_
                  exact J4 _ (by first | (simp [bI, stuB, c1, c11, c18, c19, c20]; done) | (exfalso; first | exact absurd (c1.symm.trans c11) (by decide) | exact absurd (c1.symm.trans c18) (by decide) | exact absurd (c1.symm.trans c19) (by decide) | exact absurd (c1.symm.trans c20) (by decide) | exact absurd (c11.symm.trans c1) (by decide) | exact absurd (c11.symm.trans c18) (by decide) | exact absurd (c11.symm.trans c19) (by decide) | exact absurd (c11.symm.trans c20) (by decide) | exact absurd (c18.symm.trans c1) (by decide) | exact absurd (c18.symm.trans c11) (by decide) | exact absurd (c18.symm.trans c19) (by decide) | exact absurd (c18.symm.trans c20) (by decide) | exact absurd (c19.symm.trans c1) (by decide) | exact absurd (c19.symm.trans c11) (by decide) | exact absurd (c19.symm.trans c18) (by decide) | exact absurd (c19.symm.trans c20) (by decide) | exact absurd (c20.symm.trans c1) (by decide) | exact absurd (c20.symm.trans c11) (by decide) | exact absurd (c20.symm.trans c18) (by decide) | exact absurd (c20.symm.trans c19) (by decide)))
                · refine u_aload_n h dX5_countFound_90 rfl 3 rfl rfl ?_
                  refine u_iload_n h dX5_countFound_91 rfl 5 rfl rfl ?_
                  refine u_callV h (As := [.int (nI b)]) (wc := [(h0, .inr (5, mO q st ik ln sT (nI n) (f (55 * k + 53)) (f (55 * k + 53 + 1)))), ((q 0), aI G 86 (tkZ f z k))]) (wr := [((q 10), aI G 16500 f)]) (kX5_isLook G h0 (q 0) (mO q st ik ln sT (nI n) (f (55 * k + 53)) (f (55 * k + 53 + 1))) rfl (tkZ f z k) b hb (hW k (by omega))) cwX5_countFound_X5_isLook rfl rfl hR ⟨⟨rfl, rfl⟩, by decide, by decide⟩ ⟨Nat.le_of_ble_eq_true rfl, Nat.le_of_ble_eq_true rfl⟩ (ci := 5) (qr := 0) rfl rfl [0, 1] [2] rfl rfl rfl rfl (by decide) (Nat.le_of_ble_eq_true rfl) rfl dX5_countFound_92 rfl (fun v9 u9 hp9 => ?_)
                  obtain ⟨rfl, rfl⟩ := hp9
                  refine u_wp (ws' := [(h0, .inr (5, mO q st ik ln sT (nI n) (f (55 * k + 53)) (f (55 * k + 53 + 1)))), ((q 0), aI G 86 (tkZ f z k)), ((q 10), aI G 16500 f)]) [1, 2, 0] rfl rfl ?_
                  refine u_eqs (st' := [.int (bI (isLook (tkZ f z k) b))]) rfl ?_
                  refine u_if_eq_B (tgt := 102) h dX5_countFound_95 (by decide) rfl (fun c21 => ?_) (fun c21 => ?_)
                  · refine u_iconst (v := 0) h dX5_countFound_102 (by decide) rfl ?_
                    exact J4 _ (by first | (simp [bI, stuB, c1, c11, c18, c19, c20, c21]; done) | (exfalso; first | exact absurd (c1.symm.trans c11) (by decide) | exact absurd (c1.symm.trans c18) (by decide) | exact absurd (c1.symm.trans c19) (by decide) | exact absurd (c1.symm.trans c20) (by decide) | exact absurd (c1.symm.trans c21) (by decide) | exact absurd (c11.symm.trans c1) (by decide) | exact absurd (c11.symm.trans c18) (by decide) | exact absurd (c11.symm.trans c19) (by decide) | exact absurd (c11.symm.trans c20) (by decide) | exact absurd (c11.symm.trans c21) (by decide) | exact absurd (c18.symm.trans c1) (by decide) | exact absurd (c18.symm.trans c11) (by decide) | exact absurd (c18.symm.trans c19) (by decide) | exact absurd (c18.symm.trans c20) (by decide) | exact absurd (c18.symm.trans c21) (by decide) | exact absurd (c19.symm.trans c1) (by decide) | exact absurd (c19.symm.trans c11) (by decide) | exact absurd (c19.symm.trans c18) (by decide) | exact absurd (c19.symm.trans c20) (by decide) | exact absurd (c19.symm.trans c21) (by decide) | exact absurd (c20.symm.trans c1) (by decide) | exact absurd (c20.symm.trans c11) (by decide) | exact absurd (c20.symm.trans c18) (by decide) | exact absurd (c20.symm.trans c19) (by decide) | exact absurd (c20.symm.trans c21) (by decide) | exact absurd (c21.symm.trans c1) (by decide) | exact absurd (c21.symm.trans c11) (by decide) | exact absurd (c21.symm.trans c18) (by decide) | exact absurd (c21.symm.trans c19) (by decide) | exact absurd (c21.symm.trans c20) (by decide)))
                  · refine u_iconst (v := 1) h dX5_countFound_98 (by decide) rfl ?_
                    refine u_goto (tgt := 103) h dX5_countFound_99 (by decide) ?_
                    exact J4 _ (by first | (simp [bI, stuB, c1, c11, c18, c19, c20, c21]; done) | (exfalso; first | exact absurd (c1.symm.trans c11) (by decide) | exact absurd (c1.symm.trans c18) (by decide) | exact absurd (c1.symm.trans c19) (by decide) | exact absurd (c1.symm.trans c20) (by decide) | exact absurd (c1.symm.trans c21) (by decide) | exact absurd (c11.symm.trans c1) (by decide) | exact absurd (c11.symm.trans c18) (by decide) | exact absurd (c11.symm.trans c19) (by decide) | exact absurd (c11.symm.trans c20) (by decide) | exact absurd (c11.symm.trans c21) (by decide) | exact absurd (c18.symm.trans c1) (by decide) | exact absurd (c18.symm.trans c11) (by decide) | exact absurd (c18.symm.trans c19) (by decide) | exact absurd (c18.symm.trans c20) (by decide) | exact absurd (c18.symm.trans c21) (by decide) | exact absurd (c19.symm.trans c1) (by decide) | exact absurd (c19.symm.trans c11) (by decide) | exact absurd (c19.symm.trans c18) (by decide) | exact absurd (c19.symm.trans c20) (by decide) | exact absurd (c19.symm.trans c21) (by decide) | exact absurd (c20.symm.trans c1) (by decide) | exact absurd (c20.symm.trans c11) (by decide) | exact absurd (c20.symm.trans c18) (by decide) | exact absurd (c20.symm.trans c19) (by decide) | exact absurd (c20.symm.trans c21) (by decide) | exact absurd (c21.symm.trans c1) (by decide) | exact absurd (c21.symm.trans c11) (by decide) | exact absurd (c21.symm.trans c18) (by decide) | exact absurd (c21.symm.trans c19) (by decide) | exact absurd (c21.symm.trans c20) (by decide)))
              · refine u_aload_n h dX5_countFound_74 rfl 3 rfl rfl ?_
                refine u_iload_n h dX5_countFound_75 rfl 4 rfl rfl ?_
                refine u_callV h (As := [.int (nI a)]) (wc := [(h0, .inr (5, mO q st ik ln sT (nI n) (f (55 * k + 53)) (f (55 * k + 53 + 1)))), ((q 0), aI G 86 (tkZ f z k))]) (wr := [((q 10), aI G 16500 f)]) (kX5_isLook G h0 (q 0) (mO q st ik ln sT (nI n) (f (55 * k + 53)) (f (55 * k + 53 + 1))) rfl (tkZ f z k) a ha (hW k (by omega))) cwX5_countFound_X5_isLook rfl rfl hR ⟨⟨rfl, rfl⟩, by decide, by decide⟩ ⟨Nat.le_of_ble_eq_true rfl, Nat.le_of_ble_eq_true rfl⟩ (ci := 5) (qr := 0) rfl rfl [0, 1] [2] rfl rfl rfl rfl (by decide) (Nat.le_of_ble_eq_true rfl) rfl dX5_countFound_76 rfl (fun v9 u9 hp9 => ?_)
                obtain ⟨rfl, rfl⟩ := hp9
                refine u_wp (ws' := [(h0, .inr (5, mO q st ik ln sT (nI n) (f (55 * k + 53)) (f (55 * k + 53 + 1)))), ((q 0), aI G 86 (tkZ f z k)), ((q 10), aI G 16500 f)]) [1, 2, 0] rfl rfl ?_
                refine u_eqs (st' := [.int (bI (isLook (tkZ f z k) a))]) rfl ?_
                refine u_if_eq_B (tgt := 102) h dX5_countFound_79 (by decide) rfl (fun c22 => ?_) (fun c22 => ?_)
                · refine u_iconst (v := 0) h dX5_countFound_102 (by decide) rfl ?_
                  exact J4 _ (by first | (simp [bI, stuB, c1, c11, c18, c19, c22]; done) | (exfalso; first | exact absurd (c1.symm.trans c11) (by decide) | exact absurd (c1.symm.trans c18) (by decide) | exact absurd (c1.symm.trans c19) (by decide) | exact absurd (c1.symm.trans c22) (by decide) | exact absurd (c11.symm.trans c1) (by decide) | exact absurd (c11.symm.trans c18) (by decide) | exact absurd (c11.symm.trans c19) (by decide) | exact absurd (c11.symm.trans c22) (by decide) | exact absurd (c18.symm.trans c1) (by decide) | exact absurd (c18.symm.trans c11) (by decide) | exact absurd (c18.symm.trans c19) (by decide) | exact absurd (c18.symm.trans c22) (by decide) | exact absurd (c19.symm.trans c1) (by decide) | exact absurd (c19.symm.trans c11) (by decide) | exact absurd (c19.symm.trans c18) (by decide) | exact absurd (c19.symm.trans c22) (by decide) | exact absurd (c22.symm.trans c1) (by decide) | exact absurd (c22.symm.trans c11) (by decide) | exact absurd (c22.symm.trans c18) (by decide) | exact absurd (c22.symm.trans c19) (by decide)))
                · refine u_aload_n h dX5_countFound_82 rfl 3 rfl rfl ?_
                  refine u_get h flX5_countFound_149 0 (v := .int (f (55 * k + 53 + 1))) rfl rfl dX5_countFound_83 rfl ?_
                  refine u_iconst (v := 1) h dX5_countFound_86 (by decide) rfl ?_
                  refine u_icmp_eq (tgt := 98) h dX5_countFound_87 (by decide) rfl (fun c23 => ?_) (fun c23 => ?_)
                  · refine u_iconst (v := 1) h dX5_countFound_98 (by decide) rfl ?_
                    refine u_goto (tgt := 103) h dX5_countFound_99 (by decide) ?_
                    exact J4 _ (by first | (simp [bI, stuB, c1, c11, c18, c19, c22, c23]; done) | (exfalso; first | exact absurd (c1.symm.trans c11) (by decide) | exact absurd (c1.symm.trans c18) (by decide) | exact absurd (c1.symm.trans c19) (by decide) | exact absurd (c1.symm.trans c22) (by decide) | exact absurd (c1.symm.trans c23) (by decide) | exact absurd (c11.symm.trans c1) (by decide) | exact absurd (c11.symm.trans c18) (by decide) | exact absurd (c11.symm.trans c19) (by decide) | exact absurd (c11.symm.trans c22) (by decide) | exact absurd (c11.symm.trans c23) (by decide) | exact absurd (c18.symm.trans c1) (by decide) | exact absurd (c18.symm.trans c11) (by decide) | exact absurd (c18.symm.trans c19) (by decide) | exact absurd (c18.symm.trans c22) (by decide) | exact absurd (c18.symm.trans c23) (by decide) | exact absurd (c19.symm.trans c1) (by decide) | exact absurd (c19.symm.trans c11) (by decide) | exact absurd (c19.symm.trans c18) (by decide) | exact absurd (c19.symm.trans c22) (by decide) | exact absurd (c19.symm.trans c23) (by decide) | exact absurd (c22.symm.trans c1) (by decide) | exact absurd (c22.symm.trans c11) (by decide) | exact absurd (c22.symm.trans c18) (by decide) | exact absurd (c22.symm.trans c19) (by decide) | exact absurd (c22.symm.trans c23) (by decide) | exact absurd (c23.symm.trans c1) (by decide) | exact absurd (c23.symm.trans c11) (by decide) | exact absurd (c23.symm.trans c18) (by decide) | exact absurd (c23.symm.trans c19) (by decide) | exact absurd (c23.symm.trans c22) (by decide)))
                  · refine u_aload_n h dX5_countFound_90 rfl 3 rfl rfl ?_
                    refine u_iload_n h dX5_countFound_91 rfl 5 rfl rfl ?_
                    refine u_callV h (As := [.int (nI b)]) (wc := [(h0, .inr (5, mO q st ik ln sT (nI n) (f (55 * k + 53)) (f (55 * k + 53 + 1)))), ((q 0), aI G 86 (tkZ f z k))]) (wr := [((q 10), aI G 16500 f)]) (kX5_isLook G h0 (q 0) (mO q st ik ln sT (nI n) (f (55 * k + 53)) (f (55 * k + 53 + 1))) rfl (tkZ f z k) b hb (hW k (by omega))) cwX5_countFound_X5_isLook rfl rfl hR ⟨⟨rfl, rfl⟩, by decide, by decide⟩ ⟨Nat.le_of_ble_eq_true rfl, Nat.le_of_ble_eq_true rfl⟩ (ci := 5) (qr := 0) rfl rfl [0, 1] [2] rfl rfl rfl rfl (by decide) (Nat.le_of_ble_eq_true rfl) rfl dX5_countFound_92 rfl (fun v9 u9 hp9 => ?_)
                    obtain ⟨rfl, rfl⟩ := hp9
                    refine u_wp (ws' := [(h0, .inr (5, mO q st ik ln sT (nI n) (f (55 * k + 53)) (f (55 * k + 53 + 1)))), ((q 0), aI G 86 (tkZ f z k)), ((q 10), aI G 16500 f)]) [1, 2, 0] rfl rfl ?_
                    refine u_eqs (st' := [.int (bI (isLook (tkZ f z k) b))]) rfl ?_
                    refine u_if_eq_B (tgt := 102) h dX5_countFound_95 (by decide) rfl (fun c24 => ?_) (fun c24 => ?_)
                    · refine u_iconst (v := 0) h dX5_countFound_102 (by decide) rfl ?_
                      exact J4 _ (by first | (simp [bI, stuB, c1, c11, c18, c19, c22, c23, c24]; done) | (exfalso; first | exact absurd (c1.symm.trans c11) (by decide) | exact absurd (c1.symm.trans c18) (by decide) | exact absurd (c1.symm.trans c19) (by decide) | exact absurd (c1.symm.trans c22) (by decide) | exact absurd (c1.symm.trans c23) (by decide) | exact absurd (c1.symm.trans c24) (by decide) | exact absurd (c11.symm.trans c1) (by decide) | exact absurd (c11.symm.trans c18) (by decide) | exact absurd (c11.symm.trans c19) (by decide) | exact absurd (c11.symm.trans c22) (by decide) | exact absurd (c11.symm.trans c23) (by decide) | exact absurd (c11.symm.trans c24) (by decide) | exact absurd (c18.symm.trans c1) (by decide) | exact absurd (c18.symm.trans c11) (by decide) | exact absurd (c18.symm.trans c19) (by decide) | exact absurd (c18.symm.trans c22) (by decide) | exact absurd (c18.symm.trans c23) (by decide) | exact absurd (c18.symm.trans c24) (by decide) | exact absurd (c19.symm.trans c1) (by decide) | exact absurd (c19.symm.trans c11) (by decide) | exact absurd (c19.symm.trans c18) (by decide) | exact absurd (c19.symm.trans c22) (by decide) | exact absurd (c19.symm.trans c23) (by decide) | exact absurd (c19.symm.trans c24) (by decide) | exact absurd (c22.symm.trans c1) (by decide) | exact absurd (c22.symm.trans c11) (by decide) | exact absurd (c22.symm.trans c18) (by decide) | exact absurd (c22.symm.trans c19) (by decide) | exact absurd (c22.symm.trans c23) (by decide) | exact absurd (c22.symm.trans c24) (by decide) | exact absurd (c23.symm.trans c1) (by decide) | exact absurd (c23.symm.trans c11) (by decide) | exact absurd (c23.symm.trans c18) (by decide) | exact absurd (c23.symm.trans c19) (by decide) | exact absurd (c23.symm.trans c22) (by decide) | exact absurd (c23.symm.trans c24) (by decide) | exact absurd (c24.symm.trans c1) (by decide) | exact absurd (c24.symm.trans c11) (by decide) | exact absurd (c24.symm.trans c18) (by decide) | exact absurd (c24.symm.trans c19) (by decide) | exact absurd (c24.symm.trans c22) (by decide) | exact absurd (c24.symm.trans c23) (by decide)))
                    · refine u_iconst (v := 1) h dX5_countFound_98 (by decide) rfl ?_
                      refine u_goto (tgt := 103) h dX5_countFound_99 (by decide) ?_
                      exact J4 _ (by first | (simp [bI, stuB, c1, c11, c18, c19, c22, c23, c24]; done) | (exfalso; first | exact absurd (c1.symm.trans c11) (by decide) | exact absurd (c1.symm.trans c18) (by decide) | exact absurd (c1.symm.trans c19) (by decide) | exact absurd (c1.symm.trans c22) (by decide) | exact absurd (c1.symm.trans c23) (by decide) | exact absurd (c1.symm.trans c24) (by decide) | exact absurd (c11.symm.trans c1) (by decide) | exact absurd (c11.symm.trans c18) (by decide) | exact absurd (c11.symm.trans c19) (by decide) | exact absurd (c11.symm.trans c22) (by decide) | exact absurd (c11.symm.trans c23) (by decide) | exact absurd (c11.symm.trans c24) (by decide) | exact absurd (c18.symm.trans c1) (by decide) | exact absurd (c18.symm.trans c11) (by decide) | exact absurd (c18.symm.trans c19) (by decide) | exact absurd (c18.symm.trans c22) (by decide) | exact absurd (c18.symm.trans c23) (by decide) | exact absurd (c18.symm.trans c24) (by decide) | exact absurd (c19.symm.trans c1) (by decide) | exact absurd (c19.symm.trans c11) (by decide) | exact absurd (c19.symm.trans c18) (by decide) | exact absurd (c19.symm.trans c22) (by decide) | exact absurd (c19.symm.trans c23) (by decide) | exact absurd (c19.symm.trans c24) (by decide) | exact absurd (c22.symm.trans c1) (by decide) | exact absurd (c22.symm.trans c11) (by decide) | exact absurd (c22.symm.trans c18) (by decide) | exact absurd (c22.symm.trans c19) (by decide) | exact absurd (c22.symm.trans c23) (by decide) | exact absurd (c22.symm.trans c24) (by decide) | exact absurd (c23.symm.trans c1) (by decide) | exact absurd (c23.symm.trans c11) (by decide) | exact absurd (c23.symm.trans c18) (by decide) | exact absurd (c23.symm.trans c19) (by decide) | exact absurd (c23.symm.trans c22) (by decide) | exact absurd (c23.symm.trans c24) (by decide) | exact absurd (c24.symm.trans c1) (by decide) | exact absurd (c24.symm.trans c11) (by decide) | exact absurd (c24.symm.trans c18) (by decide) | exact absurd (c24.symm.trans c19) (by decide) | exact absurd (c24.symm.trans c22) (by decide) | exact absurd (c24.symm.trans c23) (by decide)))
        refine u_icmp_ne (tgt := 49) h dX5_countFound_30 (by decide) rfl (fun c25 => ?_) (fun c25 => ?_)
        · refine u_iconst (v := 0) h dX5_countFound_49 (by decide) rfl ?_
          exact J2 _ (by first | (simp [bI, inB2, c1, c25]; done) | (exfalso; first | exact absurd (c1.symm.trans c25) (by decide) | exact absurd (c25.symm.trans c1) (by decide)))
        · refine u_aload_n h dX5_countFound_33 rfl 2 rfl rfl ?_
          refine u_get h flX5_countFound_7 0 (v := .ref (q 0)) rfl rfl dX5_countFound_34 rfl ?_
          refine u_iconst (v := 0) h dX5_countFound_37 (by decide) rfl ?_
          refine u_iload_n h dX5_countFound_38 rfl 4 rfl rfl ?_
          refine u_iadd (v := (nI b)) h dX5_countFound_39 (by have h9 := nI_add 0 b; rw [Nat.zero_add] at h9; exact h9) rfl ?_
          refine u_iald h (n := b) 1 rfl (by omega) (by omega) dX5_countFound_40 rfl ?_
          refine u_iconst (v := 4) h dX5_countFound_41 (by decide) rfl ?_
          refine u_icmp_ne (tgt := 49) h dX5_countFound_42 (by decide) rfl (fun c26 => ?_) (fun c26 => ?_)
          · refine u_iconst (v := 0) h dX5_countFound_49 (by decide) rfl ?_
            exact J2 _ (by first | (simp [bI, inB2, c1, c25, c26]; done) | (exfalso; first | exact absurd (c1.symm.trans c25) (by decide) | exact absurd (c1.symm.trans c26) (by decide) | exact absurd (c25.symm.trans c1) (by decide) | exact absurd (c25.symm.trans c26) (by decide) | exact absurd (c26.symm.trans c1) (by decide) | exact absurd (c26.symm.trans c25) (by decide)))
          · refine u_iconst (v := 1) h dX5_countFound_45 (by decide) rfl ?_
            refine u_goto (tgt := 50) h dX5_countFound_46 (by decide) ?_
            exact J2 _ (by first | (simp [bI, inB2, c1, c25, c26]; done) | (exfalso; first | exact absurd (c1.symm.trans c25) (by decide) | exact absurd (c1.symm.trans c26) (by decide) | exact absurd (c25.symm.trans c1) (by decide) | exact absurd (c25.symm.trans c26) (by decide) | exact absurd (c26.symm.trans c1) (by decide) | exact absurd (c26.symm.trans c25) (by decide)))
  exact LL _ 0 0 y0 bo0 bt0 rfl (Nat.zero_le _) rfl hy
