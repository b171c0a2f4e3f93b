set_option maxHeartbeats 8000000 in
set_option maxRecDepth 100000 in
theorem lk_cell {G : Gx} {b L : Nat} {xs : Nat → Int32} {n : Nat} (hn : n < 64) (hL20 : L < 2 ^ 20) : MS G b L xs yL_cell sL_cell rA [.ref b, .int (nI n)] (fun v' => ∃ k : Nat, k < 2 ^ 31 ∧ v' = some (.int (nI k))) := by
  refine ms_of (cc := cL_cell) (maxL := 2) (ret := (some .int)) (by decide) rfl (Nat.le_of_ble_eq_true rfl) (fun X h hR hL hRT hLX => ?_)
  have hT : ∀ q ∈ gT, q ∈ sL_cell := fun q h9 => lwS_in h9
  refine u_eql (lv' := [(0, .ref b), (1, .int (nI n))]) rfl ?_
  refine u_iload_n h dL_cell_0 rfl 1 rfl rfl ?_
  refine u_aload_n h dL_cell_1 rfl 0 rfl rfl ?_
  refine u_sclen h hLX dL_cell_2 rfl ?_
  refine u_icmp_ge_N (a := n) (b := L) (tgt := 12) h dL_cell_3 (by decide) (by omega) (by omega) rfl (fun c1 => ?_) (fun c1 => ?_)
  · refine u_ldc (v := 1664525) h dL_cell_12 (hT _ gk_wm_447) rfl ?_
    refine u_iload_n h dL_cell_14 rfl 1 rfl rfl ?_
    refine u_bipush (v := 41) h dL_cell_15 (by decide) rfl ?_
    refine u_iadd (v := (nI (n + 41))) h dL_cell_17 (nI_add n 41) rfl ?_
    refine u_imul (v := (nI (1664525 * (n + 41)))) h dL_cell_18 (pk_mul 1664525 (n + 41)) rfl ?_
    refine u_sipush (v := 8209) h dL_cell_19 (by decide) rfl ?_
    refine u_iadd (v := (nI ((1664525 * (n + 41)) + 8209))) h dL_cell_22 (nI_add (1664525 * (n + 41)) 8209) rfl ?_
    refine u_ldc (v := 2147483647) h dL_cell_23 (hT _ gk_wm_448) rfl ?_
    refine u_iand (v := ((nI ((1664525 * (n + 41)) + 8209)) &&& 2147483647)) h dL_cell_25 rfl rfl ?_
    exact u_iret h hRT dL_cell_26 (Nat.le_refl _) (Nat.le_refl _) ⟨by obtain ⟨k9, h9, e9⟩ := pk_andE (nI ((1664525 * (n + 41)) + 8209)) (m := 2147483647) 31 (by decide); exact ⟨k9, h9, by rw [e9]⟩, rfl⟩
  · refine u_aload_n h dL_cell_6 rfl 0 rfl rfl ?_
    refine u_iload_n h dL_cell_7 rfl 1 rfl rfl ?_
    refine u_scld h hLX (n := n) (by omega) hL20 dL_cell_8 rfl ?_
    refine u_goto (tgt := 23) h dL_cell_9 (by decide) ?_
    refine u_ldc (v := 2147483647) h dL_cell_23 (hT _ gk_wm_448) rfl ?_
    refine u_iand (v := ((xs n) &&& 2147483647)) h dL_cell_25 rfl rfl ?_
    exact u_iret h hRT dL_cell_26 (Nat.le_refl _) (Nat.le_refl _) ⟨by obtain ⟨k9, h9, e9⟩ := pk_andE (xs n) (m := 2147483647) 31 (by decide); exact ⟨k9, h9, by rw [e9]⟩, rfl⟩
set_option maxHeartbeats 8000000 in
set_option maxRecDepth 100000 in
/-- act -/
theorem lk_act {G : Gx} {x0 : Nat} {z : Zf} {r : Nat} {hz : Nat → Zf} {kb : Bool} {zp : Zf} {w : va_W} (hw : IsO G x0 z r hz kb zp w) {B k : Nat} (hG : G3 z) (hCt : Ct z B) (hk : k < 2 ^ 31) : MC G yL_act sL_act rB [.ref x0, .int (nI k)] w (fun v' u' => ∃ q : Int32, v' = some (.int q) ∧ (((q = -5 ∨ q = -4) ∧ IsO G x0 z r hz kb zp u') ∨ ∃ (j : Nat) (z' : Zf), q = nI j ∧ j < 2 ^ 31 ∧ IsO G x0 z' (recN r) (rmH hz z r) kb zp u' ∧ G3 z' ∧ Ct z' (B + 6000))) 0 0 := by
  refine mc_of (cc := cL_act) (maxL := 7) (ret := (some .int)) (by decide) rfl (Nat.le_of_ble_eq_true rfl) (fun X h hR hL hRT => ?_)
  have hT : ∀ q ∈ gT, q ∈ sL_act := fun q h9 => lwS_in h9
  have hC : LC X 0 0 := by unfold LC; rw [hR]; decide
  refine u_eql (lv' := [(0, .ref x0), (1, .int (nI k))]) rfl ?_
  have hI := hw.i
  have hv6 : (k / 16 % 6) < 6 := Nat.mod_lt _ (by decide)
  refine u_iload_n h dL_act_0 rfl 1 rfl rfl ?_
  refine u_bipush (v := 16) h dL_act_1 (by decide) rfl ?_
  refine u_irem (v := (nI (k % 16))) h dL_act_3 (by decide) (pk_rem (a := k) (d := 16) (by omega) (by omega) (by omega)) rfl ?_
  refine u_istore_n (lv' := [(2, .int (nI (k % 16))), (0, .ref x0), (1, .int (nI k))]) h dL_act_4 rfl (by rw [hL]; decide) rfl rfl ?_
  refine u_iload_n h dL_act_5 rfl 2 rfl rfl ?_
  refine u_bipush (v := 16) h dL_act_6 (by decide) rfl ?_
  refine u_idiv (v := (nI (k / 16))) h dL_act_8 (by decide) (pk_div (a := k) (d := 16) (by omega) (by omega) (by omega)) rfl ?_
  refine u_istore_n (lv' := [(3, .int (nI (k / 16))), (2, .int (nI (k % 16))), (0, .ref x0), (1, .int (nI k))]) h dL_act_9 rfl (by rw [hL]; decide) rfl rfl ?_
  refine u_iload_n h dL_act_10 rfl 1 rfl rfl ?_
  refine u_bipush (v := 8) h dL_act_11 (by decide) rfl ?_
  refine u_icmp_ge_N (a := (k % 16)) (b := 8) (tgt := 25) h dL_act_13 (by decide) (by omega) (by omega) rfl (fun c1 => ?_) (fun c1 => ?_)
  · refine u_iload_n h dL_act_25 rfl 1 rfl rfl ?_
    refine u_bipush (v := 11) h dL_act_26 (by decide) rfl ?_
    refine u_icmp_ge_N (a := (k % 16)) (b := 11) (tgt := 40) h dL_act_28 (by decide) (by omega) (by omega) rfl (fun c2 => ?_) (fun c2 => ?_)
    · refine u_iload_n h dL_act_40 rfl 1 rfl rfl ?_
      refine u_bipush (v := 13) h dL_act_41 (by decide) rfl ?_
      refine u_icmp_ge_N (a := (k % 16)) (b := 13) (tgt := 66) h dL_act_43 (by decide) (by omega) (by omega) rfl (fun c3 => ?_) (fun c3 => ?_)
      · refine u_iload_n h dL_act_66 rfl 1 rfl rfl ?_
        refine u_bipush (v := 13) h dL_act_67 (by decide) rfl ?_
        refine u_icmp_ne_N (a := (k % 16)) (b := 13) (tgt := 123) h dL_act_69 (by decide) (by omega) (by omega) rfl (fun c4 => ?_) (fun c4 => ?_)
        · refine u_iload_n h dL_act_123 rfl 1 rfl rfl ?_
          refine u_bipush (v := 14) h dL_act_124 (by decide) rfl ?_
          refine u_icmp_ne_N (a := (k % 16)) (b := 14) (tgt := 134) h dL_act_126 (by decide) (by omega) (by omega) rfl (fun c5 => ?_) (fun c5 => ?_)
          · obtain ⟨kd, hkd, ekd⟩ := hI.wf.k
            obtain ⟨cn, hcn, ecn, -⟩ := cnt_nat z 6 (Nat.le_refl 6)
            rcases Nat.eq_zero_or_pos cn with hc0 | hc0
            · subst hc0
              have hn0 : ¬ 0 < cntZ z 6 := by rw [ecn]; decide
              refine u_aload_n h dL_act_134 rfl 2 rfl rfl ?_
              refine u_iconst (v := 0) h dL_act_135 (by decide) rfl ?_
              refine r_total h hT hC hw 0 dL_act_136 rfl (Nat.le_of_ble_eq_true rfl) ?_
              refine u_top (y := (nI kd)) ((totA_0 z r 0).trans ekd) ?_
              refine u_istore (lv' := [(4, .int (nI kd)), (3, .int (nI (k / 16))), (2, .int (nI (k % 16))), (0, .ref x0), (1, .int (nI k))]) h dL_act_139 (by rw [hL]; decide) rfl rfl ?_
              refine u_aload_n h dL_act_141 rfl 3 rfl rfl ?_
              refine u_iconst (v := 3) h dL_act_142 (by decide) rfl ?_
              refine r_total h hT hC hw 3 dL_act_143 rfl (Nat.le_of_ble_eq_true rfl) ?_
              refine u_top (y := 0) ((totA_3 z r 0).trans ecn) ?_
              refine u_istore (lv' := [(5, .int 0), (4, .int (nI kd)), (3, .int (nI (k / 16))), (2, .int (nI (k % 16))), (0, .ref x0), (1, .int (nI k))]) h dL_act_146 (by rw [hL]; decide) rfl rfl ?_
              refine u_aload_n h dL_act_148 rfl 4 rfl rfl ?_
              refine u_iload_n h dL_act_149 rfl 2 rfl rfl ?_
              refine u_iconst (v := 4) h dL_act_150 (by decide) rfl ?_
              refine u_irem (v := (nI ((k / 16) % 4))) h dL_act_151 (by decide) (pk_rem (a := (k / 16)) (d := 4) (by omega) (by omega) (by omega)) rfl ?_
              refine r_build h hT hC hw (nI ((k / 16) % 4)) dL_act_152 rfl (Nat.le_of_ble_eq_true rfl) (fun w6 hw7 => ?_)
              replace hw7 := hw7.yes (okB_yes (by omega) hn0)
              refine u_top (y := (nI kd)) ((buildA_yes (by omega) hn0).trans ekd) ?_
              refine u_istore (lv' := [(6, .int (nI kd)), (5, .int 0), (4, .int (nI kd)), (3, .int (nI (k / 16))), (2, .int (nI (k % 16))), (0, .ref x0), (1, .int (nI k))]) h dL_act_155 (by rw [hL]; decide) rfl rfl ?_
              refine u_iload h dL_act_157 0 rfl rfl ?_
              refine u_iload h dL_act_159 1 rfl rfl ?_
              refine u_if_le_N (a := 0) (tgt := 169) h dL_act_161 (by decide) (by omega) rfl (fun c8 => ?_) (fun c8 => ?_)
              · refine u_iload h dL_act_169 2 rfl rfl ?_
                refine u_icmp_ne_N (a := kd) (b := kd) (tgt := 200) h dL_act_171 (by decide) (by omega) (by omega) rfl (fun c9 => ?_) (fun c9 => ?_)
                · exact absurd rfl c9
                · refine u_aload_n h dL_act_174 rfl 5 rfl rfl ?_
                  refine u_iconst (v := 0) h dL_act_175 (by decide) rfl ?_
                  refine r_total h hT hC hw7 0 dL_act_176 rfl (Nat.le_of_ble_eq_true rfl) ?_
                  refine u_top (y := (nI (k / 16 % 4))) ((totA_0 (clrM z (nI (k / 16 % 4))) (recN r) 0).trans (clr_60 z _)) ?_
                  refine u_iload h dL_act_179 1 rfl rfl ?_
                  refine u_if_le_N (a := 0) (tgt := 189) h dL_act_181 (by decide) (by omega) rfl (fun c10 => ?_) (fun c10 => ?_)
                  · refine u_iload_n h dL_act_189 rfl 3 rfl rfl ?_
                    refine u_iconst (v := 4) h dL_act_190 (by decide) rfl ?_
                    refine u_irem (v := (nI ((k / 16) % 4))) h dL_act_191 (by decide) (pk_rem (a := (k / 16)) (d := 4) (by omega) (by omega) (by omega)) rfl ?_
                    refine u_icmp_ne_N (a := (k / 16 % 4)) (b := ((k / 16) % 4)) (tgt := 200) h dL_act_192 (by decide) (by omega) (by omega) rfl (fun c11 => ?_) (fun c11 => ?_)
                    · exact absurd rfl c11
                    · refine u_iload h dL_act_195 0 rfl rfl ?_
                      refine u_goto (tgt := 202) h dL_act_197 (by decide) ?_
                      exact u_iret h hRT dL_act_202 (Nat.le_refl _) (Nat.le_refl _) ⟨_, rfl, Or.inr ⟨kd, clrM z (nI (k / 16 % 4)), rfl, by omega, hw7, G3.clr (by omega), (hCt.to (fun j hj => clr_far z (by omega) hj)).le (by omega)⟩⟩
                  · exact absurd c10 (by decide)
              · exact absurd c8 (by decide)
            · have hn0 : 0 < cntZ z 6 := by rw [ecn]; exact (nI_ltI (a := 0) (by omega) (by omega)).mpr hc0
              refine u_aload_n h dL_act_134 rfl 2 rfl rfl ?_
              refine u_iconst (v := 0) h dL_act_135 (by decide) rfl ?_
              refine r_total h hT hC hw 0 dL_act_136 rfl (Nat.le_of_ble_eq_true rfl) ?_
              refine u_top (y := (nI kd)) ((totA_0 z r 0).trans ekd) ?_
              refine u_istore (lv' := [(4, .int (nI kd)), (3, .int (nI (k / 16))), (2, .int (nI (k % 16))), (0, .ref x0), (1, .int (nI k))]) h dL_act_139 (by rw [hL]; decide) rfl rfl ?_
              refine u_aload_n h dL_act_141 rfl 3 rfl rfl ?_
              refine u_iconst (v := 3) h dL_act_142 (by decide) rfl ?_
              refine r_total h hT hC hw 3 dL_act_143 rfl (Nat.le_of_ble_eq_true rfl) ?_
              refine u_top (y := (nI cn)) ((totA_3 z r 0).trans ecn) ?_
              refine u_istore (lv' := [(5, .int (nI cn)), (4, .int (nI kd)), (3, .int (nI (k / 16))), (2, .int (nI (k % 16))), (0, .ref x0), (1, .int (nI k))]) h dL_act_146 (by rw [hL]; decide) rfl rfl ?_
              refine u_aload_n h dL_act_148 rfl 4 rfl rfl ?_
              refine u_iload_n h dL_act_149 rfl 2 rfl rfl ?_
              refine u_iconst (v := 4) h dL_act_150 (by decide) rfl ?_
              refine u_irem (v := (nI ((k / 16) % 4))) h dL_act_151 (by decide) (pk_rem (a := (k / 16)) (d := 4) (by omega) (by omega) (by omega)) rfl ?_
              refine r_build h hT hC hw (nI ((k / 16) % 4)) dL_act_152 rfl (Nat.le_of_ble_eq_true rfl) (fun w12 hw13 => ?_)
              replace hw13 := hw13.no (okB_not hn0)
              refine u_top (y := (-4)) (buildA_not (by omega) hn0) ?_
              refine u_istore (lv' := [(6, .int (-4)), (5, .int (nI cn)), (4, .int (nI kd)), (3, .int (nI (k / 16))), (2, .int (nI (k % 16))), (0, .ref x0), (1, .int (nI k))]) h dL_act_155 (by rw [hL]; decide) rfl rfl ?_
              refine u_iload h dL_act_157 0 rfl rfl ?_
              refine u_iload h dL_act_159 1 rfl rfl ?_
              refine u_if_le_N (a := cn) (tgt := 169) h dL_act_161 (by decide) (by omega) rfl (fun c14 => ?_) (fun c14 => ?_)
              · exfalso; omega
              · refine u_bipush (v := (-4)) h dL_act_164 (by decide) rfl ?_
                refine u_goto (tgt := 171) h dL_act_166 (by decide) ?_
                refine u_icmp_ne (tgt := 200) h dL_act_171 (by decide) rfl (fun c15 => ?_) (fun c15 => ?_)
                · exact absurd c15 (by decide)
                · refine u_aload_n h dL_act_174 rfl 5 rfl rfl ?_
                  refine u_iconst (v := 0) h dL_act_175 (by decide) rfl ?_
                  refine r_total h hT hC hw13 0 dL_act_176 rfl (Nat.le_of_ble_eq_true rfl) ?_
                  refine u_top (y := (nI kd)) ((totA_0 z r 0).trans ekd) ?_
                  refine u_iload h dL_act_179 1 rfl rfl ?_
                  refine u_if_le_N (a := cn) (tgt := 189) h dL_act_181 (by decide) (by omega) rfl (fun c16 => ?_) (fun c16 => ?_)
                  · exfalso; omega
                  · refine u_iload h dL_act_184 2 rfl rfl ?_
                    refine u_goto (tgt := 192) h dL_act_186 (by decide) ?_
                    refine u_icmp_ne_N (a := kd) (b := kd) (tgt := 200) h dL_act_192 (by decide) (by omega) (by omega) rfl (fun c17 => ?_) (fun c17 => ?_)
                    · exact absurd rfl c17
                    · refine u_iload h dL_act_195 0 rfl rfl ?_
                      refine u_goto (tgt := 202) h dL_act_197 (by decide) ?_
                      exact u_iret h hRT dL_act_202 (Nat.le_refl _) (Nat.le_refl _) ⟨_, rfl, Or.inl ⟨Or.inr rfl, hw13⟩⟩
          · obtain ⟨N, hN⟩ := fi_ex hI
            by_cases hc : cntZ z 6 = 0
            · skip
              refine u_aload_n h dL_act_129 rfl 2 rfl rfl ?_
              refine u_own h (n := 1) (As := [.ref x0]) (lk_finish0 hw hG hN hc) ⟨gIn_to glL_85 hT, ⟨_, rfl⟩, by decide +kernel, by decide, by decide⟩ rfl rfl ⟨⟨rfl, rfl⟩, by rw [hR]; decide, by rw [hR]; decide⟩ ⟨Nat.zero_le _, Nat.zero_le _⟩ (Nat.le_of_ble_eq_true rfl) rfl dL_act_130 rfl (fun v9 w2 hp9 => ?_)
              obtain ⟨rfl, hw2⟩ := hp9
              refine u_eqs (st' := [.int (-5)]) rfl ?_
              exact u_iret h hRT dL_act_133 (Nat.le_refl _) (Nat.le_refl _) ⟨_, rfl, Or.inl ⟨Or.inl rfl, hw2⟩⟩
            · obtain ⟨-, -, -, -, -, -, -, -, hfa⟩ := fin_all hI hG hN
              refine u_aload_n h dL_act_129 rfl 2 rfl rfl ?_
              refine u_own h (n := 1) (As := [.ref x0]) (lk_finish1 hw hG hN hc) ⟨gIn_to glL_85 hT, ⟨_, rfl⟩, by decide +kernel, by decide, by decide⟩ rfl rfl ⟨⟨rfl, rfl⟩, by rw [hR]; decide, by rw [hR]; decide⟩ ⟨Nat.zero_le _, Nat.zero_le _⟩ (Nat.le_of_ble_eq_true rfl) rfl dL_act_130 rfl (fun v9 w2 hp9 => ?_)
              obtain ⟨t, ht, rfl, hw2⟩ := hp9
              refine u_eqs (st' := [.int (nI t)]) rfl ?_
              exact u_iret h hRT dL_act_133 (Nat.le_refl _) (Nat.le_refl _) ⟨_, rfl, Or.inr ⟨t, frZ z N, rfl, by omega, hw2, hfa.1, hfa.2 B hCt⟩⟩
        · obtain ⟨x6, hx6, ex⟩ := x_nat hI.2.1
          by_cases hx : nI (k / 16) = z 61
          · skip
            refine u_aload_n h dL_act_72 rfl 2 rfl rfl ?_
            refine u_bipush (v := 12) h dL_act_73 (by decide) rfl ?_
            refine r_total h hT hC hw 12 dL_act_75 rfl (Nat.le_of_ble_eq_true rfl) ?_
            refine u_top (y := (nI (k / 16))) ((totA_12 z r 0).trans hx.symm) ?_
            refine u_istore (lv' := [(4, .int (nI (k / 16))), (3, .int (nI (k / 16))), (2, .int (nI (k % 16))), (0, .ref x0), (1, .int (nI k))]) h dL_act_78 (by rw [hL]; decide) rfl rfl ?_
            refine u_aload_n h dL_act_80 rfl 3 rfl rfl ?_
            refine u_iload_n h dL_act_81 rfl 1 rfl rfl ?_
            refine r_shuffle h hT hC hw (nI (k / 16)) dL_act_82 rfl (Nat.le_of_ble_eq_true rfl) (fun w18 hw19 => ?_)
            replace hw19 := hw19.no (okH_same hx)
            refine u_top (y := (-5)) (shufA_same (Int32.not_lt.mpr (nI_pos' (by omega))) hx) ?_
            refine u_istore (lv' := [(5, .int (-5)), (4, .int (nI (k / 16))), (3, .int (nI (k / 16))), (2, .int (nI (k % 16))), (0, .ref x0), (1, .int (nI k))]) h dL_act_85 (by rw [hL]; decide) rfl rfl ?_
            refine u_iload h dL_act_87 0 rfl rfl ?_
            refine u_iload h dL_act_89 1 rfl rfl ?_
            refine u_iload_n h dL_act_91 rfl 2 rfl rfl ?_
            refine u_icmp_ne_N (a := (k / 16)) (b := (k / 16)) (tgt := 100) h dL_act_92 (by decide) (by omega) (by omega) rfl (fun c20 => ?_) (fun c20 => ?_)
            · exact absurd rfl c20
            · refine u_bipush (v := (-5)) h dL_act_95 (by decide) rfl ?_
              refine u_goto (tgt := 102) h dL_act_97 (by decide) ?_
              refine u_icmp_ne (tgt := 120) h dL_act_102 (by decide) rfl (fun c21 => ?_) (fun c21 => ?_)
              · exact absurd c21 (by decide)
              · refine u_aload_n h dL_act_105 rfl 4 rfl rfl ?_
                refine u_bipush (v := 12) h dL_act_106 (by decide) rfl ?_
                refine r_total h hT hC hw19 12 dL_act_108 rfl (Nat.le_of_ble_eq_true rfl) ?_
                refine u_top (y := (nI (k / 16))) ((totA_12 z r 0).trans hx.symm) ?_
                refine u_iload_n h dL_act_111 rfl 2 rfl rfl ?_
                refine u_icmp_ne_N (a := (k / 16)) (b := (k / 16)) (tgt := 120) h dL_act_112 (by decide) (by omega) (by omega) rfl (fun c22 => ?_) (fun c22 => ?_)
                · exact absurd rfl c22
                · refine u_iload h dL_act_115 0 rfl rfl ?_
                  refine u_goto (tgt := 122) h dL_act_117 (by decide) ?_
                  exact u_iret h hRT dL_act_122 (Nat.le_refl _) (Nat.le_refl _) ⟨_, rfl, Or.inl ⟨Or.inl rfl, hw19⟩⟩
          · skip
            refine u_aload_n h dL_act_72 rfl 2 rfl rfl ?_
            refine u_bipush (v := 12) h dL_act_73 (by decide) rfl ?_
            refine r_total h hT hC hw 12 dL_act_75 rfl (Nat.le_of_ble_eq_true rfl) ?_
            refine u_top (y := (nI x6)) ((totA_12 z r 0).trans ex) ?_
            refine u_istore (lv' := [(4, .int (nI x6)), (3, .int (nI (k / 16))), (2, .int (nI (k % 16))), (0, .ref x0), (1, .int (nI k))]) h dL_act_78 (by rw [hL]; decide) rfl rfl ?_
            refine u_aload_n h dL_act_80 rfl 3 rfl rfl ?_
            refine u_iload_n h dL_act_81 rfl 1 rfl rfl ?_
            refine r_shuffle h hT hC hw (nI (k / 16)) dL_act_82 rfl (Nat.le_of_ble_eq_true rfl) (fun w23 hw24 => ?_)
            replace hw24 := hw24.yes (okH_yes (Int32.not_lt.mpr (nI_pos' (by omega))) hx)
            refine u_top (y := (nI x6)) ((shufA_yes (Int32.not_lt.mpr (nI_pos' (by omega))) hx).trans ex) ?_
            refine u_istore (lv' := [(5, .int (nI x6)), (4, .int (nI x6)), (3, .int (nI (k / 16))), (2, .int (nI (k % 16))), (0, .ref x0), (1, .int (nI k))]) h dL_act_85 (by rw [hL]; decide) rfl rfl ?_
            refine u_iload h dL_act_87 0 rfl rfl ?_
            refine u_iload h dL_act_89 1 rfl rfl ?_
            refine u_iload_n h dL_act_91 rfl 2 rfl rfl ?_
            refine u_icmp_ne_N (a := x6) (b := (k / 16)) (tgt := 100) h dL_act_92 (by decide) (by omega) (by omega) rfl (fun c25 => ?_) (fun c25 => ?_)
            · refine u_iload h dL_act_100 1 rfl rfl ?_
              refine u_icmp_ne_N (a := x6) (b := x6) (tgt := 120) h dL_act_102 (by decide) (by omega) (by omega) rfl (fun c26 => ?_) (fun c26 => ?_)
              · exact absurd rfl c26
              · refine u_aload_n h dL_act_105 rfl 4 rfl rfl ?_
                refine u_bipush (v := 12) h dL_act_106 (by decide) rfl ?_
                refine r_total h hT hC hw24 12 dL_act_108 rfl (Nat.le_of_ble_eq_true rfl) ?_
                refine u_top (y := (nI (k / 16))) ((totA_12 (upd z 61 (nI (k / 16))) (recN r) 0).trans pk_us) ?_
                refine u_iload_n h dL_act_111 rfl 2 rfl rfl ?_
                refine u_icmp_ne_N (a := (k / 16)) (b := (k / 16)) (tgt := 120) h dL_act_112 (by decide) (by omega) (by omega) rfl (fun c27 => ?_) (fun c27 => ?_)
                · exact absurd rfl c27
                · refine u_iload h dL_act_115 0 rfl rfl ?_
                  refine u_goto (tgt := 122) h dL_act_117 (by decide) ?_
                  exact u_iret h hRT dL_act_122 (Nat.le_refl _) (Nat.le_refl _) ⟨_, rfl, Or.inr ⟨x6, upd z 61 (nI (k / 16)), rfl, hx6, hw24, hG.x _, (hCt.x _).le (by omega)⟩⟩
            · exact absurd ((congrArg nI c25).symm.trans ex.symm) hx
      · refine u_aload_n h dL_act_46 rfl 2 rfl rfl ?_
        refine u_iconst (v := 1) h dL_act_47 (by decide) rfl ?_
        refine u_iload_n h dL_act_48 rfl 0 rfl rfl ?_
        refine u_bipush (v := 63) h dL_act_49 (by decide) rfl ?_
        refine u_irem (v := (nI ((k / 16) % 63))) h dL_act_51 (by decide) (pk_rem (a := (k / 16)) (d := 63) (by omega) (by omega) (by omega)) rfl ?_
        refine u_iadd (v := (nI (1 + ((k / 16) % 63)))) h dL_act_52 (nI_add 1 ((k / 16) % 63)) rfl ?_
        refine u_iconst (v := 1) h dL_act_53 (by decide) rfl ?_
        refine u_iload_n h dL_act_54 rfl 0 rfl rfl ?_
        refine u_bipush (v := 63) h dL_act_55 (by decide) rfl ?_
        refine u_idiv (v := (nI ((k / 16) / 63))) h dL_act_57 (by decide) (pk_div (a := (k / 16)) (d := 63) (by omega) (by omega) (by omega)) rfl ?_
        refine u_bipush (v := 50) h dL_act_58 (by decide) rfl ?_
        refine u_irem (v := (nI (((k / 16) / 63) % 50))) h dL_act_60 (by decide) (pk_rem (a := ((k / 16) / 63)) (d := 50) (by omega) (by omega) (by omega)) rfl ?_
        refine u_iadd (v := (nI (1 + (((k / 16) / 63) % 50)))) h dL_act_61 (nI_add 1 (((k / 16) / 63) % 50)) rfl ?_
        refine u_own h (n := 3) (As := [.ref x0, .int (nI (1 + ((k / 16) % 63))), .int (nI (1 + (((k / 16) / 63) % 50)))]) (lk_draw hw (S := (1 + k / 16 % 63)) (n := (1 + k / 16 / 63 % 50)) (by omega) (by omega) (by omega) (by omega)) ⟨gIn_to glL_82 hT, ⟨_, rfl⟩, by decide +kernel, by decide, by decide⟩ rfl rfl ⟨⟨rfl, rfl⟩, by rw [hR]; decide, by rw [hR]; decide⟩ ⟨Nat.zero_le _, Nat.zero_le _⟩ (Nat.le_of_ble_eq_true rfl) rfl dL_act_62 rfl (fun v9 w2 hp9 => ?_)
        obtain ⟨t, ht, rfl, hw2⟩ := hp9
        have hdr := Gd.dr (k := (1 + k / 16 % 63)) (by omega) (by omega) hI hG hCt (1 + k / 16 / 63 % 50)
        refine u_eqs (st' := [.int (nI t)]) rfl ?_
        exact u_iret h hRT dL_act_65 (Nat.le_refl _) (Nat.le_refl _) ⟨_, rfl, Or.inr ⟨t, drZ z (nI (1 + k / 16 % 63)) (1 + k / 16 / 63 % 50), rfl, by omega, hw2, hdr.1, hdr.2.le (by omega)⟩⟩
    · cases hlk : isLook z (k / 16 % 6)
      · obtain ⟨N, hN⟩ := go_ex hv6 hI
        have hgl := go_lt hv6 hI hlk hN
        refine u_aload_n h dL_act_31 rfl 2 rfl rfl ?_
        refine u_iload_n h dL_act_32 rfl 0 rfl rfl ?_
        refine u_bipush (v := 6) h dL_act_33 (by decide) rfl ?_
        refine u_irem (v := (nI ((k / 16) % 6))) h dL_act_35 (by decide) (pk_rem (a := (k / 16)) (d := 6) (by omega) (by omega) (by omega)) rfl ?_
        refine u_own h (n := 2) (As := [.ref x0, .int (nI ((k / 16) % 6))]) (lk_go0 hw hv6 hlk hN) ⟨gIn_to glL_80 hT, ⟨_, rfl⟩, by decide +kernel, by decide, by decide⟩ rfl rfl ⟨⟨rfl, rfl⟩, by rw [hR]; decide, by rw [hR]; decide⟩ ⟨Nat.zero_le _, Nat.zero_le _⟩ (Nat.le_of_ble_eq_true rfl) rfl dL_act_36 rfl (fun v9 w2 hp9 => ?_)
        obtain ⟨rfl, hw2⟩ := hp9
        refine u_eqs (st' := [.int (nI N)]) rfl ?_
        exact u_iret h hRT dL_act_39 (Nat.le_refl _) (Nat.le_refl _) ⟨_, rfl, Or.inr ⟨N, itS z (k / 16 % 6) N, rfl, by omega, hw2, G3.it hv6 hI hG N, (Ct.it hv6 hI hCt N).le (by omega)⟩⟩
      · skip
        refine u_aload_n h dL_act_31 rfl 2 rfl rfl ?_
        refine u_iload_n h dL_act_32 rfl 0 rfl rfl ?_
        refine u_bipush (v := 6) h dL_act_33 (by decide) rfl ?_
        refine u_irem (v := (nI ((k / 16) % 6))) h dL_act_35 (by decide) (pk_rem (a := (k / 16)) (d := 6) (by omega) (by omega) (by omega)) rfl ?_
        refine u_own h (n := 2) (As := [.ref x0, .int (nI ((k / 16) % 6))]) (lk_go1 hw hv6 hlk) ⟨gIn_to glL_80 hT, ⟨_, rfl⟩, by decide +kernel, by decide, by decide⟩ rfl rfl ⟨⟨rfl, rfl⟩, by rw [hR]; decide, by rw [hR]; decide⟩ ⟨Nat.zero_le _, Nat.zero_le _⟩ (Nat.le_of_ble_eq_true rfl) rfl dL_act_36 rfl (fun v9 w2 hp9 => ?_)
        obtain ⟨rfl, hw2⟩ := hp9
        refine u_eqs (st' := [.int (-5)]) rfl ?_
        exact u_iret h hRT dL_act_39 (Nat.le_refl _) (Nat.le_refl _) ⟨_, rfl, Or.inl ⟨Or.inl rfl, hw2⟩⟩
  · refine u_aload_n h dL_act_16 rfl 2 rfl rfl ?_
    refine u_iload_n h dL_act_17 rfl 0 rfl rfl ?_
    refine u_bipush (v := 6) h dL_act_18 (by decide) rfl ?_
    refine u_irem (v := (nI ((k / 16) % 6))) h dL_act_20 (by decide) (pk_rem (a := (k / 16)) (d := 6) (by omega) (by omega) (by omega)) rfl ?_
    refine u_own h (n := 2) (As := [.ref x0, .int (nI ((k / 16) % 6))]) (lk_step hw (v := (k / 16 % 6)) hv6) ⟨gIn_to glL_77 hT, ⟨_, rfl⟩, by decide +kernel, by decide, by decide⟩ rfl rfl ⟨⟨rfl, rfl⟩, by rw [hR]; decide, by rw [hR]; decide⟩ ⟨Nat.zero_le _, Nat.zero_le _⟩ (Nat.le_of_ble_eq_true rfl) rfl dL_act_21 rfl (fun v9 w2 hp9 => ?_)
    obtain ⟨s2, hs2, rfl, hw2⟩ := hp9
    refine u_eqs (st' := [.int (nI s2)]) rfl ?_
    exact u_iret h hRT dL_act_24 (Nat.le_refl _) (Nat.le_refl _) ⟨_, rfl, Or.inr ⟨s2, stM z (k / 16 % 6), rfl, by omega, hw2, G3.st hv6 hI hG, (Ct.st hv6 hI hCt).le (by omega)⟩⟩
