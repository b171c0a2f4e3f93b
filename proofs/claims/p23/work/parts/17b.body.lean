set_option maxHeartbeats 16000000 in
set_option maxRecDepth 100000 in
theorem lw_body {G : Gx} {X : Cx} {b L : Nat} {xs : Nat → Int32} (h : CX G X cL_law RL gT) (hR : gR X = room_1) (hL : gL X = 16) (hLX : LX X b L xs) (hL20 : L < 2 ^ 20) (hQ : LQ X b) {x0 n : Nat} (hn : n < 64) (hHd : Hd G X x0 b (n + 1)) : Hd G X x0 b n := by
  intro z r hz zp w hw hga
  have hT : ∀ q ∈ gT, q ∈ gT := fun q h9 => h9
  have hC : LC X 47 3488 := by unfold LC; rw [hR]; exact ⟨Nat.le_of_ble_eq_true rfl, Nat.le_of_ble_eq_true rfl, Nat.le_of_ble_eq_true rfl, Nat.le_of_ble_eq_true rfl⟩
  have hr := hw.r
  have hr31 : recN r < 2 ^ 31 := by have := recN_le4 hr; omega
  refine u_iload h dL_law_94 5 rfl rfl ?_
  refine u_bipush (v := 64) h dL_law_96 (by decide) rfl ?_
  refine u_icmp_ge_N (a := n) (b := 64) (tgt := 373) h dL_law_98 (by decide) (by omega) (by omega) rfl (fun c1 => ?_) (fun c1 => ?_)
  · exfalso; omega
  · refine u_iload_n h dL_law_101 rfl 2 rfl rfl ?_
    refine u_if_eq_N (a := 1) (tgt := 373) h dL_law_102 (by decide) (by omega) rfl (fun c2 => ?_) (fun c2 => ?_)
    · exact absurd c2 (by decide)
    · refine u_aload_n h dL_law_105 rfl 0 rfl rfl ?_
      refine u_iload h dL_law_106 5 rfl rfl ?_
      refine u_ownS h hLX (n := 2) (As := [.ref b, .int (nI n)]) (lk_cell (G := G) (xs := xs) (L := L) hn hL20) ⟨gIn_to glL_101 hT, ⟨_, rfl⟩, by decide +kernel, by decide, by decide⟩ rfl rfl ⟨⟨rfl, rfl⟩, by rw [hR]; decide, by rw [hR]; decide⟩ ⟨by rw [hR]; exact Nat.le_of_ble_eq_true rfl, by rw [hR]; exact Nat.le_of_ble_eq_true rfl⟩ (Nat.le_of_ble_eq_true rfl) rfl dL_law_108 rfl (fun v9 hp9 => ?_)
      obtain ⟨k, hk, rfl⟩ := hp9
      refine u_eqs (st' := [.int (nI k)]) rfl ?_
      refine u_istore (lv' := [(7, .int (nI k)), (0, .ref b), (1, .ref x0), (2, .int 1), (3, .long (seenZ zp)), (5, .int (cntZ zp 6)), (6, .int (nI n))]) h dL_law_111 (by rw [hL]; decide) rfl rfl ?_
      refine u_aload_n h dL_law_113 rfl 2 rfl rfl ?_
      refine u_own h (n := 1) (As := [.ref x0]) (lk_seen hw) ⟨gIn_to glL_69 hT, ⟨_, rfl⟩, by decide +kernel, by decide, by decide⟩ rfl rfl ⟨⟨rfl, rfl⟩, by rw [hR]; decide, by rw [hR]; decide⟩ ⟨by rw [hR]; exact Nat.le_of_ble_eq_true rfl, by rw [hR]; exact Nat.le_of_ble_eq_true rfl⟩ (Nat.le_of_ble_eq_true rfl) rfl dL_law_114 rfl (fun v9 u9 hp9 => ?_)
      obtain ⟨rfl, rfl⟩ := hp9
      refine u_eqs (st' := [.long (seenZ z)]) rfl ?_
      refine u_lstore (lv' := [(8, .long (seenZ z)), (7, .int (nI k)), (0, .ref b), (1, .ref x0), (2, .int 1), (3, .long (seenZ zp)), (5, .int (cntZ zp 6)), (6, .int (nI n))]) h dL_law_117 (by rw [hL]; decide) rfl rfl ?_
      refine u_aload_n h dL_law_119 rfl 3 rfl rfl ?_
      refine u_bipush (v := 13) h dL_law_120 (by decide) rfl ?_
      refine r_total h hT hC hw 13 dL_law_122 rfl (Nat.le_of_ble_eq_true rfl) ?_
      refine u_top (y := (nI r)) (totA_13 z r 0) ?_
      refine u_istore (lv' := [(10, .int (nI r)), (8, .long (seenZ z)), (7, .int (nI k)), (0, .ref b), (1, .ref x0), (2, .int 1), (3, .long (seenZ zp)), (5, .int (cntZ zp 6)), (6, .int (nI n))]) h dL_law_125 (by rw [hL]; decide) rfl rfl ?_
      refine u_aload_n h dL_law_127 rfl 4 rfl rfl ?_
      refine u_iload h dL_law_128 2 rfl rfl ?_
      refine u_own h (n := 2) (As := [.ref x0, .int (nI k)]) (lk_act hw hga.1.1 hga.1.2 hk) ⟨gIn_to glL_105 hT, ⟨_, rfl⟩, by decide +kernel, by decide, by decide⟩ rfl rfl ⟨⟨rfl, rfl⟩, by rw [hR]; decide, by rw [hR]; decide⟩ ⟨by rw [hR]; exact Nat.le_of_ble_eq_true rfl, by rw [hR]; exact Nat.le_of_ble_eq_true rfl⟩ (Nat.le_of_ble_eq_true rfl) rfl dL_law_130 rfl (fun v9 w2 hp9 => ?_)
      obtain ⟨q, rfl, ⟨hq, hw2⟩ | ⟨j, y, rfl, hj, hw2, hyG, hyC⟩⟩ := hp9
      · refine u_eqs (st' := [.int q]) rfl ?_
        have hga2 : GA (6000 * (n + 1)) z r hz zp := hga.le (by omega)
        refine u_istore (lv' := [(11, .int q), (10, .int (nI r)), (8, .long (seenZ z)), (7, .int (nI k)), (0, .ref b), (1, .ref x0), (2, .int 1), (3, .long (seenZ zp)), (5, .int (cntZ zp 6)), (6, .int (nI n))]) h dL_law_133 (by rw [hL]; decide) rfl rfl ?_
        refine u_aload_n h dL_law_135 rfl 5 rfl rfl ?_
        refine u_bipush (v := 13) h dL_law_136 (by decide) rfl ?_
        refine r_total h hT hC hw2 13 dL_law_138 rfl (Nat.le_of_ble_eq_true rfl) ?_
        refine u_top (y := (nI r)) (totA_13 z r 0) ?_
        refine u_istore (lv' := [(12, .int (nI r)), (11, .int q), (10, .int (nI r)), (8, .long (seenZ z)), (7, .int (nI k)), (0, .ref b), (1, .ref x0), (2, .int 1), (3, .long (seenZ zp)), (5, .int (cntZ zp 6)), (6, .int (nI n))]) h dL_law_141 (by rw [hL]; decide) rfl rfl ?_
        refine u_iload h dL_law_143 1 rfl rfl ?_
        refine u_bipush (v := (-9)) h dL_law_145 (by decide) rfl ?_
        refine u_icmp_le (tgt := 227) h dL_law_147 (by decide) rfl (fun c3 => ?_) (fun c3 => ?_)
        · exfalso; rcases hq with rfl | rfl <;> exact absurd c3 (by decide)
        · refine u_iload h dL_law_150 1 rfl rfl ?_
          refine u_if_ge (tgt := 175) h dL_law_152 (by decide) rfl (fun c4 => ?_) (fun c4 => ?_)
          · exfalso; rcases hq with rfl | rfl <;> exact absurd c4 (by decide)
          · refine u_iload h dL_law_155 0 rfl rfl ?_
            refine u_iload h dL_law_157 2 rfl rfl ?_
            refine u_icmp_ne_N (a := r) (b := r) (tgt := 227) h dL_law_159 (by decide) (by omega) (by omega) rfl (fun c5 => ?_) (fun c5 => ?_)
            · exact absurd rfl c5
            · refine u_aload_n h dL_law_162 rfl 6 rfl rfl ?_
              refine u_own h (n := 1) (As := [.ref x0]) (lk_seen hw2) ⟨gIn_to glL_69 hT, ⟨_, rfl⟩, by decide +kernel, by decide, by decide⟩ rfl rfl ⟨⟨rfl, rfl⟩, by rw [hR]; decide, by rw [hR]; decide⟩ ⟨by rw [hR]; exact Nat.le_of_ble_eq_true rfl, by rw [hR]; exact Nat.le_of_ble_eq_true rfl⟩ (Nat.le_of_ble_eq_true rfl) rfl dL_law_163 rfl (fun v9 u9 hp9 => ?_)
              obtain ⟨rfl, rfl⟩ := hp9
              refine u_eqs (st' := [.long (seenZ z)]) rfl ?_
              refine u_lload h dL_law_166 3 rfl rfl ?_
              refine u_lcmpE h rfl dL_law_168 rfl ?_
              refine u_if_ne_N (a := 0) (tgt := 227) h dL_law_169 (by decide) (by omega) rfl (fun c6 => ?_) (fun c6 => ?_)
              · exact absurd c6 (by decide)
              · refine u_goto (tgt := 194) h dL_law_172 (by decide) ?_
                refine u_aload_n h dL_law_194 rfl 6 rfl rfl ?_
                refine u_own h (n := 1) (As := [.ref x0]) (lk_isWhole hw2 hga2.1.1 hga2.1.2 (by omega)) ⟨gIn_to glL_108 hT, ⟨_, rfl⟩, by decide +kernel, by decide, by decide⟩ rfl rfl ⟨⟨rfl, rfl⟩, by rw [hR]; decide, by rw [hR]; decide⟩ ⟨by rw [hR]; exact Nat.le_of_ble_eq_true rfl, by rw [hR]; exact Nat.le_of_ble_eq_true rfl⟩ (Nat.le_of_ble_eq_true rfl) rfl dL_law_195 rfl (fun v9 u9 hp9 => ?_)
                obtain ⟨rfl, rfl⟩ := hp9
                refine u_eqs (st' := [.int 1]) rfl ?_
                refine u_if_eq_N (a := 1) (tgt := 227) h dL_law_198 (by decide) (by omega) rfl (fun c7 => ?_) (fun c7 => ?_)
                · exact absurd c7 (by decide)
                · refine u_iload h dL_law_201 10 rfl rfl ?_
                  refine u_bipush (v := 7) h dL_law_203 (by decide) rfl ?_
                  refine u_irem (v := (nI (n % 7))) h dL_law_205 (by decide) (pk_rem (a := n) (d := 7) (by omega) (by omega) (by omega)) rfl ?_
                  refine u_bipush (v := 6) h dL_law_206 (by decide) rfl ?_
                  have J8 : ∀ w9 : va_W, IsO G x0 z r hz true zp w9 → U G X 47 3488 w9 223 [(12, .int (nI r)), (11, .int q), (10, .int (nI r)), (8, .long (seenZ z)), (7, .int (nI k)), (0, .ref b), (1, .ref x0), (2, .int 1), (3, .long (seenZ zp)), (5, .int (cntZ zp 6)), (6, .int (nI n))] [] := by
                    intro w9 hw10
                    refine u_iconst (v := 1) h dL_law_223 (by decide) rfl ?_
                    refine u_goto (tgt := 228) h dL_law_224 (by decide) ?_
                    refine u_istore_n (lv' := [(2, .int 1), (12, .int (nI r)), (11, .int q), (10, .int (nI r)), (8, .long (seenZ z)), (7, .int (nI k)), (0, .ref b), (1, .ref x0), (3, .long (seenZ zp)), (5, .int (cntZ zp 6)), (6, .int (nI n))]) h dL_law_228 rfl (by rw [hL]; decide) rfl rfl ?_
                    refine u_iload_n h dL_law_229 rfl 0 rfl rfl ?_
                    refine u_if_eq_N (a := 1) (tgt := 283) h dL_law_230 (by decide) (by omega) rfl (fun c11 => ?_) (fun c11 => ?_)
                    · exact absurd c11 (by decide)
                    · refine u_iload h dL_law_233 2 rfl rfl ?_
                      refine u_if_lt (tgt := 283) h dL_law_235 (by decide) rfl (fun c12 => ?_) (fun c12 => ?_)
                      · refine u_lv (lv' := [(0, .ref b), (1, .ref x0), (2, .int 1), (3, .long (seenZ zp)), (5, .int (cntZ zp 6)), (6, .int (nI n))]) [6, 7, 0, 8, 9, 10] rfl ?_
                        exact lw_tail h hR hL hLX hL20 hQ hn hHd hw10 hga2
                      · exfalso; rcases hq with rfl | rfl <;> exact absurd (by decide) c12
                  refine u_icmp_ne_N (a := (n % 7)) (b := 6) (tgt := 223) h dL_law_208 (by decide) (by omega) (by omega) rfl (fun c13 => ?_) (fun c13 => ?_)
                  · exact J8 _ hw2
                  · refine u_aload_n h dL_law_211 rfl 6 rfl rfl ?_
                    refine u_iload h dL_law_212 4 rfl rfl ?_
                    refine u_bipush (v := 7) h dL_law_214 (by decide) rfl ?_
                    refine u_idiv (v := (nI (k / 7))) h dL_law_216 (by decide) (pk_div (a := k) (d := 7) (by omega) (by omega) (by omega)) rfl ?_
                    refine u_own h (n := 2) (As := [.ref x0, .int (nI (k / 7))]) (lk_refuses hw2 (k := k / 7) (by omega)) ⟨gIn_to glL_95 hT, ⟨_, rfl⟩, by decide +kernel, by decide, by decide⟩ rfl rfl ⟨⟨rfl, rfl⟩, by rw [hR]; decide, by rw [hR]; decide⟩ ⟨by rw [hR]; exact Nat.le_of_ble_eq_true rfl, by rw [hR]; exact Nat.le_of_ble_eq_true rfl⟩ (Nat.le_of_ble_eq_true rfl) rfl dL_law_217 rfl (fun v9 w14 hp9 => ?_)
                    obtain ⟨rfl, hw15⟩ := hp9
                    refine u_eqs (st' := [.int 1]) rfl ?_
                    refine u_if_eq_N (a := 1) (tgt := 227) h dL_law_220 (by decide) (by omega) rfl (fun c16 => ?_) (fun c16 => ?_)
                    · exact absurd c16 (by decide)
                    · exact J8 _ hw15
      · refine u_eqs (st' := [.int (nI j)]) rfl ?_
        have hy1 : Gd1 (6000 * (n + 1)) y := ⟨hyG, hyC.le (by omega)⟩
        have hga2 : GA (6000 * (n + 1)) y (recN r) (rmH hz z r) zp := (hga.le (by omega)).rm hr hy1
        refine u_istore (lv' := [(11, .int (nI j)), (10, .int (nI r)), (8, .long (seenZ z)), (7, .int (nI k)), (0, .ref b), (1, .ref x0), (2, .int 1), (3, .long (seenZ zp)), (5, .int (cntZ zp 6)), (6, .int (nI n))]) h dL_law_133 (by rw [hL]; decide) rfl rfl ?_
        refine u_aload_n h dL_law_135 rfl 5 rfl rfl ?_
        refine u_bipush (v := 13) h dL_law_136 (by decide) rfl ?_
        refine r_total h hT hC hw2 13 dL_law_138 rfl (Nat.le_of_ble_eq_true rfl) ?_
        refine u_top (y := (nI (recN r))) (totA_13 y (recN r) 0) ?_
        refine u_istore (lv' := [(12, .int (nI (recN r))), (11, .int (nI j)), (10, .int (nI r)), (8, .long (seenZ z)), (7, .int (nI k)), (0, .ref b), (1, .ref x0), (2, .int 1), (3, .long (seenZ zp)), (5, .int (cntZ zp 6)), (6, .int (nI n))]) h dL_law_141 (by rw [hL]; decide) rfl rfl ?_
        refine u_iload h dL_law_143 1 rfl rfl ?_
        refine u_bipush (v := (-9)) h dL_law_145 (by decide) rfl ?_
        refine u_icmp_le (tgt := 227) h dL_law_147 (by decide) rfl (fun c17 => ?_) (fun c17 => ?_)
        · exact absurd c17 (nI_n9 hj)
        · refine u_iload h dL_law_150 1 rfl rfl ?_
          refine u_if_ge_N (a := j) (tgt := 175) h dL_law_152 (by decide) (by omega) rfl (fun c18 => ?_) (fun c18 => ?_)
          · refine u_iload h dL_law_175 0 rfl rfl ?_
            refine u_iload h dL_law_177 2 rfl rfl ?_
            refine u_iconst (v := 4) h dL_law_179 (by decide) rfl ?_
            have J19 : ∀ x20 : Int32, x20 = (nI (recN r)) → U G X 47 3488 w2 191 [(12, .int (nI (recN r))), (11, .int (nI j)), (10, .int (nI r)), (8, .long (seenZ z)), (7, .int (nI k)), (0, .ref b), (1, .ref x0), (2, .int 1), (3, .long (seenZ zp)), (5, .int (cntZ zp 6)), (6, .int (nI n))] [.int x20, .int (nI (recN r))] := by
              intro x20 e9
              subst e9
              refine u_icmp_ne_N (a := (recN r)) (b := (recN r)) (tgt := 227) h dL_law_191 (by decide) (by omega) (by omega) rfl (fun c21 => ?_) (fun c21 => ?_)
              · exact absurd rfl c21
              · refine u_aload_n h dL_law_194 rfl 6 rfl rfl ?_
                refine u_own h (n := 1) (As := [.ref x0]) (lk_isWhole hw2 hga2.1.1 hga2.1.2 (by omega)) ⟨gIn_to glL_108 hT, ⟨_, rfl⟩, by decide +kernel, by decide, by decide⟩ rfl rfl ⟨⟨rfl, rfl⟩, by rw [hR]; decide, by rw [hR]; decide⟩ ⟨by rw [hR]; exact Nat.le_of_ble_eq_true rfl, by rw [hR]; exact Nat.le_of_ble_eq_true rfl⟩ (Nat.le_of_ble_eq_true rfl) rfl dL_law_195 rfl (fun v9 u9 hp9 => ?_)
                obtain ⟨rfl, rfl⟩ := hp9
                refine u_eqs (st' := [.int 1]) rfl ?_
                refine u_if_eq_N (a := 1) (tgt := 227) h dL_law_198 (by decide) (by omega) rfl (fun c22 => ?_) (fun c22 => ?_)
                · exact absurd c22 (by decide)
                · refine u_iload h dL_law_201 10 rfl rfl ?_
                  refine u_bipush (v := 7) h dL_law_203 (by decide) rfl ?_
                  refine u_irem (v := (nI (n % 7))) h dL_law_205 (by decide) (pk_rem (a := n) (d := 7) (by omega) (by omega) (by omega)) rfl ?_
                  refine u_bipush (v := 6) h dL_law_206 (by decide) rfl ?_
                  have J23 : ∀ w24 : va_W, IsO G x0 y (recN r) (rmH hz z r) true zp w24 → U G X 47 3488 w24 223 [(12, .int (nI (recN r))), (11, .int (nI j)), (10, .int (nI r)), (8, .long (seenZ z)), (7, .int (nI k)), (0, .ref b), (1, .ref x0), (2, .int 1), (3, .long (seenZ zp)), (5, .int (cntZ zp 6)), (6, .int (nI n))] [] := by
                    intro w24 hw25
                    refine u_iconst (v := 1) h dL_law_223 (by decide) rfl ?_
                    refine u_goto (tgt := 228) h dL_law_224 (by decide) ?_
                    refine u_istore_n (lv' := [(2, .int 1), (12, .int (nI (recN r))), (11, .int (nI j)), (10, .int (nI r)), (8, .long (seenZ z)), (7, .int (nI k)), (0, .ref b), (1, .ref x0), (3, .long (seenZ zp)), (5, .int (cntZ zp 6)), (6, .int (nI n))]) h dL_law_228 rfl (by rw [hL]; decide) rfl rfl ?_
                    refine u_iload_n h dL_law_229 rfl 0 rfl rfl ?_
                    refine u_if_eq_N (a := 1) (tgt := 283) h dL_law_230 (by decide) (by omega) rfl (fun c26 => ?_) (fun c26 => ?_)
                    · exact absurd c26 (by decide)
                    · refine u_iload h dL_law_233 2 rfl rfl ?_
                      refine u_if_lt_N (a := j) (tgt := 283) h dL_law_235 (by decide) (by omega) rfl (fun c27 => ?_) (fun c27 => ?_)
                      · exact absurd c27 (Nat.not_lt_zero _)
                      · refine u_iload h dL_law_238 5 rfl rfl ?_
                        refine u_bipush (v := 17) h dL_law_240 (by decide) rfl ?_
                        refine u_idiv (v := (nI (k / 17))) h dL_law_242 (by decide) (pk_div (a := k) (d := 17) (by omega) (by omega) (by omega)) rfl ?_
                        refine u_iconst (v := 3) h dL_law_243 (by decide) rfl ?_
                        refine u_irem (v := (nI ((k / 17) % 3))) h dL_law_244 (by decide) (pk_rem (a := (k / 17)) (d := 3) (by omega) (by omega) (by omega)) rfl ?_
                        refine u_if_ne_N (a := ((k / 17) % 3)) (tgt := 283) h dL_law_245 (by decide) (by omega) rfl (fun c28 => ?_) (fun c28 => ?_)
                        · refine u_lv (lv' := [(0, .ref b), (1, .ref x0), (2, .int 1), (3, .long (seenZ zp)), (5, .int (cntZ zp 6)), (6, .int (nI n))]) [6, 7, 0, 8, 9, 10] rfl ?_
                          exact lw_tail h hR hL hLX hL20 hQ hn hHd hw25 hga2
                        · refine u_aload_n h dL_law_248 rfl 7 rfl rfl ?_
                          refine r_undo h hT hC hw25 dL_law_249 rfl (Nat.le_of_ble_eq_true rfl) (fun w29 hw30 => ?_)
                          replace hw30 := hw30.und hr
                          refine u_top (y := (nI (recN r - 1))) un_ans ?_
                          refine u_iload h dL_law_252 3 rfl rfl ?_
                          refine u_iconst (v := 4) h dL_law_254 (by decide) rfl ?_
                          have J31 : ∀ x32 : Int32, x32 = (nI (recN r - 1)) → U G X 47 3488 w29 264 [(2, .int 1), (12, .int (nI (recN r))), (11, .int (nI j)), (10, .int (nI r)), (8, .long (seenZ z)), (7, .int (nI k)), (0, .ref b), (1, .ref x0), (3, .long (seenZ zp)), (5, .int (cntZ zp 6)), (6, .int (nI n))] [.int x32, .int (nI (recN r - 1))] := by
                            intro x32 e9
                            subst e9
                            refine u_icmp_ne_N (a := (recN r - 1)) (b := (recN r - 1)) (tgt := 281) h dL_law_264 (by decide) (by omega) (by omega) rfl (fun c33 => ?_) (fun c33 => ?_)
                            · exact absurd rfl c33
                            · refine u_aload_n h dL_law_267 rfl 7 rfl rfl ?_
                              refine u_own h (n := 1) (As := [.ref x0]) (lk_seen hw30) ⟨gIn_to glL_69 hT, ⟨_, rfl⟩, by decide +kernel, by decide, by decide⟩ rfl rfl ⟨⟨rfl, rfl⟩, by rw [hR]; decide, by rw [hR]; decide⟩ ⟨by rw [hR]; exact Nat.le_of_ble_eq_true rfl, by rw [hR]; exact Nat.le_of_ble_eq_true rfl⟩ (Nat.le_of_ble_eq_true rfl) rfl dL_law_268 rfl (fun v9 u9 hp9 => ?_)
                              obtain ⟨rfl, rfl⟩ := hp9
                              refine u_eqs (st' := [.long (seenZ z)]) rfl ?_
                              refine u_lload h dL_law_271 4 rfl rfl ?_
                              refine u_lcmpE h rfl dL_law_273 rfl ?_
                              refine u_if_ne_N (a := 0) (tgt := 281) h dL_law_274 (by decide) (by omega) rfl (fun c34 => ?_) (fun c34 => ?_)
                              · exact absurd c34 (by decide)
                              · refine u_iconst (v := 1) h dL_law_277 (by decide) rfl ?_
                                refine u_goto (tgt := 282) h dL_law_278 (by decide) ?_
                                refine u_istore_n (lv' := [(2, .int 1), (12, .int (nI (recN r))), (11, .int (nI j)), (10, .int (nI r)), (8, .long (seenZ z)), (7, .int (nI k)), (0, .ref b), (1, .ref x0), (3, .long (seenZ zp)), (5, .int (cntZ zp 6)), (6, .int (nI n))]) h dL_law_282 rfl (by rw [hL]; decide) rfl rfl ?_
                                refine u_lv (lv' := [(0, .ref b), (1, .ref x0), (2, .int 1), (3, .long (seenZ zp)), (5, .int (cntZ zp 6)), (6, .int (nI n))]) [6, 7, 0, 8, 9, 10] rfl ?_
                                exact lw_tail h hR hL hLX hL20 hQ hn hHd hw30 (hga2.un (hga.1.le (by omega)) (Nat.sub_le _ _))
                          refine u_icmp_ge_N (a := r) (b := 4) (tgt := 263) h dL_law_255 (by decide) (by omega) (by omega) rfl (fun c35 => ?_) (fun c35 => ?_)
                          · refine u_iconst (v := 3) h dL_law_263 (by decide) rfl ?_
                            exact J31 _ (by first | (first | exact congrArg nI (show r = recN r - 1 by have := recN_lt (r := r) (by omega); omega) | exact congrArg nI (show 3 = recN r - 1 by have := recN_4 (r := r) (by omega) hr; omega); done) | (exfalso; first | exact absurd (c1.symm.trans c2) (by decide) | exact absurd (c1.symm.trans c17) (by decide) | exact absurd (c1.symm.trans c18) (by decide) | exact absurd (c1.symm.trans c21) (by decide) | exact absurd (c1.symm.trans c22) (by decide) | exact absurd (c1.symm.trans c26) (by decide) | exact absurd (c1.symm.trans c27) (by decide) | exact absurd (c1.symm.trans c28) (by decide) | exact absurd (c1.symm.trans c35) (by decide) | exact absurd (c2.symm.trans c1) (by decide) | exact absurd (c2.symm.trans c17) (by decide) | exact absurd (c2.symm.trans c18) (by decide) | exact absurd (c2.symm.trans c21) (by decide) | exact absurd (c2.symm.trans c22) (by decide) | exact absurd (c2.symm.trans c26) (by decide) | exact absurd (c2.symm.trans c27) (by decide) | exact absurd (c2.symm.trans c28) (by decide) | exact absurd (c2.symm.trans c35) (by decide) | exact absurd (c17.symm.trans c1) (by decide) | exact absurd (c17.symm.trans c2) (by decide) | exact absurd (c17.symm.trans c18) (by decide) | exact absurd (c17.symm.trans c21) (by decide) | exact absurd (c17.symm.trans c22) (by decide) | exact absurd (c17.symm.trans c26) (by decide) | exact absurd (c17.symm.trans c27) (by decide) | exact absurd (c17.symm.trans c28) (by decide) | exact absurd (c17.symm.trans c35) (by decide) | exact absurd (c18.symm.trans c1) (by decide) | exact absurd (c18.symm.trans c2) (by decide) | exact absurd (c18.symm.trans c17) (by decide) | exact absurd (c18.symm.trans c21) (by decide) | exact absurd (c18.symm.trans c22) (by decide) | exact absurd (c18.symm.trans c26) (by decide) | exact absurd (c18.symm.trans c27) (by decide) | exact absurd (c18.symm.trans c28) (by decide) | exact absurd (c18.symm.trans c35) (by decide) | exact absurd (c21.symm.trans c1) (by decide) | exact absurd (c21.symm.trans c2) (by decide) | exact absurd (c21.symm.trans c17) (by decide) | exact absurd (c21.symm.trans c18) (by decide) | exact absurd (c21.symm.trans c22) (by decide) | exact absurd (c21.symm.trans c26) (by decide) | exact absurd (c21.symm.trans c27) (by decide) | exact absurd (c21.symm.trans c28) (by decide) | exact absurd (c21.symm.trans c35) (by decide) | exact absurd (c22.symm.trans c1) (by decide) | exact absurd (c22.symm.trans c2) (by decide) | exact absurd (c22.symm.trans c17) (by decide) | exact absurd (c22.symm.trans c18) (by decide) | exact absurd (c22.symm.trans c21) (by decide) | exact absurd (c22.symm.trans c26) (by decide) | exact absurd (c22.symm.trans c27) (by decide) | exact absurd (c22.symm.trans c28) (by decide) | exact absurd (c22.symm.trans c35) (by decide) | exact absurd (c26.symm.trans c1) (by decide) | exact absurd (c26.symm.trans c2) (by decide) | exact absurd (c26.symm.trans c17) (by decide) | exact absurd (c26.symm.trans c18) (by decide) | exact absurd (c26.symm.trans c21) (by decide) | exact absurd (c26.symm.trans c22) (by decide) | exact absurd (c26.symm.trans c27) (by decide) | exact absurd (c26.symm.trans c28) (by decide) | exact absurd (c26.symm.trans c35) (by decide) | exact absurd (c27.symm.trans c1) (by decide) | exact absurd (c27.symm.trans c2) (by decide) | exact absurd (c27.symm.trans c17) (by decide) | exact absurd (c27.symm.trans c18) (by decide) | exact absurd (c27.symm.trans c21) (by decide) | exact absurd (c27.symm.trans c22) (by decide) | exact absurd (c27.symm.trans c26) (by decide) | exact absurd (c27.symm.trans c28) (by decide) | exact absurd (c27.symm.trans c35) (by decide) | exact absurd (c28.symm.trans c1) (by decide) | exact absurd (c28.symm.trans c2) (by decide) | exact absurd (c28.symm.trans c17) (by decide) | exact absurd (c28.symm.trans c18) (by decide) | exact absurd (c28.symm.trans c21) (by decide) | exact absurd (c28.symm.trans c22) (by decide) | exact absurd (c28.symm.trans c26) (by decide) | exact absurd (c28.symm.trans c27) (by decide) | exact absurd (c28.symm.trans c35) (by decide) | exact absurd (c35.symm.trans c1) (by decide) | exact absurd (c35.symm.trans c2) (by decide) | exact absurd (c35.symm.trans c17) (by decide) | exact absurd (c35.symm.trans c18) (by decide) | exact absurd (c35.symm.trans c21) (by decide) | exact absurd (c35.symm.trans c22) (by decide) | exact absurd (c35.symm.trans c26) (by decide) | exact absurd (c35.symm.trans c27) (by decide) | exact absurd (c35.symm.trans c28) (by decide)))
                          · refine u_iload h dL_law_258 3 rfl rfl ?_
                            refine u_goto (tgt := 264) h dL_law_260 (by decide) ?_
                            exact J31 _ (by first | (first | exact congrArg nI (show r = recN r - 1 by have := recN_lt (r := r) (by omega); omega) | exact congrArg nI (show 3 = recN r - 1 by have := recN_4 (r := r) (by omega) hr; omega); done) | (exfalso; first | exact absurd (c1.symm.trans c2) (by decide) | exact absurd (c1.symm.trans c17) (by decide) | exact absurd (c1.symm.trans c18) (by decide) | exact absurd (c1.symm.trans c21) (by decide) | exact absurd (c1.symm.trans c22) (by decide) | exact absurd (c1.symm.trans c26) (by decide) | exact absurd (c1.symm.trans c27) (by decide) | exact absurd (c1.symm.trans c28) (by decide) | exact absurd (c1.symm.trans c35) (by decide) | exact absurd (c2.symm.trans c1) (by decide) | exact absurd (c2.symm.trans c17) (by decide) | exact absurd (c2.symm.trans c18) (by decide) | exact absurd (c2.symm.trans c21) (by decide) | exact absurd (c2.symm.trans c22) (by decide) | exact absurd (c2.symm.trans c26) (by decide) | exact absurd (c2.symm.trans c27) (by decide) | exact absurd (c2.symm.trans c28) (by decide) | exact absurd (c2.symm.trans c35) (by decide) | exact absurd (c17.symm.trans c1) (by decide) | exact absurd (c17.symm.trans c2) (by decide) | exact absurd (c17.symm.trans c18) (by decide) | exact absurd (c17.symm.trans c21) (by decide) | exact absurd (c17.symm.trans c22) (by decide) | exact absurd (c17.symm.trans c26) (by decide) | exact absurd (c17.symm.trans c27) (by decide) | exact absurd (c17.symm.trans c28) (by decide) | exact absurd (c17.symm.trans c35) (by decide) | exact absurd (c18.symm.trans c1) (by decide) | exact absurd (c18.symm.trans c2) (by decide) | exact absurd (c18.symm.trans c17) (by decide) | exact absurd (c18.symm.trans c21) (by decide) | exact absurd (c18.symm.trans c22) (by decide) | exact absurd (c18.symm.trans c26) (by decide) | exact absurd (c18.symm.trans c27) (by decide) | exact absurd (c18.symm.trans c28) (by decide) | exact absurd (c18.symm.trans c35) (by decide) | exact absurd (c21.symm.trans c1) (by decide) | exact absurd (c21.symm.trans c2) (by decide) | exact absurd (c21.symm.trans c17) (by decide) | exact absurd (c21.symm.trans c18) (by decide) | exact absurd (c21.symm.trans c22) (by decide) | exact absurd (c21.symm.trans c26) (by decide) | exact absurd (c21.symm.trans c27) (by decide) | exact absurd (c21.symm.trans c28) (by decide) | exact absurd (c21.symm.trans c35) (by decide) | exact absurd (c22.symm.trans c1) (by decide) | exact absurd (c22.symm.trans c2) (by decide) | exact absurd (c22.symm.trans c17) (by decide) | exact absurd (c22.symm.trans c18) (by decide) | exact absurd (c22.symm.trans c21) (by decide) | exact absurd (c22.symm.trans c26) (by decide) | exact absurd (c22.symm.trans c27) (by decide) | exact absurd (c22.symm.trans c28) (by decide) | exact absurd (c22.symm.trans c35) (by decide) | exact absurd (c26.symm.trans c1) (by decide) | exact absurd (c26.symm.trans c2) (by decide) | exact absurd (c26.symm.trans c17) (by decide) | exact absurd (c26.symm.trans c18) (by decide) | exact absurd (c26.symm.trans c21) (by decide) | exact absurd (c26.symm.trans c22) (by decide) | exact absurd (c26.symm.trans c27) (by decide) | exact absurd (c26.symm.trans c28) (by decide) | exact absurd (c26.symm.trans c35) (by decide) | exact absurd (c27.symm.trans c1) (by decide) | exact absurd (c27.symm.trans c2) (by decide) | exact absurd (c27.symm.trans c17) (by decide) | exact absurd (c27.symm.trans c18) (by decide) | exact absurd (c27.symm.trans c21) (by decide) | exact absurd (c27.symm.trans c22) (by decide) | exact absurd (c27.symm.trans c26) (by decide) | exact absurd (c27.symm.trans c28) (by decide) | exact absurd (c27.symm.trans c35) (by decide) | exact absurd (c28.symm.trans c1) (by decide) | exact absurd (c28.symm.trans c2) (by decide) | exact absurd (c28.symm.trans c17) (by decide) | exact absurd (c28.symm.trans c18) (by decide) | exact absurd (c28.symm.trans c21) (by decide) | exact absurd (c28.symm.trans c22) (by decide) | exact absurd (c28.symm.trans c26) (by decide) | exact absurd (c28.symm.trans c27) (by decide) | exact absurd (c28.symm.trans c35) (by decide) | exact absurd (c35.symm.trans c1) (by decide) | exact absurd (c35.symm.trans c2) (by decide) | exact absurd (c35.symm.trans c17) (by decide) | exact absurd (c35.symm.trans c18) (by decide) | exact absurd (c35.symm.trans c21) (by decide) | exact absurd (c35.symm.trans c22) (by decide) | exact absurd (c35.symm.trans c26) (by decide) | exact absurd (c35.symm.trans c27) (by decide) | exact absurd (c35.symm.trans c28) (by decide)))
                  refine u_icmp_ne_N (a := (n % 7)) (b := 6) (tgt := 223) h dL_law_208 (by decide) (by omega) (by omega) rfl (fun c36 => ?_) (fun c36 => ?_)
                  · exact J23 _ hw2
                  · refine u_aload_n h dL_law_211 rfl 6 rfl rfl ?_
                    refine u_iload h dL_law_212 4 rfl rfl ?_
                    refine u_bipush (v := 7) h dL_law_214 (by decide) rfl ?_
                    refine u_idiv (v := (nI (k / 7))) h dL_law_216 (by decide) (pk_div (a := k) (d := 7) (by omega) (by omega) (by omega)) rfl ?_
                    refine u_own h (n := 2) (As := [.ref x0, .int (nI (k / 7))]) (lk_refuses hw2 (k := k / 7) (by omega)) ⟨gIn_to glL_95 hT, ⟨_, rfl⟩, by decide +kernel, by decide, by decide⟩ rfl rfl ⟨⟨rfl, rfl⟩, by rw [hR]; decide, by rw [hR]; decide⟩ ⟨by rw [hR]; exact Nat.le_of_ble_eq_true rfl, by rw [hR]; exact Nat.le_of_ble_eq_true rfl⟩ (Nat.le_of_ble_eq_true rfl) rfl dL_law_217 rfl (fun v9 w37 hp9 => ?_)
                    obtain ⟨rfl, hw38⟩ := hp9
                    refine u_eqs (st' := [.int 1]) rfl ?_
                    refine u_if_eq_N (a := 1) (tgt := 227) h dL_law_220 (by decide) (by omega) rfl (fun c39 => ?_) (fun c39 => ?_)
                    · exact absurd c39 (by decide)
                    · exact J23 _ hw38
            refine u_icmp_ge_N (a := r) (b := 4) (tgt := 190) h dL_law_180 (by decide) (by omega) (by omega) rfl (fun c40 => ?_) (fun c40 => ?_)
            · refine u_iconst (v := 4) h dL_law_190 (by decide) rfl ?_
              exact J19 _ (by first | (first | exact congrArg nI (recN_lt (by omega)).symm | exact congrArg nI (recN_4 (by omega) hr).symm; done) | (exfalso; first | exact absurd (c1.symm.trans c2) (by decide) | exact absurd (c1.symm.trans c17) (by decide) | exact absurd (c1.symm.trans c18) (by decide) | exact absurd (c1.symm.trans c40) (by decide) | exact absurd (c2.symm.trans c1) (by decide) | exact absurd (c2.symm.trans c17) (by decide) | exact absurd (c2.symm.trans c18) (by decide) | exact absurd (c2.symm.trans c40) (by decide) | exact absurd (c17.symm.trans c1) (by decide) | exact absurd (c17.symm.trans c2) (by decide) | exact absurd (c17.symm.trans c18) (by decide) | exact absurd (c17.symm.trans c40) (by decide) | exact absurd (c18.symm.trans c1) (by decide) | exact absurd (c18.symm.trans c2) (by decide) | exact absurd (c18.symm.trans c17) (by decide) | exact absurd (c18.symm.trans c40) (by decide) | exact absurd (c40.symm.trans c1) (by decide) | exact absurd (c40.symm.trans c2) (by decide) | exact absurd (c40.symm.trans c17) (by decide) | exact absurd (c40.symm.trans c18) (by decide)))
            · refine u_iload h dL_law_183 2 rfl rfl ?_
              refine u_iconst (v := 1) h dL_law_185 (by decide) rfl ?_
              refine u_iadd (v := (nI (r + 1))) h dL_law_186 (nI_add r 1) rfl ?_
              refine u_goto (tgt := 191) h dL_law_187 (by decide) ?_
              exact J19 _ (by first | (first | exact congrArg nI (recN_lt (by omega)).symm | exact congrArg nI (recN_4 (by omega) hr).symm; done) | (exfalso; first | exact absurd (c1.symm.trans c2) (by decide) | exact absurd (c1.symm.trans c17) (by decide) | exact absurd (c1.symm.trans c18) (by decide) | exact absurd (c1.symm.trans c40) (by decide) | exact absurd (c2.symm.trans c1) (by decide) | exact absurd (c2.symm.trans c17) (by decide) | exact absurd (c2.symm.trans c18) (by decide) | exact absurd (c2.symm.trans c40) (by decide) | exact absurd (c17.symm.trans c1) (by decide) | exact absurd (c17.symm.trans c2) (by decide) | exact absurd (c17.symm.trans c18) (by decide) | exact absurd (c17.symm.trans c40) (by decide) | exact absurd (c18.symm.trans c1) (by decide) | exact absurd (c18.symm.trans c2) (by decide) | exact absurd (c18.symm.trans c17) (by decide) | exact absurd (c18.symm.trans c40) (by decide) | exact absurd (c40.symm.trans c1) (by decide) | exact absurd (c40.symm.trans c2) (by decide) | exact absurd (c40.symm.trans c17) (by decide) | exact absurd (c40.symm.trans c18) (by decide)))
          · exfalso; omega
set_option maxHeartbeats 16000000 in
set_option maxRecDepth 100000 in
theorem lw_loop {G : Gx} {X : Cx} {b L : Nat} {xs : Nat → Int32} (h : CX G X cL_law RL gT) (hR : gR X = room_1) (hL : gL X = 16) (hLX : LX X b L xs) (hL20 : L < 2 ^ 20) (hQ : LQ X b) {x0 : Nat} : ∀ m n : Nat, n + m = 64 → Hd G X x0 b n
  | 0, n, hn => by
    intro z r hz zp w hw hga
    have en : n = 64 := by omega
    subst en
    refine u_iload h dL_law_94 5 rfl rfl ?_
    refine u_bipush (v := 64) h dL_law_96 (by decide) rfl ?_
    refine u_icmp_ge_N (a := 64) (b := 64) (tgt := 373) h dL_law_98 (by decide) (by omega) (by omega) rfl (fun c1 => ?_) (fun c1 => ?_)
    · refine u_iload_n h dL_law_373 rfl 2 rfl rfl ?_
      exact u_lend h hQ (Nat.le_of_ble_eq_true rfl) (Nat.le_of_ble_eq_true rfl) dL_law_374
    · exact absurd c1 (Nat.lt_irrefl 64)
  | m + 1, n, hn => lw_body h hR hL hLX hL20 hQ (by omega) (lw_loop h hR hL hLX hL20 hQ m (n + 1) (by omega))
