set_option maxHeartbeats 8000000 in
set_option maxRecDepth 100000 in
/-- step -/
theorem lk_step {G : Gx} {x0 : Nat} {z : Zf} {r : Nat} {hz : Nat → Zf} {kb : Bool} {zp : Zf} {w : va_W} (hw : IsO G x0 z r hz kb zp w) {v : Nat} (hv : v < 6) : MC G yL_step sL_step rA [.ref x0, .int (nI v)] w (fun v' u' => ∃ s2 : Nat, s2 < 8 ∧ v' = some (.int (nI s2)) ∧ IsO G x0 (stM z v) (recN r) (rmH hz z r) kb zp u') 0 0 := by
  refine mc_of (cc := cL_step) (maxL := 12) (ret := (some .int)) (by decide) rfl (Nat.le_of_ble_eq_true rfl) (fun X h hR hL hRT => ?_)
  have hT : ∀ q ∈ gT, q ∈ sL_step := fun q h9 => lwS_in h9
  have hC : LC X 0 0 := by unfold LC; rw [hR]; decide
  refine u_eql (lv' := [(0, .ref x0), (1, .int (nI v))]) rfl ?_
  have hI := hw.i
  obtain ⟨s, hs, es⟩ := st_lt8 hv hI
  obtain ⟨s2, hs2, es2⟩ := st_lt8 hv (hI.st hv)
  have hs20 : stM z v v = 0 ↔ s2 = 0 := by rw [es2]; exact nI_eq (b := 0) (by omega) (by omega)
  have ho31 : othN z v 6 < 2 ^ 31 := oth_31 hI (Nat.le_refl 6)
  refine u_aload_n h dL_step_0 rfl 0 rfl rfl ?_
  refine u_iload_n h dL_step_1 rfl 1 rfl rfl ?_
  refine u_iconst (v := 0) h dL_step_2 (by decide) rfl ?_
  refine r_visitor h hT hC hw (nI v) 0 dL_step_3 rfl (Nat.le_of_ble_eq_true rfl) ?_
  refine u_top (y := (nI s)) ((visA_0 z hv).trans es) ?_
  refine u_istore_n (lv' := [(2, .int (nI s)), (0, .ref x0), (1, .int (nI v))]) h dL_step_6 rfl (by rw [hL]; decide) rfl rfl ?_
  refine u_aload_n h dL_step_7 rfl 1 rfl rfl ?_
  refine u_iload_n h dL_step_8 rfl 2 rfl rfl ?_
  refine r_wouldLook h hT hC hw (nI v) dL_step_9 rfl (Nat.le_of_ble_eq_true rfl) ?_
  refine u_top (y := (bI (isLook z v))) (lookA_v z hv) ?_
  refine u_istore_n (lv' := [(3, .int (bI (isLook z v))), (2, .int (nI s)), (0, .ref x0), (1, .int (nI v))]) h dL_step_12 rfl (by rw [hL]; decide) rfl rfl ?_
  refine u_aload_n h dL_step_13 rfl 2 rfl rfl ?_
  refine u_iload_n h dL_step_14 rfl 3 rfl rfl ?_
  refine r_wouldTouch h hT hC hw (nI v) dL_step_15 rfl (Nat.le_of_ble_eq_true rfl) ?_
  refine u_top (y := (costM (z 60) (z v))) (touchA_v z hv) ?_
  refine u_istore (lv' := [(4, .int (costM (z 60) (z v))), (3, .int (bI (isLook z v))), (2, .int (nI s)), (0, .ref x0), (1, .int (nI v))]) h dL_step_18 (by rw [hL]; decide) rfl rfl ?_
  refine u_aload_n h dL_step_20 rfl 3 rfl rfl ?_
  refine u_iload_n h dL_step_21 rfl 4 rfl rfl ?_
  refine u_iconst (v := 2) h dL_step_22 (by decide) rfl ?_
  refine r_visitor h hT hC hw (nI v) 2 dL_step_23 rfl (Nat.le_of_ble_eq_true rfl) ?_
  refine u_top (y := (z (68 + v))) (visA_2 z hv) ?_
  refine u_istore (lv' := [(5, .int (z (68 + v))), (4, .int (costM (z 60) (z v))), (3, .int (bI (isLook z v))), (2, .int (nI s)), (0, .ref x0), (1, .int (nI v))]) h dL_step_26 (by rw [hL]; decide) rfl rfl ?_
  refine u_aload_n h dL_step_28 rfl 4 rfl rfl ?_
  refine u_iload_n h dL_step_29 rfl 5 rfl rfl ?_
  refine u_iconst (v := 3) h dL_step_30 (by decide) rfl ?_
  refine r_visitor h hT hC hw (nI v) 3 dL_step_31 rfl (Nat.le_of_ble_eq_true rfl) ?_
  refine u_top (y := (z (74 + v))) (visA_3 z hv) ?_
  refine u_istore (lv' := [(6, .int (z (74 + v))), (5, .int (z (68 + v))), (4, .int (costM (z 60) (z v))), (3, .int (bI (isLook z v))), (2, .int (nI s)), (0, .ref x0), (1, .int (nI v))]) h dL_step_34 (by rw [hL]; decide) rfl rfl ?_
  refine u_aload_n h dL_step_36 rfl 5 rfl rfl ?_
  refine u_bipush (v := 8) h dL_step_37 (by decide) rfl ?_
  refine r_total h hT hC hw 8 dL_step_39 rfl (Nat.le_of_ble_eq_true rfl) ?_
  refine u_top (y := (sumZ z 80 6)) (totA_8 z r 0) ?_
  refine u_istore (lv' := [(7, .int (sumZ z 80 6)), (6, .int (z (74 + v))), (5, .int (z (68 + v))), (4, .int (costM (z 60) (z v))), (3, .int (bI (isLook z v))), (2, .int (nI s)), (0, .ref x0), (1, .int (nI v))]) h dL_step_42 (by rw [hL]; decide) rfl rfl ?_
  refine u_aload_n h dL_step_44 rfl 6 rfl rfl ?_
  refine u_iconst (v := 5) h dL_step_45 (by decide) rfl ?_
  refine r_total h hT hC hw 5 dL_step_46 rfl (Nat.le_of_ble_eq_true rfl) ?_
  refine u_top (y := (sumZ z 62 6)) (totA_5 z r 0) ?_
  refine u_istore (lv' := [(8, .int (sumZ z 62 6)), (7, .int (sumZ z 80 6)), (6, .int (z (74 + v))), (5, .int (z (68 + v))), (4, .int (costM (z 60) (z v))), (3, .int (bI (isLook z v))), (2, .int (nI s)), (0, .ref x0), (1, .int (nI v))]) h dL_step_49 (by rw [hL]; decide) rfl rfl ?_
  refine u_iconst (v := 0) h dL_step_51 (by decide) rfl ?_
  refine u_istore (lv' := [(9, .int 0), (8, .int (sumZ z 62 6)), (7, .int (sumZ z 80 6)), (6, .int (z (74 + v))), (5, .int (z (68 + v))), (4, .int (costM (z 60) (z v))), (3, .int (bI (isLook z v))), (2, .int (nI s)), (0, .ref x0), (1, .int (nI v))]) h dL_step_52 (by rw [hL]; decide) rfl rfl ?_
  refine u_iconst (v := 0) h dL_step_54 (by decide) rfl ?_
  refine u_istore (lv' := [(10, .int 0), (9, .int 0), (8, .int (sumZ z 62 6)), (7, .int (sumZ z 80 6)), (6, .int (z (74 + v))), (5, .int (z (68 + v))), (4, .int (costM (z 60) (z v))), (3, .int (bI (isLook z v))), (2, .int (nI s)), (0, .ref x0), (1, .int (nI v))]) h dL_step_55 (by rw [hL]; decide) rfl rfl ?_
  have La : ∀ (k9 : Nat) (k : Nat), 6 - k = k9 → (k ≤ 6) → U G X 0 0 w 57 [(10, .int (nI k)), (9, .int (nI (othN z v k))), (8, .int (sumZ z 62 6)), (7, .int (sumZ z 80 6)), (6, .int (z (74 + v))), (5, .int (z (68 + v))), (4, .int (costM (z 60) (z v))), (3, .int (bI (isLook z v))), (2, .int (nI s)), (0, .ref x0), (1, .int (nI v))] [] := by
    intro k9
    induction k9 using Nat.strongRecOn with
    | _ k9 iha =>
      intro k hk9 hk6
      subst hk9
      refine u_iload h dL_step_57 0 rfl rfl ?_
      refine u_bipush (v := 6) h dL_step_59 (by decide) rfl ?_
      refine u_icmp_ge_N (a := k) (b := 6) (tgt := 95) h dL_step_61 (by decide) (by omega) (by omega) rfl (fun c1 => ?_) (fun c1 => ?_)
      · have ek : k = 6 := by omega
        subst ek
        refine u_eql (lv' := [(10, .int 6), (9, .int (nI (othN z v 6))), (8, .int (sumZ z 62 6)), (7, .int (sumZ z 80 6)), (6, .int (z (74 + v))), (5, .int (z (68 + v))), (4, .int (costM (z 60) (z v))), (3, .int (bI (isLook z v))), (2, .int (nI s)), (0, .ref x0), (1, .int (nI v))]) rfl ?_
        refine u_aload_n h dL_step_95 rfl 9 rfl rfl ?_
        refine u_iload_n h dL_step_96 rfl 10 rfl rfl ?_
        refine r_step h hT hC hw (nI v) dL_step_97 rfl (Nat.le_of_ble_eq_true rfl) (fun w2 hw3 => ?_)
        replace hw3 := hw3.stp hv
        refine u_top (y := (nI s2)) ((stepA_v z hv).trans es2) ?_
        refine u_istore (lv' := [(10, .int (nI s2)), (9, .int (nI (othN z v 6))), (8, .int (sumZ z 62 6)), (7, .int (sumZ z 80 6)), (6, .int (z (74 + v))), (5, .int (z (68 + v))), (4, .int (costM (z 60) (z v))), (3, .int (bI (isLook z v))), (2, .int (nI s)), (0, .ref x0), (1, .int (nI v))]) h dL_step_100 (by rw [hL]; decide) rfl rfl ?_
        refine u_iconst (v := 5) h dL_step_102 (by decide) rfl ?_
        refine u_istore (lv' := [(11, .int 5), (10, .int (nI s2)), (9, .int (nI (othN z v 6))), (8, .int (sumZ z 62 6)), (7, .int (sumZ z 80 6)), (6, .int (z (74 + v))), (5, .int (z (68 + v))), (4, .int (costM (z 60) (z v))), (3, .int (bI (isLook z v))), (2, .int (nI s)), (0, .ref x0), (1, .int (nI v))]) h dL_step_103 (by rw [hL]; decide) rfl rfl ?_
        refine u_eql (lv' := [(11, .int (nI 6 + -1)), (10, .int (nI s2)), (9, .int (nI (othN z v 6))), (8, .int (sumZ z 62 6)), (7, .int (sumZ z 80 6)), (6, .int (z (74 + v))), (5, .int (z (68 + v))), (4, .int (costM (z 60) (z v))), (3, .int (bI (isLook z v))), (2, .int (nI s)), (0, .ref x0), (1, .int (nI v))]) (by rw [← sb5]) ?_
        have Ld : ∀ j : Nat, j ≤ 6 → U G X 0 0 w2 105 [(11, .int (nI j + -1)), (10, .int (nI s2)), (9, .int (nI (othN z v j))), (8, .int (sumZ z 62 6)), (7, .int (sumZ z 80 6)), (6, .int (z (74 + v))), (5, .int (z (68 + v))), (4, .int (costM (z 60) (z v))), (3, .int (bI (isLook z v))), (2, .int (nI s)), (0, .ref x0), (1, .int (nI v))] [] := by
          intro j
          induction j with
          | zero =>
            intro _
            refine u_eql (lv' := [(11, .int (-1)), (10, .int (nI s2)), (9, .int (nI (othN z v 0))), (8, .int (sumZ z 62 6)), (7, .int (sumZ z 80 6)), (6, .int (z (74 + v))), (5, .int (z (68 + v))), (4, .int (costM (z 60) (z v))), (3, .int (bI (isLook z v))), (2, .int (nI s)), (0, .ref x0), (1, .int (nI v))]) (by rw [sb0]) ?_
            refine u_iload h dL_step_105 0 rfl rfl ?_
            refine u_if_lt (tgt := 147) h dL_step_107 (by decide) rfl (fun c4 => ?_) (fun c4 => ?_)
            · cases hlk : isLook z v
              · have hss : ¬ s2 = s := fun q9 => absurd ((st_look hv hI).mp (es2.trans ((congrArg nI q9).trans es.symm))) (by rw [hlk]; decide)
                refine u_eql (lv' := [(11, .int (-1)), (10, .int (nI s2)), (9, .int (nI (othN z v 0))), (8, .int (sumZ z 62 6)), (7, .int (sumZ z 80 6)), (6, .int (z (74 + v))), (5, .int (z (68 + v))), (4, .int (costM (z 60) (z v))), (3, .int 0), (2, .int (nI s)), (0, .ref x0), (1, .int (nI v))]) (by rfl) ?_
                rcases cost_01 (z 60) (z v) with hc | hc
                · refine u_eql (lv' := [(11, .int (-1)), (10, .int (nI s2)), (9, .int (nI (othN z v 0))), (8, .int (sumZ z 62 6)), (7, .int (sumZ z 80 6)), (6, .int (z (74 + v))), (5, .int (z (68 + v))), (4, .int 0), (3, .int 0), (2, .int (nI s)), (0, .ref x0), (1, .int (nI v))]) (by rw [hc]) ?_
                  refine u_iload h dL_step_147 7 rfl rfl ?_
                  refine u_if_lt_N (a := 0) (tgt := 258) h dL_step_149 (by decide) (by omega) rfl (fun c5 => ?_) (fun c5 => ?_)
                  · exact absurd c5 (by decide)
                  · refine u_iload h dL_step_152 7 rfl rfl ?_
                    refine u_iconst (v := 2) h dL_step_154 (by decide) rfl ?_
                    refine u_icmp_ge_N (a := 0) (b := 2) (tgt := 258) h dL_step_155 (by decide) (by omega) (by omega) rfl (fun c6 => ?_) (fun c6 => ?_)
                    · exact absurd c6 (by decide)
                    · refine u_aload_n h dL_step_158 rfl 10 rfl rfl ?_
                      refine u_iload_n h dL_step_159 rfl 11 rfl rfl ?_
                      refine u_iconst (v := 0) h dL_step_160 (by decide) rfl ?_
                      refine r_visitor h hT hC hw3 (nI v) 0 dL_step_161 rfl (Nat.le_of_ble_eq_true rfl) ?_
                      refine u_top (y := (nI s2)) ((visA_0 (stM z v) hv).trans es2) ?_
                      refine u_iload h dL_step_164 1 rfl rfl ?_
                      refine u_icmp_ne_N (a := s2) (b := s2) (tgt := 258) h dL_step_166 (by decide) (by omega) (by omega) rfl (fun c7 => ?_) (fun c7 => ?_)
                      · exact absurd rfl c7
                      · refine u_iload h dL_step_169 1 rfl rfl ?_
                        refine u_iload_n h dL_step_171 rfl 9 rfl rfl ?_
                        refine u_icmp_ne_N (a := s2) (b := s) (tgt := 179) h dL_step_172 (by decide) (by omega) (by omega) rfl (fun c8 => ?_) (fun c8 => ?_)
                        · refine u_iconst (v := 0) h dL_step_179 (by decide) rfl ?_
                          refine u_iload_n h dL_step_180 rfl 8 rfl rfl ?_
                          refine u_iconst (v := 1) h dL_step_181 (by decide) rfl ?_
                          refine u_icmp_ne_N (a := 0) (b := 1) (tgt := 189) h dL_step_182 (by decide) (by omega) (by omega) rfl (fun c9 => ?_) (fun c9 => ?_)
                          · refine u_iconst (v := 0) h dL_step_189 (by decide) rfl ?_
                            refine u_icmp_ne_N (a := 0) (b := 0) (tgt := 258) h dL_step_190 (by decide) (by omega) (by omega) rfl (fun c10 => ?_) (fun c10 => ?_)
                            · exact absurd c10 (by decide)
                            · refine u_aload_n h dL_step_193 rfl 10 rfl rfl ?_
                              refine u_iload_n h dL_step_194 rfl 11 rfl rfl ?_
                              refine u_iconst (v := 2) h dL_step_195 (by decide) rfl ?_
                              refine r_visitor h hT hC hw3 (nI v) 2 dL_step_196 rfl (Nat.le_of_ble_eq_true rfl) ?_
                              refine u_top (y := ((z (68 + v)) + 0)) ((visA_2 (stM z v) hv).trans ((st_68 hv hI).trans (by rw [hlk]; rfl))) ?_
                              refine u_iload h dL_step_199 6 rfl rfl ?_
                              refine u_iload_n h dL_step_201 rfl 8 rfl rfl ?_
                              refine u_iadd (v := ((z (68 + v)) + 0)) h dL_step_202 rfl rfl ?_
                              refine u_icmp_ne (tgt := 258) h dL_step_203 (by decide) rfl (fun c11 => ?_) (fun c11 => ?_)
                              · exact absurd rfl c11
                              · refine u_aload_n h dL_step_206 rfl 10 rfl rfl ?_
                                refine u_iload_n h dL_step_207 rfl 11 rfl rfl ?_
                                refine u_iconst (v := 3) h dL_step_208 (by decide) rfl ?_
                                refine r_visitor h hT hC hw3 (nI v) 3 dL_step_209 rfl (Nat.le_of_ble_eq_true rfl) ?_
                                refine u_top (y := (stM z v (74 + v))) (visA_3 (stM z v) hv) ?_
                                refine u_iload h dL_step_212 5 rfl rfl ?_
                                refine u_iload h dL_step_214 1 rfl rfl ?_
                                refine u_if_ne_N (a := s2) (tgt := 223) h dL_step_216 (by decide) (by omega) rfl (fun c12 => ?_) (fun c12 => ?_)
                                · refine u_iconst (v := 0) h dL_step_223 (by decide) rfl ?_
                                  refine u_iadd (v := ((z (74 + v)) + 0)) h dL_step_224 rfl rfl ?_
                                  refine u_icmp_ne (tgt := 258) h dL_step_225 (by decide) rfl (fun c13 => ?_) (fun c13 => ?_)
                                  · first | exact absurd (st_74y hv hI (hs20.mpr (by omega))) c13 | exact absurd (st_74n hv hI (fun q9 => absurd (hs20.mp q9) (by omega))) c13
                                  · refine u_aload_n h dL_step_228 rfl 10 rfl rfl ?_
                                    refine u_bipush (v := 8) h dL_step_229 (by decide) rfl ?_
                                    refine r_total h hT hC hw3 8 dL_step_231 rfl (Nat.le_of_ble_eq_true rfl) ?_
                                    refine u_top (y := ((sumZ z 80 6) + 0)) ((totA_8 (stM z v) (recN r) 0).trans ((sum_80 hv hI).trans (by rw [hc]))) ?_
                                    refine u_iload h dL_step_234 4 rfl rfl ?_
                                    refine u_iload h dL_step_236 7 rfl rfl ?_
                                    refine u_iadd (v := ((sumZ z 80 6) + 0)) h dL_step_238 rfl rfl ?_
                                    refine u_icmp_ne (tgt := 258) h dL_step_239 (by decide) rfl (fun c14 => ?_) (fun c14 => ?_)
                                    · exact absurd rfl c14
                                    · refine u_aload_n h dL_step_242 rfl 10 rfl rfl ?_
                                      refine u_iconst (v := 5) h dL_step_243 (by decide) rfl ?_
                                      refine r_total h hT hC hw3 5 dL_step_244 rfl (Nat.le_of_ble_eq_true rfl) ?_
                                      refine u_top (y := ((sumZ z 62 6) + 1)) ((totA_5 (stM z v) (recN r) 0).trans (sum_62 hv hI)) ?_
                                      refine u_iload h dL_step_247 3 rfl rfl ?_
                                      refine u_iconst (v := 1) h dL_step_249 (by decide) rfl ?_
                                      refine u_iadd (v := ((sumZ z 62 6) + 1)) h dL_step_250 rfl rfl ?_
                                      refine u_icmp_ne (tgt := 258) h dL_step_251 (by decide) rfl (fun c15 => ?_) (fun c15 => ?_)
                                      · exact absurd rfl c15
                                      · refine u_iconst (v := 1) h dL_step_254 (by decide) rfl ?_
                                        refine u_goto (tgt := 259) h dL_step_255 (by decide) ?_
                                        refine u_istore (lv' := [(11, .int 1), (10, .int (nI s2)), (9, .int (nI (othN z v 0))), (8, .int (sumZ z 62 6)), (7, .int (sumZ z 80 6)), (6, .int (z (74 + v))), (5, .int (z (68 + v))), (4, .int 0), (3, .int 0), (2, .int (nI s)), (0, .ref x0), (1, .int (nI v))]) h dL_step_259 (by rw [hL]; decide) rfl rfl ?_
                                        refine u_iload h dL_step_261 0 rfl rfl ?_
                                        refine u_if_eq_N (a := 1) (tgt := 271) h dL_step_263 (by decide) (by omega) rfl (fun c16 => ?_) (fun c16 => ?_)
                                        · exact absurd c16 (by decide)
                                        · refine u_iload h dL_step_266 1 rfl rfl ?_
                                          refine u_goto (tgt := 273) h dL_step_268 (by decide) ?_
                                          exact u_iret h hRT dL_step_273 (Nat.le_refl _) (Nat.le_refl _) ⟨s2, hs2, rfl, hw3⟩
                                · refine u_iconst (v := 1) h dL_step_219 (by decide) rfl ?_
                                  refine u_goto (tgt := 224) h dL_step_220 (by decide) ?_
                                  refine u_iadd (v := ((z (74 + v)) + 1)) h dL_step_224 rfl rfl ?_
                                  refine u_icmp_ne (tgt := 258) h dL_step_225 (by decide) rfl (fun c17 => ?_) (fun c17 => ?_)
                                  · first | exact absurd (st_74y hv hI (hs20.mpr (by omega))) c17 | exact absurd (st_74n hv hI (fun q9 => absurd (hs20.mp q9) (by omega))) c17
                                  · refine u_aload_n h dL_step_228 rfl 10 rfl rfl ?_
                                    refine u_bipush (v := 8) h dL_step_229 (by decide) rfl ?_
                                    refine r_total h hT hC hw3 8 dL_step_231 rfl (Nat.le_of_ble_eq_true rfl) ?_
                                    refine u_top (y := ((sumZ z 80 6) + 0)) ((totA_8 (stM z v) (recN r) 0).trans ((sum_80 hv hI).trans (by rw [hc]))) ?_
                                    refine u_iload h dL_step_234 4 rfl rfl ?_
                                    refine u_iload h dL_step_236 7 rfl rfl ?_
                                    refine u_iadd (v := ((sumZ z 80 6) + 0)) h dL_step_238 rfl rfl ?_
                                    refine u_icmp_ne (tgt := 258) h dL_step_239 (by decide) rfl (fun c18 => ?_) (fun c18 => ?_)
                                    · exact absurd rfl c18
                                    · refine u_aload_n h dL_step_242 rfl 10 rfl rfl ?_
                                      refine u_iconst (v := 5) h dL_step_243 (by decide) rfl ?_
                                      refine r_total h hT hC hw3 5 dL_step_244 rfl (Nat.le_of_ble_eq_true rfl) ?_
                                      refine u_top (y := ((sumZ z 62 6) + 1)) ((totA_5 (stM z v) (recN r) 0).trans (sum_62 hv hI)) ?_
                                      refine u_iload h dL_step_247 3 rfl rfl ?_
                                      refine u_iconst (v := 1) h dL_step_249 (by decide) rfl ?_
                                      refine u_iadd (v := ((sumZ z 62 6) + 1)) h dL_step_250 rfl rfl ?_
                                      refine u_icmp_ne (tgt := 258) h dL_step_251 (by decide) rfl (fun c19 => ?_) (fun c19 => ?_)
                                      · exact absurd rfl c19
                                      · refine u_iconst (v := 1) h dL_step_254 (by decide) rfl ?_
                                        refine u_goto (tgt := 259) h dL_step_255 (by decide) ?_
                                        refine u_istore (lv' := [(11, .int 1), (10, .int (nI s2)), (9, .int (nI (othN z v 0))), (8, .int (sumZ z 62 6)), (7, .int (sumZ z 80 6)), (6, .int (z (74 + v))), (5, .int (z (68 + v))), (4, .int 0), (3, .int 0), (2, .int (nI s)), (0, .ref x0), (1, .int (nI v))]) h dL_step_259 (by rw [hL]; decide) rfl rfl ?_
                                        refine u_iload h dL_step_261 0 rfl rfl ?_
                                        refine u_if_eq_N (a := 1) (tgt := 271) h dL_step_263 (by decide) (by omega) rfl (fun c20 => ?_) (fun c20 => ?_)
                                        · exact absurd c20 (by decide)
                                        · refine u_iload h dL_step_266 1 rfl rfl ?_
                                          refine u_goto (tgt := 273) h dL_step_268 (by decide) ?_
                                          exact u_iret h hRT dL_step_273 (Nat.le_refl _) (Nat.le_refl _) ⟨s2, hs2, rfl, hw3⟩
                          · exact absurd c9 (by decide)
                        · exact absurd c8 hss
                · refine u_eql (lv' := [(11, .int (-1)), (10, .int (nI s2)), (9, .int (nI (othN z v 0))), (8, .int (sumZ z 62 6)), (7, .int (sumZ z 80 6)), (6, .int (z (74 + v))), (5, .int (z (68 + v))), (4, .int 1), (3, .int 0), (2, .int (nI s)), (0, .ref x0), (1, .int (nI v))]) (by rw [hc]) ?_
                  refine u_iload h dL_step_147 7 rfl rfl ?_
                  refine u_if_lt_N (a := 1) (tgt := 258) h dL_step_149 (by decide) (by omega) rfl (fun c21 => ?_) (fun c21 => ?_)
                  · exact absurd c21 (by decide)
                  · refine u_iload h dL_step_152 7 rfl rfl ?_
                    refine u_iconst (v := 2) h dL_step_154 (by decide) rfl ?_
                    refine u_icmp_ge_N (a := 1) (b := 2) (tgt := 258) h dL_step_155 (by decide) (by omega) (by omega) rfl (fun c22 => ?_) (fun c22 => ?_)
                    · exact absurd c22 (by decide)
                    · refine u_aload_n h dL_step_158 rfl 10 rfl rfl ?_
                      refine u_iload_n h dL_step_159 rfl 11 rfl rfl ?_
                      refine u_iconst (v := 0) h dL_step_160 (by decide) rfl ?_
                      refine r_visitor h hT hC hw3 (nI v) 0 dL_step_161 rfl (Nat.le_of_ble_eq_true rfl) ?_
                      refine u_top (y := (nI s2)) ((visA_0 (stM z v) hv).trans es2) ?_
                      refine u_iload h dL_step_164 1 rfl rfl ?_
                      refine u_icmp_ne_N (a := s2) (b := s2) (tgt := 258) h dL_step_166 (by decide) (by omega) (by omega) rfl (fun c23 => ?_) (fun c23 => ?_)
                      · exact absurd rfl c23
                      · refine u_iload h dL_step_169 1 rfl rfl ?_
                        refine u_iload_n h dL_step_171 rfl 9 rfl rfl ?_
                        refine u_icmp_ne_N (a := s2) (b := s) (tgt := 179) h dL_step_172 (by decide) (by omega) (by omega) rfl (fun c24 => ?_) (fun c24 => ?_)
                        · refine u_iconst (v := 0) h dL_step_179 (by decide) rfl ?_
                          refine u_iload_n h dL_step_180 rfl 8 rfl rfl ?_
                          refine u_iconst (v := 1) h dL_step_181 (by decide) rfl ?_
                          refine u_icmp_ne_N (a := 0) (b := 1) (tgt := 189) h dL_step_182 (by decide) (by omega) (by omega) rfl (fun c25 => ?_) (fun c25 => ?_)
                          · refine u_iconst (v := 0) h dL_step_189 (by decide) rfl ?_
                            refine u_icmp_ne_N (a := 0) (b := 0) (tgt := 258) h dL_step_190 (by decide) (by omega) (by omega) rfl (fun c26 => ?_) (fun c26 => ?_)
                            · exact absurd c26 (by decide)
                            · refine u_aload_n h dL_step_193 rfl 10 rfl rfl ?_
                              refine u_iload_n h dL_step_194 rfl 11 rfl rfl ?_
                              refine u_iconst (v := 2) h dL_step_195 (by decide) rfl ?_
                              refine r_visitor h hT hC hw3 (nI v) 2 dL_step_196 rfl (Nat.le_of_ble_eq_true rfl) ?_
                              refine u_top (y := ((z (68 + v)) + 0)) ((visA_2 (stM z v) hv).trans ((st_68 hv hI).trans (by rw [hlk]; rfl))) ?_
                              refine u_iload h dL_step_199 6 rfl rfl ?_
                              refine u_iload_n h dL_step_201 rfl 8 rfl rfl ?_
                              refine u_iadd (v := ((z (68 + v)) + 0)) h dL_step_202 rfl rfl ?_
                              refine u_icmp_ne (tgt := 258) h dL_step_203 (by decide) rfl (fun c27 => ?_) (fun c27 => ?_)
                              · exact absurd rfl c27
                              · refine u_aload_n h dL_step_206 rfl 10 rfl rfl ?_
                                refine u_iload_n h dL_step_207 rfl 11 rfl rfl ?_
                                refine u_iconst (v := 3) h dL_step_208 (by decide) rfl ?_
                                refine r_visitor h hT hC hw3 (nI v) 3 dL_step_209 rfl (Nat.le_of_ble_eq_true rfl) ?_
                                refine u_top (y := (stM z v (74 + v))) (visA_3 (stM z v) hv) ?_
                                refine u_iload h dL_step_212 5 rfl rfl ?_
                                refine u_iload h dL_step_214 1 rfl rfl ?_
                                refine u_if_ne_N (a := s2) (tgt := 223) h dL_step_216 (by decide) (by omega) rfl (fun c28 => ?_) (fun c28 => ?_)
                                · refine u_iconst (v := 0) h dL_step_223 (by decide) rfl ?_
                                  refine u_iadd (v := ((z (74 + v)) + 0)) h dL_step_224 rfl rfl ?_
                                  refine u_icmp_ne (tgt := 258) h dL_step_225 (by decide) rfl (fun c29 => ?_) (fun c29 => ?_)
                                  · first | exact absurd (st_74y hv hI (hs20.mpr (by omega))) c29 | exact absurd (st_74n hv hI (fun q9 => absurd (hs20.mp q9) (by omega))) c29
                                  · refine u_aload_n h dL_step_228 rfl 10 rfl rfl ?_
                                    refine u_bipush (v := 8) h dL_step_229 (by decide) rfl ?_
                                    refine r_total h hT hC hw3 8 dL_step_231 rfl (Nat.le_of_ble_eq_true rfl) ?_
                                    refine u_top (y := ((sumZ z 80 6) + 1)) ((totA_8 (stM z v) (recN r) 0).trans ((sum_80 hv hI).trans (by rw [hc]))) ?_
                                    refine u_iload h dL_step_234 4 rfl rfl ?_
                                    refine u_iload h dL_step_236 7 rfl rfl ?_
                                    refine u_iadd (v := ((sumZ z 80 6) + 1)) h dL_step_238 rfl rfl ?_
                                    refine u_icmp_ne (tgt := 258) h dL_step_239 (by decide) rfl (fun c30 => ?_) (fun c30 => ?_)
                                    · exact absurd rfl c30
                                    · refine u_aload_n h dL_step_242 rfl 10 rfl rfl ?_
                                      refine u_iconst (v := 5) h dL_step_243 (by decide) rfl ?_
                                      refine r_total h hT hC hw3 5 dL_step_244 rfl (Nat.le_of_ble_eq_true rfl) ?_
                                      refine u_top (y := ((sumZ z 62 6) + 1)) ((totA_5 (stM z v) (recN r) 0).trans (sum_62 hv hI)) ?_
                                      refine u_iload h dL_step_247 3 rfl rfl ?_
                                      refine u_iconst (v := 1) h dL_step_249 (by decide) rfl ?_
                                      refine u_iadd (v := ((sumZ z 62 6) + 1)) h dL_step_250 rfl rfl ?_
                                      refine u_icmp_ne (tgt := 258) h dL_step_251 (by decide) rfl (fun c31 => ?_) (fun c31 => ?_)
                                      · exact absurd rfl c31
                                      · refine u_iconst (v := 1) h dL_step_254 (by decide) rfl ?_
                                        refine u_goto (tgt := 259) h dL_step_255 (by decide) ?_
                                        refine u_istore (lv' := [(11, .int 1), (10, .int (nI s2)), (9, .int (nI (othN z v 0))), (8, .int (sumZ z 62 6)), (7, .int (sumZ z 80 6)), (6, .int (z (74 + v))), (5, .int (z (68 + v))), (4, .int 1), (3, .int 0), (2, .int (nI s)), (0, .ref x0), (1, .int (nI v))]) h dL_step_259 (by rw [hL]; decide) rfl rfl ?_
                                        refine u_iload h dL_step_261 0 rfl rfl ?_
                                        refine u_if_eq_N (a := 1) (tgt := 271) h dL_step_263 (by decide) (by omega) rfl (fun c32 => ?_) (fun c32 => ?_)
                                        · exact absurd c32 (by decide)
                                        · refine u_iload h dL_step_266 1 rfl rfl ?_
                                          refine u_goto (tgt := 273) h dL_step_268 (by decide) ?_
                                          exact u_iret h hRT dL_step_273 (Nat.le_refl _) (Nat.le_refl _) ⟨s2, hs2, rfl, hw3⟩
                                · refine u_iconst (v := 1) h dL_step_219 (by decide) rfl ?_
                                  refine u_goto (tgt := 224) h dL_step_220 (by decide) ?_
                                  refine u_iadd (v := ((z (74 + v)) + 1)) h dL_step_224 rfl rfl ?_
                                  refine u_icmp_ne (tgt := 258) h dL_step_225 (by decide) rfl (fun c33 => ?_) (fun c33 => ?_)
                                  · first | exact absurd (st_74y hv hI (hs20.mpr (by omega))) c33 | exact absurd (st_74n hv hI (fun q9 => absurd (hs20.mp q9) (by omega))) c33
                                  · refine u_aload_n h dL_step_228 rfl 10 rfl rfl ?_
                                    refine u_bipush (v := 8) h dL_step_229 (by decide) rfl ?_
                                    refine r_total h hT hC hw3 8 dL_step_231 rfl (Nat.le_of_ble_eq_true rfl) ?_
                                    refine u_top (y := ((sumZ z 80 6) + 1)) ((totA_8 (stM z v) (recN r) 0).trans ((sum_80 hv hI).trans (by rw [hc]))) ?_
                                    refine u_iload h dL_step_234 4 rfl rfl ?_
                                    refine u_iload h dL_step_236 7 rfl rfl ?_
                                    refine u_iadd (v := ((sumZ z 80 6) + 1)) h dL_step_238 rfl rfl ?_
                                    refine u_icmp_ne (tgt := 258) h dL_step_239 (by decide) rfl (fun c34 => ?_) (fun c34 => ?_)
                                    · exact absurd rfl c34
                                    · refine u_aload_n h dL_step_242 rfl 10 rfl rfl ?_
                                      refine u_iconst (v := 5) h dL_step_243 (by decide) rfl ?_
                                      refine r_total h hT hC hw3 5 dL_step_244 rfl (Nat.le_of_ble_eq_true rfl) ?_
                                      refine u_top (y := ((sumZ z 62 6) + 1)) ((totA_5 (stM z v) (recN r) 0).trans (sum_62 hv hI)) ?_
                                      refine u_iload h dL_step_247 3 rfl rfl ?_
                                      refine u_iconst (v := 1) h dL_step_249 (by decide) rfl ?_
                                      refine u_iadd (v := ((sumZ z 62 6) + 1)) h dL_step_250 rfl rfl ?_
                                      refine u_icmp_ne (tgt := 258) h dL_step_251 (by decide) rfl (fun c35 => ?_) (fun c35 => ?_)
                                      · exact absurd rfl c35
                                      · refine u_iconst (v := 1) h dL_step_254 (by decide) rfl ?_
                                        refine u_goto (tgt := 259) h dL_step_255 (by decide) ?_
                                        refine u_istore (lv' := [(11, .int 1), (10, .int (nI s2)), (9, .int (nI (othN z v 0))), (8, .int (sumZ z 62 6)), (7, .int (sumZ z 80 6)), (6, .int (z (74 + v))), (5, .int (z (68 + v))), (4, .int 1), (3, .int 0), (2, .int (nI s)), (0, .ref x0), (1, .int (nI v))]) h dL_step_259 (by rw [hL]; decide) rfl rfl ?_
                                        refine u_iload h dL_step_261 0 rfl rfl ?_
                                        refine u_if_eq_N (a := 1) (tgt := 271) h dL_step_263 (by decide) (by omega) rfl (fun c36 => ?_) (fun c36 => ?_)
                                        · exact absurd c36 (by decide)
                                        · refine u_iload h dL_step_266 1 rfl rfl ?_
                                          refine u_goto (tgt := 273) h dL_step_268 (by decide) ?_
                                          exact u_iret h hRT dL_step_273 (Nat.le_refl _) (Nat.le_refl _) ⟨s2, hs2, rfl, hw3⟩
                          · exact absurd c25 (by decide)
                        · exact absurd c24 hss
              · have hss : s2 = s := nI_inj (by omega) (by omega) (es2.symm.trans (((st_look hv hI).mpr hlk).trans es))
                refine u_eql (lv' := [(11, .int (-1)), (10, .int (nI s2)), (9, .int (nI (othN z v 0))), (8, .int (sumZ z 62 6)), (7, .int (sumZ z 80 6)), (6, .int (z (74 + v))), (5, .int (z (68 + v))), (4, .int (costM (z 60) (z v))), (3, .int 1), (2, .int (nI s)), (0, .ref x0), (1, .int (nI v))]) (by rfl) ?_
                rcases cost_01 (z 60) (z v) with hc | hc
                · refine u_eql (lv' := [(11, .int (-1)), (10, .int (nI s2)), (9, .int (nI (othN z v 0))), (8, .int (sumZ z 62 6)), (7, .int (sumZ z 80 6)), (6, .int (z (74 + v))), (5, .int (z (68 + v))), (4, .int 0), (3, .int 1), (2, .int (nI s)), (0, .ref x0), (1, .int (nI v))]) (by rw [hc]) ?_
                  refine u_iload h dL_step_147 7 rfl rfl ?_
                  refine u_if_lt_N (a := 0) (tgt := 258) h dL_step_149 (by decide) (by omega) rfl (fun c37 => ?_) (fun c37 => ?_)
                  · exact absurd c37 (by decide)
                  · refine u_iload h dL_step_152 7 rfl rfl ?_
                    refine u_iconst (v := 2) h dL_step_154 (by decide) rfl ?_
                    refine u_icmp_ge_N (a := 0) (b := 2) (tgt := 258) h dL_step_155 (by decide) (by omega) (by omega) rfl (fun c38 => ?_) (fun c38 => ?_)
                    · exact absurd c38 (by decide)
                    · refine u_aload_n h dL_step_158 rfl 10 rfl rfl ?_
                      refine u_iload_n h dL_step_159 rfl 11 rfl rfl ?_
                      refine u_iconst (v := 0) h dL_step_160 (by decide) rfl ?_
                      refine r_visitor h hT hC hw3 (nI v) 0 dL_step_161 rfl (Nat.le_of_ble_eq_true rfl) ?_
                      refine u_top (y := (nI s2)) ((visA_0 (stM z v) hv).trans es2) ?_
                      refine u_iload h dL_step_164 1 rfl rfl ?_
                      refine u_icmp_ne_N (a := s2) (b := s2) (tgt := 258) h dL_step_166 (by decide) (by omega) (by omega) rfl (fun c39 => ?_) (fun c39 => ?_)
                      · exact absurd rfl c39
                      · refine u_iload h dL_step_169 1 rfl rfl ?_
                        refine u_iload_n h dL_step_171 rfl 9 rfl rfl ?_
                        refine u_icmp_ne_N (a := s2) (b := s) (tgt := 179) h dL_step_172 (by decide) (by omega) (by omega) rfl (fun c40 => ?_) (fun c40 => ?_)
                        · exact absurd hss c40
                        · refine u_iconst (v := 1) h dL_step_175 (by decide) rfl ?_
                          refine u_goto (tgt := 180) h dL_step_176 (by decide) ?_
                          refine u_iload_n h dL_step_180 rfl 8 rfl rfl ?_
                          refine u_iconst (v := 1) h dL_step_181 (by decide) rfl ?_
                          refine u_icmp_ne_N (a := 1) (b := 1) (tgt := 189) h dL_step_182 (by decide) (by omega) (by omega) rfl (fun c41 => ?_) (fun c41 => ?_)
                          · exact absurd c41 (by decide)
                          · refine u_iconst (v := 1) h dL_step_185 (by decide) rfl ?_
                            refine u_goto (tgt := 190) h dL_step_186 (by decide) ?_
                            refine u_icmp_ne_N (a := 1) (b := 1) (tgt := 258) h dL_step_190 (by decide) (by omega) (by omega) rfl (fun c42 => ?_) (fun c42 => ?_)
                            · exact absurd c42 (by decide)
                            · refine u_aload_n h dL_step_193 rfl 10 rfl rfl ?_
                              refine u_iload_n h dL_step_194 rfl 11 rfl rfl ?_
                              refine u_iconst (v := 2) h dL_step_195 (by decide) rfl ?_
                              refine r_visitor h hT hC hw3 (nI v) 2 dL_step_196 rfl (Nat.le_of_ble_eq_true rfl) ?_
                              refine u_top (y := ((z (68 + v)) + 1)) ((visA_2 (stM z v) hv).trans ((st_68 hv hI).trans (by rw [hlk]; rfl))) ?_
                              refine u_iload h dL_step_199 6 rfl rfl ?_
                              refine u_iload_n h dL_step_201 rfl 8 rfl rfl ?_
                              refine u_iadd (v := ((z (68 + v)) + 1)) h dL_step_202 rfl rfl ?_
                              refine u_icmp_ne (tgt := 258) h dL_step_203 (by decide) rfl (fun c43 => ?_) (fun c43 => ?_)
                              · exact absurd rfl c43
                              · refine u_aload_n h dL_step_206 rfl 10 rfl rfl ?_
                                refine u_iload_n h dL_step_207 rfl 11 rfl rfl ?_
                                refine u_iconst (v := 3) h dL_step_208 (by decide) rfl ?_
                                refine r_visitor h hT hC hw3 (nI v) 3 dL_step_209 rfl (Nat.le_of_ble_eq_true rfl) ?_
                                refine u_top (y := (stM z v (74 + v))) (visA_3 (stM z v) hv) ?_
                                refine u_iload h dL_step_212 5 rfl rfl ?_
                                refine u_iload h dL_step_214 1 rfl rfl ?_
                                refine u_if_ne_N (a := s2) (tgt := 223) h dL_step_216 (by decide) (by omega) rfl (fun c44 => ?_) (fun c44 => ?_)
                                · refine u_iconst (v := 0) h dL_step_223 (by decide) rfl ?_
                                  refine u_iadd (v := ((z (74 + v)) + 0)) h dL_step_224 rfl rfl ?_
                                  refine u_icmp_ne (tgt := 258) h dL_step_225 (by decide) rfl (fun c45 => ?_) (fun c45 => ?_)
                                  · first | exact absurd (st_74y hv hI (hs20.mpr (by omega))) c45 | exact absurd (st_74n hv hI (fun q9 => absurd (hs20.mp q9) (by omega))) c45
                                  · refine u_aload_n h dL_step_228 rfl 10 rfl rfl ?_
                                    refine u_bipush (v := 8) h dL_step_229 (by decide) rfl ?_
                                    refine r_total h hT hC hw3 8 dL_step_231 rfl (Nat.le_of_ble_eq_true rfl) ?_
                                    refine u_top (y := ((sumZ z 80 6) + 0)) ((totA_8 (stM z v) (recN r) 0).trans ((sum_80 hv hI).trans (by rw [hc]))) ?_
                                    refine u_iload h dL_step_234 4 rfl rfl ?_
                                    refine u_iload h dL_step_236 7 rfl rfl ?_
                                    refine u_iadd (v := ((sumZ z 80 6) + 0)) h dL_step_238 rfl rfl ?_
                                    refine u_icmp_ne (tgt := 258) h dL_step_239 (by decide) rfl (fun c46 => ?_) (fun c46 => ?_)
                                    · exact absurd rfl c46
                                    · refine u_aload_n h dL_step_242 rfl 10 rfl rfl ?_
                                      refine u_iconst (v := 5) h dL_step_243 (by decide) rfl ?_
                                      refine r_total h hT hC hw3 5 dL_step_244 rfl (Nat.le_of_ble_eq_true rfl) ?_
                                      refine u_top (y := ((sumZ z 62 6) + 1)) ((totA_5 (stM z v) (recN r) 0).trans (sum_62 hv hI)) ?_
                                      refine u_iload h dL_step_247 3 rfl rfl ?_
                                      refine u_iconst (v := 1) h dL_step_249 (by decide) rfl ?_
                                      refine u_iadd (v := ((sumZ z 62 6) + 1)) h dL_step_250 rfl rfl ?_
                                      refine u_icmp_ne (tgt := 258) h dL_step_251 (by decide) rfl (fun c47 => ?_) (fun c47 => ?_)
                                      · exact absurd rfl c47
                                      · refine u_iconst (v := 1) h dL_step_254 (by decide) rfl ?_
                                        refine u_goto (tgt := 259) h dL_step_255 (by decide) ?_
                                        refine u_istore (lv' := [(11, .int 1), (10, .int (nI s2)), (9, .int (nI (othN z v 0))), (8, .int (sumZ z 62 6)), (7, .int (sumZ z 80 6)), (6, .int (z (74 + v))), (5, .int (z (68 + v))), (4, .int 0), (3, .int 1), (2, .int (nI s)), (0, .ref x0), (1, .int (nI v))]) h dL_step_259 (by rw [hL]; decide) rfl rfl ?_
                                        refine u_iload h dL_step_261 0 rfl rfl ?_
                                        refine u_if_eq_N (a := 1) (tgt := 271) h dL_step_263 (by decide) (by omega) rfl (fun c48 => ?_) (fun c48 => ?_)
                                        · exact absurd c48 (by decide)
                                        · refine u_iload h dL_step_266 1 rfl rfl ?_
                                          refine u_goto (tgt := 273) h dL_step_268 (by decide) ?_
                                          exact u_iret h hRT dL_step_273 (Nat.le_refl _) (Nat.le_refl _) ⟨s2, hs2, rfl, hw3⟩
                                · refine u_iconst (v := 1) h dL_step_219 (by decide) rfl ?_
                                  refine u_goto (tgt := 224) h dL_step_220 (by decide) ?_
                                  refine u_iadd (v := ((z (74 + v)) + 1)) h dL_step_224 rfl rfl ?_
                                  refine u_icmp_ne (tgt := 258) h dL_step_225 (by decide) rfl (fun c49 => ?_) (fun c49 => ?_)
                                  · first | exact absurd (st_74y hv hI (hs20.mpr (by omega))) c49 | exact absurd (st_74n hv hI (fun q9 => absurd (hs20.mp q9) (by omega))) c49
                                  · refine u_aload_n h dL_step_228 rfl 10 rfl rfl ?_
                                    refine u_bipush (v := 8) h dL_step_229 (by decide) rfl ?_
                                    refine r_total h hT hC hw3 8 dL_step_231 rfl (Nat.le_of_ble_eq_true rfl) ?_
                                    refine u_top (y := ((sumZ z 80 6) + 0)) ((totA_8 (stM z v) (recN r) 0).trans ((sum_80 hv hI).trans (by rw [hc]))) ?_
                                    refine u_iload h dL_step_234 4 rfl rfl ?_
                                    refine u_iload h dL_step_236 7 rfl rfl ?_
                                    refine u_iadd (v := ((sumZ z 80 6) + 0)) h dL_step_238 rfl rfl ?_
                                    refine u_icmp_ne (tgt := 258) h dL_step_239 (by decide) rfl (fun c50 => ?_) (fun c50 => ?_)
                                    · exact absurd rfl c50
                                    · refine u_aload_n h dL_step_242 rfl 10 rfl rfl ?_
                                      refine u_iconst (v := 5) h dL_step_243 (by decide) rfl ?_
                                      refine r_total h hT hC hw3 5 dL_step_244 rfl (Nat.le_of_ble_eq_true rfl) ?_
                                      refine u_top (y := ((sumZ z 62 6) + 1)) ((totA_5 (stM z v) (recN r) 0).trans (sum_62 hv hI)) ?_
                                      refine u_iload h dL_step_247 3 rfl rfl ?_
                                      refine u_iconst (v := 1) h dL_step_249 (by decide) rfl ?_
                                      refine u_iadd (v := ((sumZ z 62 6) + 1)) h dL_step_250 rfl rfl ?_
                                      refine u_icmp_ne (tgt := 258) h dL_step_251 (by decide) rfl (fun c51 => ?_) (fun c51 => ?_)
                                      · exact absurd rfl c51
                                      · refine u_iconst (v := 1) h dL_step_254 (by decide) rfl ?_
                                        refine u_goto (tgt := 259) h dL_step_255 (by decide) ?_
                                        refine u_istore (lv' := [(11, .int 1), (10, .int (nI s2)), (9, .int (nI (othN z v 0))), (8, .int (sumZ z 62 6)), (7, .int (sumZ z 80 6)), (6, .int (z (74 + v))), (5, .int (z (68 + v))), (4, .int 0), (3, .int 1), (2, .int (nI s)), (0, .ref x0), (1, .int (nI v))]) h dL_step_259 (by rw [hL]; decide) rfl rfl ?_
                                        refine u_iload h dL_step_261 0 rfl rfl ?_
                                        refine u_if_eq_N (a := 1) (tgt := 271) h dL_step_263 (by decide) (by omega) rfl (fun c52 => ?_) (fun c52 => ?_)
                                        · exact absurd c52 (by decide)
                                        · refine u_iload h dL_step_266 1 rfl rfl ?_
                                          refine u_goto (tgt := 273) h dL_step_268 (by decide) ?_
                                          exact u_iret h hRT dL_step_273 (Nat.le_refl _) (Nat.le_refl _) ⟨s2, hs2, rfl, hw3⟩
                · refine u_eql (lv' := [(11, .int (-1)), (10, .int (nI s2)), (9, .int (nI (othN z v 0))), (8, .int (sumZ z 62 6)), (7, .int (sumZ z 80 6)), (6, .int (z (74 + v))), (5, .int (z (68 + v))), (4, .int 1), (3, .int 1), (2, .int (nI s)), (0, .ref x0), (1, .int (nI v))]) (by rw [hc]) ?_
                  refine u_iload h dL_step_147 7 rfl rfl ?_
                  refine u_if_lt_N (a := 1) (tgt := 258) h dL_step_149 (by decide) (by omega) rfl (fun c53 => ?_) (fun c53 => ?_)
                  · exact absurd c53 (by decide)
                  · refine u_iload h dL_step_152 7 rfl rfl ?_
                    refine u_iconst (v := 2) h dL_step_154 (by decide) rfl ?_
                    refine u_icmp_ge_N (a := 1) (b := 2) (tgt := 258) h dL_step_155 (by decide) (by omega) (by omega) rfl (fun c54 => ?_) (fun c54 => ?_)
                    · exact absurd c54 (by decide)
                    · refine u_aload_n h dL_step_158 rfl 10 rfl rfl ?_
                      refine u_iload_n h dL_step_159 rfl 11 rfl rfl ?_
                      refine u_iconst (v := 0) h dL_step_160 (by decide) rfl ?_
                      refine r_visitor h hT hC hw3 (nI v) 0 dL_step_161 rfl (Nat.le_of_ble_eq_true rfl) ?_
                      refine u_top (y := (nI s2)) ((visA_0 (stM z v) hv).trans es2) ?_
                      refine u_iload h dL_step_164 1 rfl rfl ?_
                      refine u_icmp_ne_N (a := s2) (b := s2) (tgt := 258) h dL_step_166 (by decide) (by omega) (by omega) rfl (fun c55 => ?_) (fun c55 => ?_)
                      · exact absurd rfl c55
                      · refine u_iload h dL_step_169 1 rfl rfl ?_
                        refine u_iload_n h dL_step_171 rfl 9 rfl rfl ?_
                        refine u_icmp_ne_N (a := s2) (b := s) (tgt := 179) h dL_step_172 (by decide) (by omega) (by omega) rfl (fun c56 => ?_) (fun c56 => ?_)
                        · exact absurd hss c56
                        · refine u_iconst (v := 1) h dL_step_175 (by decide) rfl ?_
                          refine u_goto (tgt := 180) h dL_step_176 (by decide) ?_
                          refine u_iload_n h dL_step_180 rfl 8 rfl rfl ?_
                          refine u_iconst (v := 1) h dL_step_181 (by decide) rfl ?_
                          refine u_icmp_ne_N (a := 1) (b := 1) (tgt := 189) h dL_step_182 (by decide) (by omega) (by omega) rfl (fun c57 => ?_) (fun c57 => ?_)
                          · exact absurd c57 (by decide)
                          · refine u_iconst (v := 1) h dL_step_185 (by decide) rfl ?_
                            refine u_goto (tgt := 190) h dL_step_186 (by decide) ?_
                            refine u_icmp_ne_N (a := 1) (b := 1) (tgt := 258) h dL_step_190 (by decide) (by omega) (by omega) rfl (fun c58 => ?_) (fun c58 => ?_)
                            · exact absurd c58 (by decide)
                            · refine u_aload_n h dL_step_193 rfl 10 rfl rfl ?_
                              refine u_iload_n h dL_step_194 rfl 11 rfl rfl ?_
                              refine u_iconst (v := 2) h dL_step_195 (by decide) rfl ?_
                              refine r_visitor h hT hC hw3 (nI v) 2 dL_step_196 rfl (Nat.le_of_ble_eq_true rfl) ?_
                              refine u_top (y := ((z (68 + v)) + 1)) ((visA_2 (stM z v) hv).trans ((st_68 hv hI).trans (by rw [hlk]; rfl))) ?_
                              refine u_iload h dL_step_199 6 rfl rfl ?_
                              refine u_iload_n h dL_step_201 rfl 8 rfl rfl ?_
                              refine u_iadd (v := ((z (68 + v)) + 1)) h dL_step_202 rfl rfl ?_
                              refine u_icmp_ne (tgt := 258) h dL_step_203 (by decide) rfl (fun c59 => ?_) (fun c59 => ?_)
                              · exact absurd rfl c59
                              · refine u_aload_n h dL_step_206 rfl 10 rfl rfl ?_
                                refine u_iload_n h dL_step_207 rfl 11 rfl rfl ?_
                                refine u_iconst (v := 3) h dL_step_208 (by decide) rfl ?_
                                refine r_visitor h hT hC hw3 (nI v) 3 dL_step_209 rfl (Nat.le_of_ble_eq_true rfl) ?_
                                refine u_top (y := (stM z v (74 + v))) (visA_3 (stM z v) hv) ?_
                                refine u_iload h dL_step_212 5 rfl rfl ?_
                                refine u_iload h dL_step_214 1 rfl rfl ?_
                                refine u_if_ne_N (a := s2) (tgt := 223) h dL_step_216 (by decide) (by omega) rfl (fun c60 => ?_) (fun c60 => ?_)
                                · refine u_iconst (v := 0) h dL_step_223 (by decide) rfl ?_
                                  refine u_iadd (v := ((z (74 + v)) + 0)) h dL_step_224 rfl rfl ?_
                                  refine u_icmp_ne (tgt := 258) h dL_step_225 (by decide) rfl (fun c61 => ?_) (fun c61 => ?_)
                                  · first | exact absurd (st_74y hv hI (hs20.mpr (by omega))) c61 | exact absurd (st_74n hv hI (fun q9 => absurd (hs20.mp q9) (by omega))) c61
                                  · refine u_aload_n h dL_step_228 rfl 10 rfl rfl ?_
                                    refine u_bipush (v := 8) h dL_step_229 (by decide) rfl ?_
                                    refine r_total h hT hC hw3 8 dL_step_231 rfl (Nat.le_of_ble_eq_true rfl) ?_
                                    refine u_top (y := ((sumZ z 80 6) + 1)) ((totA_8 (stM z v) (recN r) 0).trans ((sum_80 hv hI).trans (by rw [hc]))) ?_
                                    refine u_iload h dL_step_234 4 rfl rfl ?_
                                    refine u_iload h dL_step_236 7 rfl rfl ?_
                                    refine u_iadd (v := ((sumZ z 80 6) + 1)) h dL_step_238 rfl rfl ?_
                                    refine u_icmp_ne (tgt := 258) h dL_step_239 (by decide) rfl (fun c62 => ?_) (fun c62 => ?_)
                                    · exact absurd rfl c62
                                    · refine u_aload_n h dL_step_242 rfl 10 rfl rfl ?_
                                      refine u_iconst (v := 5) h dL_step_243 (by decide) rfl ?_
                                      refine r_total h hT hC hw3 5 dL_step_244 rfl (Nat.le_of_ble_eq_true rfl) ?_
                                      refine u_top (y := ((sumZ z 62 6) + 1)) ((totA_5 (stM z v) (recN r) 0).trans (sum_62 hv hI)) ?_
                                      refine u_iload h dL_step_247 3 rfl rfl ?_
                                      refine u_iconst (v := 1) h dL_step_249 (by decide) rfl ?_
                                      refine u_iadd (v := ((sumZ z 62 6) + 1)) h dL_step_250 rfl rfl ?_
                                      refine u_icmp_ne (tgt := 258) h dL_step_251 (by decide) rfl (fun c63 => ?_) (fun c63 => ?_)
                                      · exact absurd rfl c63
                                      · refine u_iconst (v := 1) h dL_step_254 (by decide) rfl ?_
                                        refine u_goto (tgt := 259) h dL_step_255 (by decide) ?_
                                        refine u_istore (lv' := [(11, .int 1), (10, .int (nI s2)), (9, .int (nI (othN z v 0))), (8, .int (sumZ z 62 6)), (7, .int (sumZ z 80 6)), (6, .int (z (74 + v))), (5, .int (z (68 + v))), (4, .int 1), (3, .int 1), (2, .int (nI s)), (0, .ref x0), (1, .int (nI v))]) h dL_step_259 (by rw [hL]; decide) rfl rfl ?_
                                        refine u_iload h dL_step_261 0 rfl rfl ?_
                                        refine u_if_eq_N (a := 1) (tgt := 271) h dL_step_263 (by decide) (by omega) rfl (fun c64 => ?_) (fun c64 => ?_)
                                        · exact absurd c64 (by decide)
                                        · refine u_iload h dL_step_266 1 rfl rfl ?_
                                          refine u_goto (tgt := 273) h dL_step_268 (by decide) ?_
                                          exact u_iret h hRT dL_step_273 (Nat.le_refl _) (Nat.le_refl _) ⟨s2, hs2, rfl, hw3⟩
                                · refine u_iconst (v := 1) h dL_step_219 (by decide) rfl ?_
                                  refine u_goto (tgt := 224) h dL_step_220 (by decide) ?_
                                  refine u_iadd (v := ((z (74 + v)) + 1)) h dL_step_224 rfl rfl ?_
                                  refine u_icmp_ne (tgt := 258) h dL_step_225 (by decide) rfl (fun c65 => ?_) (fun c65 => ?_)
                                  · first | exact absurd (st_74y hv hI (hs20.mpr (by omega))) c65 | exact absurd (st_74n hv hI (fun q9 => absurd (hs20.mp q9) (by omega))) c65
                                  · refine u_aload_n h dL_step_228 rfl 10 rfl rfl ?_
                                    refine u_bipush (v := 8) h dL_step_229 (by decide) rfl ?_
                                    refine r_total h hT hC hw3 8 dL_step_231 rfl (Nat.le_of_ble_eq_true rfl) ?_
                                    refine u_top (y := ((sumZ z 80 6) + 1)) ((totA_8 (stM z v) (recN r) 0).trans ((sum_80 hv hI).trans (by rw [hc]))) ?_
                                    refine u_iload h dL_step_234 4 rfl rfl ?_
                                    refine u_iload h dL_step_236 7 rfl rfl ?_
                                    refine u_iadd (v := ((sumZ z 80 6) + 1)) h dL_step_238 rfl rfl ?_
                                    refine u_icmp_ne (tgt := 258) h dL_step_239 (by decide) rfl (fun c66 => ?_) (fun c66 => ?_)
                                    · exact absurd rfl c66
                                    · refine u_aload_n h dL_step_242 rfl 10 rfl rfl ?_
                                      refine u_iconst (v := 5) h dL_step_243 (by decide) rfl ?_
                                      refine r_total h hT hC hw3 5 dL_step_244 rfl (Nat.le_of_ble_eq_true rfl) ?_
                                      refine u_top (y := ((sumZ z 62 6) + 1)) ((totA_5 (stM z v) (recN r) 0).trans (sum_62 hv hI)) ?_
                                      refine u_iload h dL_step_247 3 rfl rfl ?_
                                      refine u_iconst (v := 1) h dL_step_249 (by decide) rfl ?_
                                      refine u_iadd (v := ((sumZ z 62 6) + 1)) h dL_step_250 rfl rfl ?_
                                      refine u_icmp_ne (tgt := 258) h dL_step_251 (by decide) rfl (fun c67 => ?_) (fun c67 => ?_)
                                      · exact absurd rfl c67
                                      · refine u_iconst (v := 1) h dL_step_254 (by decide) rfl ?_
                                        refine u_goto (tgt := 259) h dL_step_255 (by decide) ?_
                                        refine u_istore (lv' := [(11, .int 1), (10, .int (nI s2)), (9, .int (nI (othN z v 0))), (8, .int (sumZ z 62 6)), (7, .int (sumZ z 80 6)), (6, .int (z (74 + v))), (5, .int (z (68 + v))), (4, .int 1), (3, .int 1), (2, .int (nI s)), (0, .ref x0), (1, .int (nI v))]) h dL_step_259 (by rw [hL]; decide) rfl rfl ?_
                                        refine u_iload h dL_step_261 0 rfl rfl ?_
                                        refine u_if_eq_N (a := 1) (tgt := 271) h dL_step_263 (by decide) (by omega) rfl (fun c68 => ?_) (fun c68 => ?_)
                                        · exact absurd c68 (by decide)
                                        · refine u_iload h dL_step_266 1 rfl rfl ?_
                                          refine u_goto (tgt := 273) h dL_step_268 (by decide) ?_
                                          exact u_iret h hRT dL_step_273 (Nat.le_refl _) (Nat.le_refl _) ⟨s2, hs2, rfl, hw3⟩
            · exact absurd c4 (by decide)
          | succ i ihd =>
            intro hj
            have hi6 : i < 6 := by omega
            have ho31 : othN z v (i + 1) < 2 ^ 31 := oth_31 hI hj
            have hix : ix (z i) < 8 := (st_ix hi6 hI).2
            refine u_eql (lv' := [(11, .int (nI i)), (10, .int (nI s2)), (9, .int (nI (othN z v (i + 1)))), (8, .int (sumZ z 62 6)), (7, .int (sumZ z 80 6)), (6, .int (z (74 + v))), (5, .int (z (68 + v))), (4, .int (costM (z 60) (z v))), (3, .int (bI (isLook z v))), (2, .int (nI s)), (0, .ref x0), (1, .int (nI v))]) (by rw [sb1]) ?_
            refine u_iload h dL_step_105 0 rfl rfl ?_
            refine u_if_lt_N (a := i) (tgt := 147) h dL_step_107 (by decide) (by omega) rfl (fun c69 => ?_) (fun c69 => ?_)
            · exact absurd c69 (Nat.not_lt_zero _)
            · refine u_iload h dL_step_110 0 rfl rfl ?_
              refine u_iload_n h dL_step_112 rfl 11 rfl rfl ?_
              have J70 : U G X 0 0 w2 134 [(11, .int (nI i)), (10, .int (nI s2)), (9, .int (nI (othN z v (i + 1)))), (8, .int (sumZ z 62 6)), (7, .int (sumZ z 80 6)), (6, .int (z (74 + v))), (5, .int (z (68 + v))), (4, .int (costM (z 60) (z v))), (3, .int (bI (isLook z v))), (2, .int (nI s)), (0, .ref x0), (1, .int (nI v))] [] := by
                refine u_iload h dL_step_134 2 rfl rfl ?_
                refine u_bipush (v := 8) h dL_step_136 (by decide) rfl ?_
                refine u_idiv (v := (nI ((othN z v (i + 1)) / 8))) h dL_step_138 (by decide) (pk_div (a := (othN z v (i + 1))) (d := 8) (by omega) (by omega) (by omega)) rfl ?_
                refine u_top (y := (nI (othN z v i))) (congrArg nI (oth_div hI hi6)) ?_
                refine u_istore (lv' := [(9, .int (nI (othN z v i))), (11, .int (nI i)), (10, .int (nI s2)), (8, .int (sumZ z 62 6)), (7, .int (sumZ z 80 6)), (6, .int (z (74 + v))), (5, .int (z (68 + v))), (4, .int (costM (z 60) (z v))), (3, .int (bI (isLook z v))), (2, .int (nI s)), (0, .ref x0), (1, .int (nI v))]) h dL_step_139 (by rw [hL]; decide) rfl rfl ?_
                refine u_iinc (k := 1) (v := (nI i + -1)) (lv' := [(11, .int (nI i + -1)), (9, .int (nI (othN z v i))), (10, .int (nI s2)), (8, .int (sumZ z 62 6)), (7, .int (sumZ z 80 6)), (6, .int (z (74 + v))), (5, .int (z (68 + v))), (4, .int (costM (z 60) (z v))), (3, .int (bI (isLook z v))), (2, .int (nI s)), (0, .ref x0), (1, .int (nI v))]) h dL_step_141 rfl rfl (by rw [hL]; decide) rfl rfl ?_
                refine u_goto (tgt := 105) h dL_step_144 (by decide) ?_
                refine u_lv (lv' := [(11, .int (nI i + -1)), (10, .int (nI s2)), (9, .int (nI (othN z v i))), (8, .int (sumZ z 62 6)), (7, .int (sumZ z 80 6)), (6, .int (z (74 + v))), (5, .int (z (68 + v))), (4, .int (costM (z 60) (z v))), (3, .int (bI (isLook z v))), (2, .int (nI s)), (0, .ref x0), (1, .int (nI v))]) [0, 2, 1, 3, 4, 5, 6, 7, 8, 9, 10, 11] rfl ?_
                exact ihd (by omega)
              refine u_icmp_eq_N (a := i) (b := v) (tgt := 134) h dL_step_113 (by decide) (by omega) (by omega) rfl (fun c73 => ?_) (fun c73 => ?_)
              · exact J70
              · refine u_aload_n h dL_step_116 rfl 10 rfl rfl ?_
                refine u_iload h dL_step_117 0 rfl rfl ?_
                refine u_iconst (v := 0) h dL_step_119 (by decide) rfl ?_
                refine r_visitor h hT hC hw3 (nI i) 0 dL_step_120 rfl (Nat.le_of_ble_eq_true rfl) ?_
                refine u_top (y := (nI (ix (z i)))) ((visA_0 (stM z v) hi6).trans ((st_oth hv hi6 c73 hI).trans (st_ix hi6 hI).1)) ?_
                refine u_iload h dL_step_123 2 rfl rfl ?_
                refine u_bipush (v := 8) h dL_step_125 (by decide) rfl ?_
                refine u_irem (v := (nI ((othN z v (i + 1)) % 8))) h dL_step_127 (by decide) (pk_rem (a := (othN z v (i + 1))) (d := 8) (by omega) (by omega) (by omega)) rfl ?_
                refine u_icmp_eq_N (a := (ix (z i))) (b := ((othN z v (i + 1)) % 8)) (tgt := 134) h dL_step_128 (by decide) (by omega) (by omega) rfl (fun c74 => ?_) (fun c74 => ?_)
                · exact J70
                · exact absurd (oth_mod hI hi6 c73).symm c74
        exact Ld 6 (Nat.le_refl 6)
      · have hkv : k < 6 := by omega
        refine u_bipush (v := 8) h dL_step_64 (by decide) rfl ?_
        refine u_iload h dL_step_66 1 rfl rfl ?_
        refine u_imul (v := (nI (8 * (othN z v k)))) h dL_step_68 (pk_mul 8 (othN z v k)) rfl ?_
        refine u_iload h dL_step_69 0 rfl rfl ?_
        refine u_iload_n h dL_step_71 rfl 10 rfl rfl ?_
        have J75 : ∀ x76 : Int32, x76 = (nI (if k = v then 0 else ix (z k))) → U G X 0 0 w 86 [(10, .int (nI k)), (9, .int (nI (othN z v k))), (8, .int (sumZ z 62 6)), (7, .int (sumZ z 80 6)), (6, .int (z (74 + v))), (5, .int (z (68 + v))), (4, .int (costM (z 60) (z v))), (3, .int (bI (isLook z v))), (2, .int (nI s)), (0, .ref x0), (1, .int (nI v))] [.int x76, .int (nI (8 * (othN z v k)))] := by
          intro x76 e9
          subst e9
          refine u_iadd (v := (nI ((8 * (othN z v k)) + (if k = v then 0 else ix (z k))))) h dL_step_86 (nI_add (8 * (othN z v k)) (if k = v then 0 else ix (z k))) rfl ?_
          refine u_top (y := (nI (othN z v (k + 1)))) rfl ?_
          refine u_istore (lv' := [(9, .int (nI (othN z v (k + 1)))), (10, .int (nI k)), (8, .int (sumZ z 62 6)), (7, .int (sumZ z 80 6)), (6, .int (z (74 + v))), (5, .int (z (68 + v))), (4, .int (costM (z 60) (z v))), (3, .int (bI (isLook z v))), (2, .int (nI s)), (0, .ref x0), (1, .int (nI v))]) h dL_step_87 (by rw [hL]; decide) rfl rfl ?_
          refine u_iinc (k := 1) (v := (nI (k + 1))) (lv' := [(10, .int (nI (k + 1))), (9, .int (nI (othN z v (k + 1)))), (8, .int (sumZ z 62 6)), (7, .int (sumZ z 80 6)), (6, .int (z (74 + v))), (5, .int (z (68 + v))), (4, .int (costM (z 60) (z v))), (3, .int (bI (isLook z v))), (2, .int (nI s)), (0, .ref x0), (1, .int (nI v))]) h dL_step_89 rfl (nI_add k 1) (by rw [hL]; decide) rfl rfl ?_
          refine u_goto (tgt := 57) h dL_step_92 (by decide) ?_
          exact iha _ (by omega) (k + 1) rfl (by omega)
        refine u_icmp_ne_N (a := k) (b := v) (tgt := 79) h dL_step_72 (by decide) (by omega) (by omega) rfl (fun c77 => ?_) (fun c77 => ?_)
        · refine u_aload_n h dL_step_79 rfl 9 rfl rfl ?_
          refine u_iload h dL_step_80 0 rfl rfl ?_
          refine u_iconst (v := 0) h dL_step_82 (by decide) rfl ?_
          refine r_visitor h hT hC hw (nI k) 0 dL_step_83 rfl (Nat.le_of_ble_eq_true rfl) ?_
          refine u_top (y := (nI (ix (z k)))) ((visA_0 z hkv).trans (st_ix hkv hI).1) ?_
          exact J75 _ (by first | (first | exact congrArg nI (if_pos (show k = v by omega)).symm | exact congrArg nI (if_neg (show ¬ k = v by omega)).symm; done) | (exfalso; first | exact absurd (c1.symm.trans c77) (by decide) | exact absurd (c77.symm.trans c1) (by decide)))
        · refine u_iconst (v := 0) h dL_step_75 (by decide) rfl ?_
          refine u_goto (tgt := 86) h dL_step_76 (by decide) ?_
          exact J75 _ (by first | (first | exact congrArg nI (if_pos (show k = v by omega)).symm | exact congrArg nI (if_neg (show ¬ k = v by omega)).symm; done) | (exfalso; first | exact absurd (c1.symm.trans c77) (by decide) | exact absurd (c77.symm.trans c1) (by decide)))
  exact La _ 0 rfl (by omega)
