set_option maxHeartbeats 8000000 in
set_option maxRecDepth 100000 in
/-- refusesAny -/
theorem lk_refusesAny0 {G : Gx} {x0 : Nat} {z : Zf} {r : Nat} {hz : Nat → Zf} {kb : Bool} {zp : Zf} {w : va_W} (hw : IsO G x0 z r hz kb zp w) {k : Nat} (hk : k < 2 ^ 31) (hp : k % 2 = 0) : MC G yL_refusesAny sL_refusesAny rA [.ref x0, .int (nI k)] w (fun v' u' => v' = some (.int 1) ∧ IsO G x0 z r hz kb zp u') 0 0 := by
  refine mc_of (cc := cL_refusesAny) (maxL := 4) (ret := (some .boolean)) (by decide) rfl (Nat.le_of_ble_eq_true rfl) (fun X h hR hL hRT => ?_)
  have hT : ∀ q ∈ gT, q ∈ sL_refusesAny := fun q h9 => lwS_in h9
  have hC : LC X 0 0 := by unfold LC; rw [hR]; decide
  refine u_eql (lv' := [(0, .ref x0), (1, .int (nI k))]) rfl ?_
  have hI := hw.i
  obtain ⟨N, hN⟩ := fi_ex hI
  have h99 : k % 99 < 99 := Nat.mod_lt _ (by decide)
  have hneg : (-1 - (nI (k % 99))) < 0 := neg1 h99
  have hno : isV (-1 - (nI (k % 99))) = false := isV_neg hneg
  have hin3 : inB (-1 - (nI (k % 99))) 0 3 = false := inB_neg hneg
  refine u_iload_n h dL_refusesAny_0 rfl 1 rfl rfl ?_
  refine u_iconst (v := 2) h dL_refusesAny_1 (by decide) rfl ?_
  refine u_irem (v := (nI (k % 2))) h dL_refusesAny_2 (by decide) (pk_rem (a := k) (d := 2) (by omega) (by omega) (by omega)) rfl ?_
  refine u_if_ne_N (a := (k % 2)) (tgt := 15) h dL_refusesAny_3 (by decide) (by omega) rfl (fun c1 => ?_) (fun c1 => ?_)
  · exact absurd hp c1
  · refine u_iconst (v := (-1)) h dL_refusesAny_6 (by decide) rfl ?_
    refine u_iload_n h dL_refusesAny_7 rfl 1 rfl rfl ?_
    refine u_bipush (v := 99) h dL_refusesAny_8 (by decide) rfl ?_
    refine u_irem (v := (nI (k % 99))) h dL_refusesAny_10 (by decide) (pk_rem (a := k) (d := 99) (by omega) (by omega) (by omega)) rfl ?_
    refine u_isub (v := ((-1) - (nI (k % 99)))) h dL_refusesAny_11 rfl rfl ?_
    refine u_goto (tgt := 22) h dL_refusesAny_12 (by decide) ?_
    refine u_istore_n (lv' := [(2, .int ((-1) - (nI (k % 99)))), (0, .ref x0), (1, .int (nI k))]) h dL_refusesAny_22 rfl (by rw [hL]; decide) rfl rfl ?_
    refine u_aload_n h dL_refusesAny_23 rfl 1 rfl rfl ?_
    refine u_iload_n h dL_refusesAny_24 rfl 2 rfl rfl ?_
    refine u_iconst (v := 2) h dL_refusesAny_25 (by decide) rfl ?_
    refine u_irem (v := (nI (k % 2))) h dL_refusesAny_26 (by decide) (pk_rem (a := k) (d := 2) (by omega) (by omega) (by omega)) rfl ?_
    refine u_if_ne_N (a := (k % 2)) (tgt := 39) h dL_refusesAny_27 (by decide) (by omega) rfl (fun c2 => ?_) (fun c2 => ?_)
    · exact absurd hp c2
    · refine u_iconst (v := (-1)) h dL_refusesAny_30 (by decide) rfl ?_
      refine u_iload_n h dL_refusesAny_31 rfl 2 rfl rfl ?_
      refine u_bipush (v := 99) h dL_refusesAny_32 (by decide) rfl ?_
      refine u_irem (v := (nI (k % 99))) h dL_refusesAny_34 (by decide) (pk_rem (a := k) (d := 99) (by omega) (by omega) (by omega)) rfl ?_
      refine u_isub (v := ((-1) - (nI (k % 99)))) h dL_refusesAny_35 rfl rfl ?_
      refine u_goto (tgt := 45) h dL_refusesAny_36 (by decide) ?_
      refine r_build h hT hC hw ((-1) - (nI (k % 99))) dL_refusesAny_45 rfl (Nat.le_of_ble_eq_true rfl) (fun w3 hw4 => ?_)
      have hw4 := hw4.no (okB_no hin3)
      refine u_top (y := (-1)) (buildA_no hin3) ?_
      refine u_iconst (v := (-1)) h dL_refusesAny_48 (by decide) rfl ?_
      refine u_icmp_ne (tgt := 199) h dL_refusesAny_49 (by decide) rfl (fun c5 => ?_) (fun c5 => ?_)
      · exact absurd c5 (by decide)
      · refine u_aload_n h dL_refusesAny_52 rfl 1 rfl rfl ?_
        refine u_iconst (v := 3) h dL_refusesAny_53 (by decide) rfl ?_
        refine r_total h hT hC hw4 3 dL_refusesAny_54 rfl (Nat.le_of_ble_eq_true rfl) ?_
        refine u_top (y := (cntZ z 6)) (totA_3 z r 0) ?_
        have J6 : ∀ w7 : va_W, IsO G x0 z r hz kb zp w7 → U G X 0 0 w7 72 [(2, .int ((-1) - (nI (k % 99)))), (0, .ref x0), (1, .int (nI k))] [] := by
          intro w7 hw8
          refine u_aload_n h dL_refusesAny_72 rfl 1 rfl rfl ?_
          refine u_iload_n h dL_refusesAny_73 rfl 0 rfl rfl ?_
          refine r_step h hT hC hw8 ((-1) - (nI (k % 99))) dL_refusesAny_74 rfl (Nat.le_of_ble_eq_true rfl) (fun w9 hw10 => ?_)
          have hw10 := hw10.no (hno)
          refine u_top (y := (-1)) (stepA_no hno) ?_
          refine u_iconst (v := (-1)) h dL_refusesAny_77 (by decide) rfl ?_
          refine u_icmp_ne (tgt := 199) h dL_refusesAny_78 (by decide) rfl (fun c11 => ?_) (fun c11 => ?_)
          · exact absurd c11 (by decide)
          · refine u_aload_n h dL_refusesAny_81 rfl 1 rfl rfl ?_
            refine u_iload_n h dL_refusesAny_82 rfl 0 rfl rfl ?_
            refine r_go h hT hC hw10 ((-1) - (nI (k % 99))) 0 (fun q9 => absurd ((okG_no hno).symm.trans q9) (by decide)) dL_refusesAny_83 rfl (Nat.le_of_ble_eq_true rfl) (fun w12 hw13 => ?_)
            have hw13 := hw13.no (okG_no hno)
            refine u_top (y := (-1)) (goA_no hno) ?_
            refine u_iconst (v := (-1)) h dL_refusesAny_86 (by decide) rfl ?_
            refine u_icmp_ne (tgt := 199) h dL_refusesAny_87 (by decide) rfl (fun c14 => ?_) (fun c14 => ?_)
            · exact absurd c14 (by decide)
            · refine u_aload_n h dL_refusesAny_90 rfl 1 rfl rfl ?_
              refine u_iconst (v := 0) h dL_refusesAny_91 (by decide) rfl ?_
              refine u_iconst (v := 1) h dL_refusesAny_92 (by decide) rfl ?_
              refine r_draw h hT hC hw13 0 1 dL_refusesAny_93 rfl (Nat.le_of_ble_eq_true rfl) (fun w15 hw16 => ?_)
              have hw16 := hw16.no (rfl)
              refine u_top (y := (-2)) (rfl) ?_
              refine u_bipush (v := (-2)) h dL_refusesAny_96 (by decide) rfl ?_
              refine u_icmp_ne (tgt := 199) h dL_refusesAny_98 (by decide) rfl (fun c17 => ?_) (fun c17 => ?_)
              · exact absurd c17 (by decide)
              · refine u_aload_n h dL_refusesAny_101 rfl 1 rfl rfl ?_
                refine u_bipush (v := 64) h dL_refusesAny_102 (by decide) rfl ?_
                refine u_iload_n h dL_refusesAny_104 rfl 2 rfl rfl ?_
                refine u_bipush (v := 99) h dL_refusesAny_105 (by decide) rfl ?_
                refine u_irem (v := (nI (k % 99))) h dL_refusesAny_107 (by decide) (pk_rem (a := k) (d := 99) (by omega) (by omega) (by omega)) rfl ?_
                refine u_iadd (v := (nI (64 + (k % 99)))) h dL_refusesAny_108 (nI_add 64 (k % 99)) rfl ?_
                refine u_iconst (v := 1) h dL_refusesAny_109 (by decide) rfl ?_
                refine r_draw h hT hC hw16 (nI (64 + (k % 99))) 1 dL_refusesAny_110 rfl (Nat.le_of_ble_eq_true rfl) (fun w18 hw19 => ?_)
                have hw19 := hw19.no (okD_no (inB_big (n := 63) (by omega) (by omega)))
                refine u_top (y := (-2)) (drawA_no (okD_no (inB_big (n := 63) (by omega) (by omega)))) ?_
                refine u_bipush (v := (-2)) h dL_refusesAny_113 (by decide) rfl ?_
                refine u_icmp_ne (tgt := 199) h dL_refusesAny_115 (by decide) rfl (fun c20 => ?_) (fun c20 => ?_)
                · exact absurd c20 (by decide)
                · refine u_aload_n h dL_refusesAny_118 rfl 1 rfl rfl ?_
                  refine u_iconst (v := 1) h dL_refusesAny_119 (by decide) rfl ?_
                  refine u_iload_n h dL_refusesAny_120 rfl 2 rfl rfl ?_
                  refine u_iconst (v := 2) h dL_refusesAny_121 (by decide) rfl ?_
                  refine u_irem (v := (nI (k % 2))) h dL_refusesAny_122 (by decide) (pk_rem (a := k) (d := 2) (by omega) (by omega) (by omega)) rfl ?_
                  refine u_if_ne_N (a := (k % 2)) (tgt := 130) h dL_refusesAny_123 (by decide) (by omega) rfl (fun c21 => ?_) (fun c21 => ?_)
                  · exact absurd hp c21
                  · refine u_iconst (v := 0) h dL_refusesAny_126 (by decide) rfl ?_
                    refine u_goto (tgt := 133) h dL_refusesAny_127 (by decide) ?_
                    refine r_draw h hT hC hw19 1 0 dL_refusesAny_133 rfl (Nat.le_of_ble_eq_true rfl) (fun w22 hw23 => ?_)
                    have hw23 := hw23.no (rfl)
                    refine u_top (y := (-2)) (rfl) ?_
                    refine u_bipush (v := (-2)) h dL_refusesAny_136 (by decide) rfl ?_
                    refine u_icmp_ne (tgt := 199) h dL_refusesAny_138 (by decide) rfl (fun c24 => ?_) (fun c24 => ?_)
                    · exact absurd c24 (by decide)
                    · refine u_aload_n h dL_refusesAny_141 rfl 1 rfl rfl ?_
                      refine u_iconst (v := (-1)) h dL_refusesAny_142 (by decide) rfl ?_
                      refine u_iload_n h dL_refusesAny_143 rfl 2 rfl rfl ?_
                      refine u_bipush (v := 99) h dL_refusesAny_144 (by decide) rfl ?_
                      refine u_irem (v := (nI (k % 99))) h dL_refusesAny_146 (by decide) (pk_rem (a := k) (d := 99) (by omega) (by omega) (by omega)) rfl ?_
                      refine u_isub (v := ((-1) - (nI (k % 99)))) h dL_refusesAny_147 rfl rfl ?_
                      refine r_shuffle h hT hC hw23 ((-1) - (nI (k % 99))) dL_refusesAny_148 rfl (Nat.le_of_ble_eq_true rfl) (fun w25 hw26 => ?_)
                      have hw26 := hw26.no (okH_neg hneg)
                      refine u_top (y := (-2)) (shufA_neg hneg) ?_
                      refine u_bipush (v := (-2)) h dL_refusesAny_151 (by decide) rfl ?_
                      refine u_icmp_ne (tgt := 199) h dL_refusesAny_153 (by decide) rfl (fun c27 => ?_) (fun c27 => ?_)
                      · exact absurd c27 (by decide)
                      · refine u_aload_n h dL_refusesAny_156 rfl 1 rfl rfl ?_
                        refine u_aload_n h dL_refusesAny_157 rfl 1 rfl rfl ?_
                        refine u_bipush (v := 12) h dL_refusesAny_158 (by decide) rfl ?_
                        refine r_total h hT hC hw26 12 dL_refusesAny_160 rfl (Nat.le_of_ble_eq_true rfl) ?_
                        refine u_top (y := (z 61)) (totA_12 z r 0) ?_
                        refine r_shuffle h hT hC hw26 (z 61) dL_refusesAny_163 rfl (Nat.le_of_ble_eq_true rfl) (fun w28 hw29 => ?_)
                        have hw29 := hw29.no (okH_same rfl)
                        refine u_top (y := (-5)) (shufA_same hI.2.1 rfl) ?_
                        refine u_bipush (v := (-5)) h dL_refusesAny_166 (by decide) rfl ?_
                        refine u_icmp_ne (tgt := 199) h dL_refusesAny_168 (by decide) rfl (fun c30 => ?_) (fun c30 => ?_)
                        · exact absurd c30 (by decide)
                        · refine u_aload_n h dL_refusesAny_171 rfl 1 rfl rfl ?_
                          refine u_iconst (v := 3) h dL_refusesAny_172 (by decide) rfl ?_
                          refine r_total h hT hC hw29 3 dL_refusesAny_173 rfl (Nat.le_of_ble_eq_true rfl) ?_
                          refine u_top (y := (cntZ z 6)) (totA_3 z r 0) ?_
                          have J31 : ∀ w32 : va_W, IsO G x0 z r hz kb zp w32 → U G X 0 0 w32 195 [(2, .int ((-1) - (nI (k % 99)))), (0, .ref x0), (1, .int (nI k))] [] := by
                            intro w32 hw33
                            refine u_iconst (v := 1) h dL_refusesAny_195 (by decide) rfl ?_
                            refine u_goto (tgt := 200) h dL_refusesAny_196 (by decide) ?_
                            refine u_istore_n (lv' := [(3, .int 1), (2, .int ((-1) - (nI (k % 99)))), (0, .ref x0), (1, .int (nI k))]) h dL_refusesAny_200 rfl (by rw [hL]; decide) rfl rfl ?_
                            refine u_iload_n h dL_refusesAny_201 rfl 0 rfl rfl ?_
                            refine u_if_eq_N (a := 1) (tgt := 390) h dL_refusesAny_202 (by decide) (by omega) rfl (fun c34 => ?_) (fun c34 => ?_)
                            · exact absurd c34 (by decide)
                            · refine u_aload_n h dL_refusesAny_205 rfl 2 rfl rfl ?_
                              refine u_iload_n h dL_refusesAny_206 rfl 1 rfl rfl ?_
                              refine u_bipush (v := 99) h dL_refusesAny_207 (by decide) rfl ?_
                              refine r_visitor h hT hC hw33 ((-1) - (nI (k % 99))) 99 dL_refusesAny_209 rfl (Nat.le_of_ble_eq_true rfl) ?_
                              refine u_top (y := (-1)) (visA_no hno) ?_
                              refine u_iconst (v := (-1)) h dL_refusesAny_212 (by decide) rfl ?_
                              refine u_icmp_ne (tgt := 390) h dL_refusesAny_213 (by decide) rfl (fun c35 => ?_) (fun c35 => ?_)
                              · exact absurd c35 (by decide)
                              · refine u_aload_n h dL_refusesAny_216 rfl 2 rfl rfl ?_
                                refine u_iconst (v := 0) h dL_refusesAny_217 (by decide) rfl ?_
                                refine u_iload_n h dL_refusesAny_218 rfl 3 rfl rfl ?_
                                refine u_iconst (v := 2) h dL_refusesAny_219 (by decide) rfl ?_
                                refine u_irem (v := (nI (k % 2))) h dL_refusesAny_220 (by decide) (pk_rem (a := k) (d := 2) (by omega) (by omega) (by omega)) rfl ?_
                                refine u_if_ne_N (a := (k % 2)) (tgt := 228) h dL_refusesAny_221 (by decide) (by omega) rfl (fun c36 => ?_) (fun c36 => ?_)
                                · exact absurd hp c36
                                · refine u_iconst (v := (-1)) h dL_refusesAny_224 (by decide) rfl ?_
                                  refine u_goto (tgt := 230) h dL_refusesAny_225 (by decide) ?_
                                  refine r_visitor h hT hC hw33 0 (-1) dL_refusesAny_230 rfl (Nat.le_of_ble_eq_true rfl) ?_
                                  refine u_top (y := (-2)) rfl ?_
                                  refine u_bipush (v := (-2)) h dL_refusesAny_233 (by decide) rfl ?_
                                  refine u_icmp_ne (tgt := 390) h dL_refusesAny_235 (by decide) rfl (fun c37 => ?_) (fun c37 => ?_)
                                  · exact absurd c37 (by decide)
                                  · refine u_aload_n h dL_refusesAny_238 rfl 2 rfl rfl ?_
                                    refine u_iconst (v := (-1)) h dL_refusesAny_239 (by decide) rfl ?_
                                    refine u_iload_n h dL_refusesAny_240 rfl 3 rfl rfl ?_
                                    refine u_bipush (v := 99) h dL_refusesAny_241 (by decide) rfl ?_
                                    refine u_irem (v := (nI (k % 99))) h dL_refusesAny_243 (by decide) (pk_rem (a := k) (d := 99) (by omega) (by omega) (by omega)) rfl ?_
                                    refine u_isub (v := ((-1) - (nI (k % 99)))) h dL_refusesAny_244 rfl rfl ?_
                                    refine r_inLine h hT hC hw33 ((-1) - (nI (k % 99))) dL_refusesAny_245 rfl (Nat.le_of_ble_eq_true rfl) ?_
                                    refine u_top (y := (-2)) (lineA_neg hneg) ?_
                                    refine u_bipush (v := (-2)) h dL_refusesAny_248 (by decide) rfl ?_
                                    refine u_icmp_ne (tgt := 390) h dL_refusesAny_250 (by decide) rfl (fun c38 => ?_) (fun c38 => ?_)
                                    · exact absurd c38 (by decide)
                                    · refine u_aload_n h dL_refusesAny_253 rfl 2 rfl rfl ?_
                                      refine u_bipush (v := 6) h dL_refusesAny_254 (by decide) rfl ?_
                                      refine u_iload_n h dL_refusesAny_256 rfl 3 rfl rfl ?_
                                      refine u_bipush (v := 99) h dL_refusesAny_257 (by decide) rfl ?_
                                      refine u_irem (v := (nI (k % 99))) h dL_refusesAny_259 (by decide) (pk_rem (a := k) (d := 99) (by omega) (by omega) (by omega)) rfl ?_
                                      refine u_iadd (v := (nI (6 + (k % 99)))) h dL_refusesAny_260 (nI_add 6 (k % 99)) rfl ?_
                                      refine r_inLine h hT hC hw33 (nI (6 + (k % 99))) dL_refusesAny_261 rfl (Nat.le_of_ble_eq_true rfl) ?_
                                      refine u_top (y := (-5)) (lineA_big hI (by omega) (by omega)) ?_
                                      refine u_bipush (v := (-5)) h dL_refusesAny_264 (by decide) rfl ?_
                                      refine u_icmp_ne (tgt := 390) h dL_refusesAny_266 (by decide) rfl (fun c39 => ?_) (fun c39 => ?_)
                                      · exact absurd c39 (by decide)
                                      · refine u_aload_n h dL_refusesAny_269 rfl 2 rfl rfl ?_
                                        refine u_iload_n h dL_refusesAny_270 rfl 3 rfl rfl ?_
                                        refine u_iconst (v := 2) h dL_refusesAny_271 (by decide) rfl ?_
                                        refine u_irem (v := (nI (k % 2))) h dL_refusesAny_272 (by decide) (pk_rem (a := k) (d := 2) (by omega) (by omega) (by omega)) rfl ?_
                                        refine u_if_ne_N (a := (k % 2)) (tgt := 280) h dL_refusesAny_273 (by decide) (by omega) rfl (fun c40 => ?_) (fun c40 => ?_)
                                        · exact absurd hp c40
                                        · refine u_iconst (v := (-1)) h dL_refusesAny_276 (by decide) rfl ?_
                                          refine u_goto (tgt := 282) h dL_refusesAny_277 (by decide) ?_
                                          refine r_card h hT hC hw33 (-1) dL_refusesAny_282 rfl (Nat.le_of_ble_eq_true rfl) ?_
                                          refine u_top (y := (-1)) rfl ?_
                                          refine u_iconst (v := (-1)) h dL_refusesAny_285 (by decide) rfl ?_
                                          refine u_icmp_ne (tgt := 390) h dL_refusesAny_286 (by decide) rfl (fun c41 => ?_) (fun c41 => ?_)
                                          · exact absurd c41 (by decide)
                                          · refine u_aload_n h dL_refusesAny_289 rfl 2 rfl rfl ?_
                                            refine u_iload_n h dL_refusesAny_290 rfl 3 rfl rfl ?_
                                            refine u_iconst (v := 2) h dL_refusesAny_291 (by decide) rfl ?_
                                            refine u_irem (v := (nI (k % 2))) h dL_refusesAny_292 (by decide) (pk_rem (a := k) (d := 2) (by omega) (by omega) (by omega)) rfl ?_
                                            refine u_if_ne_N (a := (k % 2)) (tgt := 300) h dL_refusesAny_293 (by decide) (by omega) rfl (fun c42 => ?_) (fun c42 => ?_)
                                            · exact absurd hp c42
                                            · refine u_iconst (v := (-1)) h dL_refusesAny_296 (by decide) rfl ?_
                                              refine u_goto (tgt := 302) h dL_refusesAny_297 (by decide) ?_
                                              refine r_total h hT hC hw33 (-1) dL_refusesAny_302 rfl (Nat.le_of_ble_eq_true rfl) ?_
                                              refine u_top (y := (-2)) rfl ?_
                                              refine u_bipush (v := (-2)) h dL_refusesAny_305 (by decide) rfl ?_
                                              refine u_icmp_ne (tgt := 390) h dL_refusesAny_307 (by decide) rfl (fun c43 => ?_) (fun c43 => ?_)
                                              · exact absurd c43 (by decide)
                                              · refine u_aload_n h dL_refusesAny_310 rfl 2 rfl rfl ?_
                                                refine u_iload_n h dL_refusesAny_311 rfl 1 rfl rfl ?_
                                                refine r_wouldLook h hT hC hw33 ((-1) - (nI (k % 99))) dL_refusesAny_312 rfl (Nat.le_of_ble_eq_true rfl) ?_
                                                refine u_top (y := (-1)) (lookA_no hno) ?_
                                                refine u_iconst (v := (-1)) h dL_refusesAny_315 (by decide) rfl ?_
                                                refine u_icmp_ne (tgt := 390) h dL_refusesAny_316 (by decide) rfl (fun c44 => ?_) (fun c44 => ?_)
                                                · exact absurd c44 (by decide)
                                                · refine u_aload_n h dL_refusesAny_319 rfl 2 rfl rfl ?_
                                                  refine u_iload_n h dL_refusesAny_320 rfl 1 rfl rfl ?_
                                                  refine r_wouldTouch h hT hC hw33 ((-1) - (nI (k % 99))) dL_refusesAny_321 rfl (Nat.le_of_ble_eq_true rfl) ?_
                                                  refine u_top (y := (-1)) (touchA_no hno) ?_
                                                  refine u_iconst (v := (-1)) h dL_refusesAny_324 (by decide) rfl ?_
                                                  refine u_icmp_ne (tgt := 390) h dL_refusesAny_325 (by decide) rfl (fun c45 => ?_) (fun c45 => ?_)
                                                  · exact absurd c45 (by decide)
                                                  · refine u_aload_n h dL_refusesAny_328 rfl 2 rfl rfl ?_
                                                    refine u_iload_n h dL_refusesAny_329 rfl 1 rfl rfl ?_
                                                    refine u_iconst (v := 0) h dL_refusesAny_330 (by decide) rfl ?_
                                                    refine u_bipush (v := 9) h dL_refusesAny_331 (by decide) rfl ?_
                                                    refine r_orders h hT hC hw33 ((-1) - (nI (k % 99))) 0 9 (okO_no1 hno) dL_refusesAny_333 rfl (Nat.le_of_ble_eq_true rfl) (fun w46 hw47 => ?_)
                                                    refine u_top (y := (-1)) (if_pos (Or.inl hno)) ?_
                                                    refine u_iconst (v := (-1)) h dL_refusesAny_336 (by decide) rfl ?_
                                                    refine u_icmp_ne (tgt := 390) h dL_refusesAny_337 (by decide) rfl (fun c48 => ?_) (fun c48 => ?_)
                                                    · exact absurd c48 (by decide)
                                                    · refine u_aload_n h dL_refusesAny_340 rfl 2 rfl rfl ?_
                                                      refine u_iconst (v := 0) h dL_refusesAny_341 (by decide) rfl ?_
                                                      refine u_iload_n h dL_refusesAny_342 rfl 1 rfl rfl ?_
                                                      refine u_bipush (v := 9) h dL_refusesAny_343 (by decide) rfl ?_
                                                      refine r_orders h hT hC hw47 0 ((-1) - (nI (k % 99))) 9 (okO_no2 hno) dL_refusesAny_345 rfl (Nat.le_of_ble_eq_true rfl) (fun w49 hw50 => ?_)
                                                      refine u_top (y := (-1)) (if_pos (Or.inr hno)) ?_
                                                      refine u_iconst (v := (-1)) h dL_refusesAny_348 (by decide) rfl ?_
                                                      refine u_icmp_ne (tgt := 390) h dL_refusesAny_349 (by decide) rfl (fun c51 => ?_) (fun c51 => ?_)
                                                      · exact absurd c51 (by decide)
                                                      · refine u_aload_n h dL_refusesAny_352 rfl 2 rfl rfl ?_
                                                        refine u_iconst (v := 1) h dL_refusesAny_353 (by decide) rfl ?_
                                                        refine u_iconst (v := 1) h dL_refusesAny_354 (by decide) rfl ?_
                                                        refine u_iconst (v := 0) h dL_refusesAny_355 (by decide) rfl ?_
                                                        refine r_orders h hT hC hw50 1 1 0 rfl dL_refusesAny_356 rfl (Nat.le_of_ble_eq_true rfl) (fun w52 hw53 => ?_)
                                                        refine u_top (y := (-2)) (rfl) ?_
                                                        refine u_bipush (v := (-2)) h dL_refusesAny_359 (by decide) rfl ?_
                                                        refine u_icmp_ne (tgt := 390) h dL_refusesAny_361 (by decide) rfl (fun c54 => ?_) (fun c54 => ?_)
                                                        · exact absurd c54 (by decide)
                                                        · refine u_aload_n h dL_refusesAny_364 rfl 2 rfl rfl ?_
                                                          refine u_iconst (v := 0) h dL_refusesAny_365 (by decide) rfl ?_
                                                          refine u_iconst (v := 1) h dL_refusesAny_366 (by decide) rfl ?_
                                                          refine u_iload_n h dL_refusesAny_367 rfl 3 rfl rfl ?_
                                                          refine u_iconst (v := 2) h dL_refusesAny_368 (by decide) rfl ?_
                                                          refine u_irem (v := (nI (k % 2))) h dL_refusesAny_369 (by decide) (pk_rem (a := k) (d := 2) (by omega) (by omega) (by omega)) rfl ?_
                                                          refine u_if_ne_N (a := (k % 2)) (tgt := 377) h dL_refusesAny_370 (by decide) (by omega) rfl (fun c55 => ?_) (fun c55 => ?_)
                                                          · exact absurd hp c55
                                                          · refine u_iconst (v := (-1)) h dL_refusesAny_373 (by decide) rfl ?_
                                                            refine u_goto (tgt := 378) h dL_refusesAny_374 (by decide) ?_
                                                            refine r_orders h hT hC hw53 0 1 (-1) rfl dL_refusesAny_378 rfl (Nat.le_of_ble_eq_true rfl) (fun w56 hw57 => ?_)
                                                            refine u_top (y := (-2)) (rfl) ?_
                                                            refine u_bipush (v := (-2)) h dL_refusesAny_381 (by decide) rfl ?_
                                                            refine u_icmp_ne (tgt := 390) h dL_refusesAny_383 (by decide) rfl (fun c58 => ?_) (fun c58 => ?_)
                                                            · exact absurd c58 (by decide)
                                                            · refine u_iconst (v := 1) h dL_refusesAny_386 (by decide) rfl ?_
                                                              refine u_goto (tgt := 391) h dL_refusesAny_387 (by decide) ?_
                                                              refine u_istore_n (lv' := [(3, .int 1), (2, .int ((-1) - (nI (k % 99)))), (0, .ref x0), (1, .int (nI k))]) h dL_refusesAny_391 rfl (by rw [hL]; decide) rfl rfl ?_
                                                              refine u_iload_n h dL_refusesAny_392 rfl 0 rfl rfl ?_
                                                              refine u_if_eq_N (a := 1) (tgt := 416) h dL_refusesAny_393 (by decide) (by omega) rfl (fun c59 => ?_) (fun c59 => ?_)
                                                              · exact absurd c59 (by decide)
                                                              · refine u_aload_n h dL_refusesAny_396 rfl 2 rfl rfl ?_
                                                                refine r_clearText h hT hC hw57 dL_refusesAny_397 rfl (Nat.le_of_ble_eq_true rfl) (fun w60 hw61 => ?_)
                                                                refine u_top (y := 0) (rfl) ?_
                                                                refine u_if_ne_N (a := 0) (tgt := 416) h dL_refusesAny_400 (by decide) (by omega) rfl (fun c62 => ?_) (fun c62 => ?_)
                                                                · exact absurd c62 (by decide)
                                                                · refine u_aload_n h dL_refusesAny_403 rfl 2 rfl rfl ?_
                                                                  refine r_perform h hT hC hw61 dL_refusesAny_404 rfl (Nat.le_of_ble_eq_true rfl) (fun w63 hw64 => ?_)
                                                                  refine u_top (y := (-100)) (rfl) ?_
                                                                  refine u_bipush (v := (-100)) h dL_refusesAny_407 (by decide) rfl ?_
                                                                  refine u_icmp_ne (tgt := 416) h dL_refusesAny_409 (by decide) rfl (fun c65 => ?_) (fun c65 => ?_)
                                                                  · exact absurd c65 (by decide)
                                                                  · refine u_iconst (v := 1) h dL_refusesAny_412 (by decide) rfl ?_
                                                                    refine u_goto (tgt := 417) h dL_refusesAny_413 (by decide) ?_
                                                                    exact u_zret h hRT dL_refusesAny_417 rfl (Nat.le_refl _) (Nat.le_refl _) ⟨rfl, hw64⟩
                          refine u_if_gt (tgt := 195) h dL_refusesAny_176 (by decide) rfl (fun c66 => ?_) (fun c66 => ?_)
                          · exact J31 _ hw29
                          · refine u_aload_n h dL_refusesAny_179 rfl 1 rfl rfl ?_
                            refine r_finish h hT hC hw29 0 (fun q9 => absurd ((okF_no (cnt_nul c66)).symm.trans q9) (by decide)) dL_refusesAny_180 rfl (Nat.le_of_ble_eq_true rfl) (fun w67 hw68 => ?_)
                            have hw68 := hw68.no (okF_no (cnt_nul c66))
                            refine u_top (y := (-5)) (finishA_no (cnt_nul c66)) ?_
                            refine u_bipush (v := (-5)) h dL_refusesAny_183 (by decide) rfl ?_
                            refine u_icmp_ne (tgt := 199) h dL_refusesAny_185 (by decide) rfl (fun c69 => ?_) (fun c69 => ?_)
                            · exact absurd c69 (by decide)
                            · refine u_aload_n h dL_refusesAny_188 rfl 1 rfl rfl ?_
                              refine r_stepsToFinish h hT hC hw68 N hN dL_refusesAny_189 rfl (Nat.le_of_ble_eq_true rfl) (fun w70 hw71 => ?_)
                              refine u_top (y := 0) (finA_no hN (cnt_nul c66)) ?_
                              refine u_if_ne_N (a := 0) (tgt := 199) h dL_refusesAny_192 (by decide) (by omega) rfl (fun c72 => ?_) (fun c72 => ?_)
                              · exact absurd c72 (by decide)
                              · exact J31 _ hw71
        refine u_if_eq (tgt := 72) h dL_refusesAny_57 (by decide) rfl (fun c73 => ?_) (fun c73 => ?_)
        · exact J6 _ hw4
        · refine u_aload_n h dL_refusesAny_60 rfl 1 rfl rfl ?_
          refine u_iload_n h dL_refusesAny_61 rfl 2 rfl rfl ?_
          refine u_iconst (v := 4) h dL_refusesAny_62 (by decide) rfl ?_
          refine u_irem (v := (nI (k % 4))) h dL_refusesAny_63 (by decide) (pk_rem (a := k) (d := 4) (by omega) (by omega) (by omega)) rfl ?_
          refine r_build h hT hC hw4 (nI (k % 4)) dL_refusesAny_64 rfl (Nat.le_of_ble_eq_true rfl) (fun w74 hw75 => ?_)
          have hw75 := hw75.no (okB_not (cnt_ne c73))
          refine u_top (y := (-4)) (buildA_not (by omega) (cnt_ne c73)) ?_
          refine u_bipush (v := (-4)) h dL_refusesAny_67 (by decide) rfl ?_
          refine u_icmp_ne (tgt := 199) h dL_refusesAny_69 (by decide) rfl (fun c76 => ?_) (fun c76 => ?_)
          · exact absurd c76 (by decide)
          · exact J6 _ hw75
set_option maxHeartbeats 8000000 in
set_option maxRecDepth 100000 in
/-- refusesAny -/
theorem lk_refusesAny1 {G : Gx} {x0 : Nat} {z : Zf} {r : Nat} {hz : Nat → Zf} {kb : Bool} {zp : Zf} {w : va_W} (hw : IsO G x0 z r hz kb zp w) {k : Nat} (hk : k < 2 ^ 31) (hp : k % 2 = 1) : MC G yL_refusesAny sL_refusesAny rA [.ref x0, .int (nI k)] w (fun v' u' => v' = some (.int 1) ∧ IsO G x0 z r hz kb zp u') 0 0 := by
  refine mc_of (cc := cL_refusesAny) (maxL := 4) (ret := (some .boolean)) (by decide) rfl (Nat.le_of_ble_eq_true rfl) (fun X h hR hL hRT => ?_)
  have hT : ∀ q ∈ gT, q ∈ sL_refusesAny := fun q h9 => lwS_in h9
  have hC : LC X 0 0 := by unfold LC; rw [hR]; decide
  refine u_eql (lv' := [(0, .ref x0), (1, .int (nI k))]) rfl ?_
  have hI := hw.i
  obtain ⟨N, hN⟩ := fi_ex hI
  have h99 : k % 99 < 99 := Nat.mod_lt _ (by decide)
  have hneg : (-1 - (nI (k % 99))) < 0 := neg1 h99
  have hno : isV (nI (6 + (k % 99))) = false := isV_big (by omega) (by omega)
  have hin3 : inB (nI (4 + (k % 99))) 0 3 = false := inB_big (n := 3) (by omega) (by omega)
  refine u_iload_n h dL_refusesAny_0 rfl 1 rfl rfl ?_
  refine u_iconst (v := 2) h dL_refusesAny_1 (by decide) rfl ?_
  refine u_irem (v := (nI (k % 2))) h dL_refusesAny_2 (by decide) (pk_rem (a := k) (d := 2) (by omega) (by omega) (by omega)) rfl ?_
  refine u_if_ne_N (a := (k % 2)) (tgt := 15) h dL_refusesAny_3 (by decide) (by omega) rfl (fun c1 => ?_) (fun c1 => ?_)
  · refine u_bipush (v := 6) h dL_refusesAny_15 (by decide) rfl ?_
    refine u_iload_n h dL_refusesAny_17 rfl 1 rfl rfl ?_
    refine u_bipush (v := 99) h dL_refusesAny_18 (by decide) rfl ?_
    refine u_irem (v := (nI (k % 99))) h dL_refusesAny_20 (by decide) (pk_rem (a := k) (d := 99) (by omega) (by omega) (by omega)) rfl ?_
    refine u_iadd (v := (nI (6 + (k % 99)))) h dL_refusesAny_21 (nI_add 6 (k % 99)) rfl ?_
    refine u_istore_n (lv' := [(2, .int (nI (6 + (k % 99)))), (0, .ref x0), (1, .int (nI k))]) h dL_refusesAny_22 rfl (by rw [hL]; decide) rfl rfl ?_
    refine u_aload_n h dL_refusesAny_23 rfl 1 rfl rfl ?_
    refine u_iload_n h dL_refusesAny_24 rfl 2 rfl rfl ?_
    refine u_iconst (v := 2) h dL_refusesAny_25 (by decide) rfl ?_
    refine u_irem (v := (nI (k % 2))) h dL_refusesAny_26 (by decide) (pk_rem (a := k) (d := 2) (by omega) (by omega) (by omega)) rfl ?_
    refine u_if_ne_N (a := (k % 2)) (tgt := 39) h dL_refusesAny_27 (by decide) (by omega) rfl (fun c2 => ?_) (fun c2 => ?_)
    · refine u_iconst (v := 4) h dL_refusesAny_39 (by decide) rfl ?_
      refine u_iload_n h dL_refusesAny_40 rfl 2 rfl rfl ?_
      refine u_bipush (v := 99) h dL_refusesAny_41 (by decide) rfl ?_
      refine u_irem (v := (nI (k % 99))) h dL_refusesAny_43 (by decide) (pk_rem (a := k) (d := 99) (by omega) (by omega) (by omega)) rfl ?_
      refine u_iadd (v := (nI (4 + (k % 99)))) h dL_refusesAny_44 (nI_add 4 (k % 99)) rfl ?_
      refine r_build h hT hC hw (nI (4 + (k % 99))) dL_refusesAny_45 rfl (Nat.le_of_ble_eq_true rfl) (fun w3 hw4 => ?_)
      have hw4 := hw4.no (okB_no hin3)
      refine u_top (y := (-1)) (buildA_no hin3) ?_
      refine u_iconst (v := (-1)) h dL_refusesAny_48 (by decide) rfl ?_
      refine u_icmp_ne (tgt := 199) h dL_refusesAny_49 (by decide) rfl (fun c5 => ?_) (fun c5 => ?_)
      · exact absurd c5 (by decide)
      · refine u_aload_n h dL_refusesAny_52 rfl 1 rfl rfl ?_
        refine u_iconst (v := 3) h dL_refusesAny_53 (by decide) rfl ?_
        refine r_total h hT hC hw4 3 dL_refusesAny_54 rfl (Nat.le_of_ble_eq_true rfl) ?_
        refine u_top (y := (cntZ z 6)) (totA_3 z r 0) ?_
        have J6 : ∀ w7 : va_W, IsO G x0 z r hz kb zp w7 → U G X 0 0 w7 72 [(2, .int (nI (6 + (k % 99)))), (0, .ref x0), (1, .int (nI k))] [] := by
          intro w7 hw8
          refine u_aload_n h dL_refusesAny_72 rfl 1 rfl rfl ?_
          refine u_iload_n h dL_refusesAny_73 rfl 0 rfl rfl ?_
          refine r_step h hT hC hw8 (nI (6 + (k % 99))) dL_refusesAny_74 rfl (Nat.le_of_ble_eq_true rfl) (fun w9 hw10 => ?_)
          have hw10 := hw10.no (hno)
          refine u_top (y := (-1)) (stepA_no hno) ?_
          refine u_iconst (v := (-1)) h dL_refusesAny_77 (by decide) rfl ?_
          refine u_icmp_ne (tgt := 199) h dL_refusesAny_78 (by decide) rfl (fun c11 => ?_) (fun c11 => ?_)
          · exact absurd c11 (by decide)
          · refine u_aload_n h dL_refusesAny_81 rfl 1 rfl rfl ?_
            refine u_iload_n h dL_refusesAny_82 rfl 0 rfl rfl ?_
            refine r_go h hT hC hw10 (nI (6 + (k % 99))) 0 (fun q9 => absurd ((okG_no hno).symm.trans q9) (by decide)) dL_refusesAny_83 rfl (Nat.le_of_ble_eq_true rfl) (fun w12 hw13 => ?_)
            have hw13 := hw13.no (okG_no hno)
            refine u_top (y := (-1)) (goA_no hno) ?_
            refine u_iconst (v := (-1)) h dL_refusesAny_86 (by decide) rfl ?_
            refine u_icmp_ne (tgt := 199) h dL_refusesAny_87 (by decide) rfl (fun c14 => ?_) (fun c14 => ?_)
            · exact absurd c14 (by decide)
            · refine u_aload_n h dL_refusesAny_90 rfl 1 rfl rfl ?_
              refine u_iconst (v := 0) h dL_refusesAny_91 (by decide) rfl ?_
              refine u_iconst (v := 1) h dL_refusesAny_92 (by decide) rfl ?_
              refine r_draw h hT hC hw13 0 1 dL_refusesAny_93 rfl (Nat.le_of_ble_eq_true rfl) (fun w15 hw16 => ?_)
              have hw16 := hw16.no (rfl)
              refine u_top (y := (-2)) (rfl) ?_
              refine u_bipush (v := (-2)) h dL_refusesAny_96 (by decide) rfl ?_
              refine u_icmp_ne (tgt := 199) h dL_refusesAny_98 (by decide) rfl (fun c17 => ?_) (fun c17 => ?_)
              · exact absurd c17 (by decide)
              · refine u_aload_n h dL_refusesAny_101 rfl 1 rfl rfl ?_
                refine u_bipush (v := 64) h dL_refusesAny_102 (by decide) rfl ?_
                refine u_iload_n h dL_refusesAny_104 rfl 2 rfl rfl ?_
                refine u_bipush (v := 99) h dL_refusesAny_105 (by decide) rfl ?_
                refine u_irem (v := (nI (k % 99))) h dL_refusesAny_107 (by decide) (pk_rem (a := k) (d := 99) (by omega) (by omega) (by omega)) rfl ?_
                refine u_iadd (v := (nI (64 + (k % 99)))) h dL_refusesAny_108 (nI_add 64 (k % 99)) rfl ?_
                refine u_iconst (v := 1) h dL_refusesAny_109 (by decide) rfl ?_
                refine r_draw h hT hC hw16 (nI (64 + (k % 99))) 1 dL_refusesAny_110 rfl (Nat.le_of_ble_eq_true rfl) (fun w18 hw19 => ?_)
                have hw19 := hw19.no (okD_no (inB_big (n := 63) (by omega) (by omega)))
                refine u_top (y := (-2)) (drawA_no (okD_no (inB_big (n := 63) (by omega) (by omega)))) ?_
                refine u_bipush (v := (-2)) h dL_refusesAny_113 (by decide) rfl ?_
                refine u_icmp_ne (tgt := 199) h dL_refusesAny_115 (by decide) rfl (fun c20 => ?_) (fun c20 => ?_)
                · exact absurd c20 (by decide)
                · refine u_aload_n h dL_refusesAny_118 rfl 1 rfl rfl ?_
                  refine u_iconst (v := 1) h dL_refusesAny_119 (by decide) rfl ?_
                  refine u_iload_n h dL_refusesAny_120 rfl 2 rfl rfl ?_
                  refine u_iconst (v := 2) h dL_refusesAny_121 (by decide) rfl ?_
                  refine u_irem (v := (nI (k % 2))) h dL_refusesAny_122 (by decide) (pk_rem (a := k) (d := 2) (by omega) (by omega) (by omega)) rfl ?_
                  refine u_if_ne_N (a := (k % 2)) (tgt := 130) h dL_refusesAny_123 (by decide) (by omega) rfl (fun c21 => ?_) (fun c21 => ?_)
                  · refine u_sipush (v := 201) h dL_refusesAny_130 (by decide) rfl ?_
                    refine r_draw h hT hC hw19 1 201 dL_refusesAny_133 rfl (Nat.le_of_ble_eq_true rfl) (fun w22 hw23 => ?_)
                    have hw23 := hw23.no (rfl)
                    refine u_top (y := (-2)) (rfl) ?_
                    refine u_bipush (v := (-2)) h dL_refusesAny_136 (by decide) rfl ?_
                    refine u_icmp_ne (tgt := 199) h dL_refusesAny_138 (by decide) rfl (fun c24 => ?_) (fun c24 => ?_)
                    · exact absurd c24 (by decide)
                    · refine u_aload_n h dL_refusesAny_141 rfl 1 rfl rfl ?_
                      refine u_iconst (v := (-1)) h dL_refusesAny_142 (by decide) rfl ?_
                      refine u_iload_n h dL_refusesAny_143 rfl 2 rfl rfl ?_
                      refine u_bipush (v := 99) h dL_refusesAny_144 (by decide) rfl ?_
                      refine u_irem (v := (nI (k % 99))) h dL_refusesAny_146 (by decide) (pk_rem (a := k) (d := 99) (by omega) (by omega) (by omega)) rfl ?_
                      refine u_isub (v := ((-1) - (nI (k % 99)))) h dL_refusesAny_147 rfl rfl ?_
                      refine r_shuffle h hT hC hw23 ((-1) - (nI (k % 99))) dL_refusesAny_148 rfl (Nat.le_of_ble_eq_true rfl) (fun w25 hw26 => ?_)
                      have hw26 := hw26.no (okH_neg hneg)
                      refine u_top (y := (-2)) (shufA_neg hneg) ?_
                      refine u_bipush (v := (-2)) h dL_refusesAny_151 (by decide) rfl ?_
                      refine u_icmp_ne (tgt := 199) h dL_refusesAny_153 (by decide) rfl (fun c27 => ?_) (fun c27 => ?_)
                      · exact absurd c27 (by decide)
                      · refine u_aload_n h dL_refusesAny_156 rfl 1 rfl rfl ?_
                        refine u_aload_n h dL_refusesAny_157 rfl 1 rfl rfl ?_
                        refine u_bipush (v := 12) h dL_refusesAny_158 (by decide) rfl ?_
                        refine r_total h hT hC hw26 12 dL_refusesAny_160 rfl (Nat.le_of_ble_eq_true rfl) ?_
                        refine u_top (y := (z 61)) (totA_12 z r 0) ?_
                        refine r_shuffle h hT hC hw26 (z 61) dL_refusesAny_163 rfl (Nat.le_of_ble_eq_true rfl) (fun w28 hw29 => ?_)
                        have hw29 := hw29.no (okH_same rfl)
                        refine u_top (y := (-5)) (shufA_same hI.2.1 rfl) ?_
                        refine u_bipush (v := (-5)) h dL_refusesAny_166 (by decide) rfl ?_
                        refine u_icmp_ne (tgt := 199) h dL_refusesAny_168 (by decide) rfl (fun c30 => ?_) (fun c30 => ?_)
                        · exact absurd c30 (by decide)
                        · refine u_aload_n h dL_refusesAny_171 rfl 1 rfl rfl ?_
                          refine u_iconst (v := 3) h dL_refusesAny_172 (by decide) rfl ?_
                          refine r_total h hT hC hw29 3 dL_refusesAny_173 rfl (Nat.le_of_ble_eq_true rfl) ?_
                          refine u_top (y := (cntZ z 6)) (totA_3 z r 0) ?_
                          have J31 : ∀ w32 : va_W, IsO G x0 z r hz kb zp w32 → U G X 0 0 w32 195 [(2, .int (nI (6 + (k % 99)))), (0, .ref x0), (1, .int (nI k))] [] := by
                            intro w32 hw33
                            refine u_iconst (v := 1) h dL_refusesAny_195 (by decide) rfl ?_
                            refine u_goto (tgt := 200) h dL_refusesAny_196 (by decide) ?_
                            refine u_istore_n (lv' := [(3, .int 1), (2, .int (nI (6 + (k % 99)))), (0, .ref x0), (1, .int (nI k))]) h dL_refusesAny_200 rfl (by rw [hL]; decide) rfl rfl ?_
                            refine u_iload_n h dL_refusesAny_201 rfl 0 rfl rfl ?_
                            refine u_if_eq_N (a := 1) (tgt := 390) h dL_refusesAny_202 (by decide) (by omega) rfl (fun c34 => ?_) (fun c34 => ?_)
                            · exact absurd c34 (by decide)
                            · refine u_aload_n h dL_refusesAny_205 rfl 2 rfl rfl ?_
                              refine u_iload_n h dL_refusesAny_206 rfl 1 rfl rfl ?_
                              refine u_bipush (v := 99) h dL_refusesAny_207 (by decide) rfl ?_
                              refine r_visitor h hT hC hw33 (nI (6 + (k % 99))) 99 dL_refusesAny_209 rfl (Nat.le_of_ble_eq_true rfl) ?_
                              refine u_top (y := (-1)) (visA_no hno) ?_
                              refine u_iconst (v := (-1)) h dL_refusesAny_212 (by decide) rfl ?_
                              refine u_icmp_ne (tgt := 390) h dL_refusesAny_213 (by decide) rfl (fun c35 => ?_) (fun c35 => ?_)
                              · exact absurd c35 (by decide)
                              · refine u_aload_n h dL_refusesAny_216 rfl 2 rfl rfl ?_
                                refine u_iconst (v := 0) h dL_refusesAny_217 (by decide) rfl ?_
                                refine u_iload_n h dL_refusesAny_218 rfl 3 rfl rfl ?_
                                refine u_iconst (v := 2) h dL_refusesAny_219 (by decide) rfl ?_
                                refine u_irem (v := (nI (k % 2))) h dL_refusesAny_220 (by decide) (pk_rem (a := k) (d := 2) (by omega) (by omega) (by omega)) rfl ?_
                                refine u_if_ne_N (a := (k % 2)) (tgt := 228) h dL_refusesAny_221 (by decide) (by omega) rfl (fun c36 => ?_) (fun c36 => ?_)
                                · refine u_bipush (v := 11) h dL_refusesAny_228 (by decide) rfl ?_
                                  refine r_visitor h hT hC hw33 0 11 dL_refusesAny_230 rfl (Nat.le_of_ble_eq_true rfl) ?_
                                  refine u_top (y := (-2)) rfl ?_
                                  refine u_bipush (v := (-2)) h dL_refusesAny_233 (by decide) rfl ?_
                                  refine u_icmp_ne (tgt := 390) h dL_refusesAny_235 (by decide) rfl (fun c37 => ?_) (fun c37 => ?_)
                                  · exact absurd c37 (by decide)
                                  · refine u_aload_n h dL_refusesAny_238 rfl 2 rfl rfl ?_
                                    refine u_iconst (v := (-1)) h dL_refusesAny_239 (by decide) rfl ?_
                                    refine u_iload_n h dL_refusesAny_240 rfl 3 rfl rfl ?_
                                    refine u_bipush (v := 99) h dL_refusesAny_241 (by decide) rfl ?_
                                    refine u_irem (v := (nI (k % 99))) h dL_refusesAny_243 (by decide) (pk_rem (a := k) (d := 99) (by omega) (by omega) (by omega)) rfl ?_
                                    refine u_isub (v := ((-1) - (nI (k % 99)))) h dL_refusesAny_244 rfl rfl ?_
                                    refine r_inLine h hT hC hw33 ((-1) - (nI (k % 99))) dL_refusesAny_245 rfl (Nat.le_of_ble_eq_true rfl) ?_
                                    refine u_top (y := (-2)) (lineA_neg hneg) ?_
                                    refine u_bipush (v := (-2)) h dL_refusesAny_248 (by decide) rfl ?_
                                    refine u_icmp_ne (tgt := 390) h dL_refusesAny_250 (by decide) rfl (fun c38 => ?_) (fun c38 => ?_)
                                    · exact absurd c38 (by decide)
                                    · refine u_aload_n h dL_refusesAny_253 rfl 2 rfl rfl ?_
                                      refine u_bipush (v := 6) h dL_refusesAny_254 (by decide) rfl ?_
                                      refine u_iload_n h dL_refusesAny_256 rfl 3 rfl rfl ?_
                                      refine u_bipush (v := 99) h dL_refusesAny_257 (by decide) rfl ?_
                                      refine u_irem (v := (nI (k % 99))) h dL_refusesAny_259 (by decide) (pk_rem (a := k) (d := 99) (by omega) (by omega) (by omega)) rfl ?_
                                      refine u_iadd (v := (nI (6 + (k % 99)))) h dL_refusesAny_260 (nI_add 6 (k % 99)) rfl ?_
                                      refine r_inLine h hT hC hw33 (nI (6 + (k % 99))) dL_refusesAny_261 rfl (Nat.le_of_ble_eq_true rfl) ?_
                                      refine u_top (y := (-5)) (lineA_big hI (by omega) (by omega)) ?_
                                      refine u_bipush (v := (-5)) h dL_refusesAny_264 (by decide) rfl ?_
                                      refine u_icmp_ne (tgt := 390) h dL_refusesAny_266 (by decide) rfl (fun c39 => ?_) (fun c39 => ?_)
                                      · exact absurd c39 (by decide)
                                      · refine u_aload_n h dL_refusesAny_269 rfl 2 rfl rfl ?_
                                        refine u_iload_n h dL_refusesAny_270 rfl 3 rfl rfl ?_
                                        refine u_iconst (v := 2) h dL_refusesAny_271 (by decide) rfl ?_
                                        refine u_irem (v := (nI (k % 2))) h dL_refusesAny_272 (by decide) (pk_rem (a := k) (d := 2) (by omega) (by omega) (by omega)) rfl ?_
                                        refine u_if_ne_N (a := (k % 2)) (tgt := 280) h dL_refusesAny_273 (by decide) (by omega) rfl (fun c40 => ?_) (fun c40 => ?_)
                                        · refine u_bipush (v := 7) h dL_refusesAny_280 (by decide) rfl ?_
                                          refine r_card h hT hC hw33 7 dL_refusesAny_282 rfl (Nat.le_of_ble_eq_true rfl) ?_
                                          refine u_top (y := (-1)) rfl ?_
                                          refine u_iconst (v := (-1)) h dL_refusesAny_285 (by decide) rfl ?_
                                          refine u_icmp_ne (tgt := 390) h dL_refusesAny_286 (by decide) rfl (fun c41 => ?_) (fun c41 => ?_)
                                          · exact absurd c41 (by decide)
                                          · refine u_aload_n h dL_refusesAny_289 rfl 2 rfl rfl ?_
                                            refine u_iload_n h dL_refusesAny_290 rfl 3 rfl rfl ?_
                                            refine u_iconst (v := 2) h dL_refusesAny_291 (by decide) rfl ?_
                                            refine u_irem (v := (nI (k % 2))) h dL_refusesAny_292 (by decide) (pk_rem (a := k) (d := 2) (by omega) (by omega) (by omega)) rfl ?_
                                            refine u_if_ne_N (a := (k % 2)) (tgt := 300) h dL_refusesAny_293 (by decide) (by omega) rfl (fun c42 => ?_) (fun c42 => ?_)
                                            · refine u_bipush (v := 15) h dL_refusesAny_300 (by decide) rfl ?_
                                              refine r_total h hT hC hw33 15 dL_refusesAny_302 rfl (Nat.le_of_ble_eq_true rfl) ?_
                                              refine u_top (y := (-2)) rfl ?_
                                              refine u_bipush (v := (-2)) h dL_refusesAny_305 (by decide) rfl ?_
                                              refine u_icmp_ne (tgt := 390) h dL_refusesAny_307 (by decide) rfl (fun c43 => ?_) (fun c43 => ?_)
                                              · exact absurd c43 (by decide)
                                              · refine u_aload_n h dL_refusesAny_310 rfl 2 rfl rfl ?_
                                                refine u_iload_n h dL_refusesAny_311 rfl 1 rfl rfl ?_
                                                refine r_wouldLook h hT hC hw33 (nI (6 + (k % 99))) dL_refusesAny_312 rfl (Nat.le_of_ble_eq_true rfl) ?_
                                                refine u_top (y := (-1)) (lookA_no hno) ?_
                                                refine u_iconst (v := (-1)) h dL_refusesAny_315 (by decide) rfl ?_
                                                refine u_icmp_ne (tgt := 390) h dL_refusesAny_316 (by decide) rfl (fun c44 => ?_) (fun c44 => ?_)
                                                · exact absurd c44 (by decide)
                                                · refine u_aload_n h dL_refusesAny_319 rfl 2 rfl rfl ?_
                                                  refine u_iload_n h dL_refusesAny_320 rfl 1 rfl rfl ?_
                                                  refine r_wouldTouch h hT hC hw33 (nI (6 + (k % 99))) dL_refusesAny_321 rfl (Nat.le_of_ble_eq_true rfl) ?_
                                                  refine u_top (y := (-1)) (touchA_no hno) ?_
                                                  refine u_iconst (v := (-1)) h dL_refusesAny_324 (by decide) rfl ?_
                                                  refine u_icmp_ne (tgt := 390) h dL_refusesAny_325 (by decide) rfl (fun c45 => ?_) (fun c45 => ?_)
                                                  · exact absurd c45 (by decide)
                                                  · refine u_aload_n h dL_refusesAny_328 rfl 2 rfl rfl ?_
                                                    refine u_iload_n h dL_refusesAny_329 rfl 1 rfl rfl ?_
                                                    refine u_iconst (v := 0) h dL_refusesAny_330 (by decide) rfl ?_
                                                    refine u_bipush (v := 9) h dL_refusesAny_331 (by decide) rfl ?_
                                                    refine r_orders h hT hC hw33 (nI (6 + (k % 99))) 0 9 (okO_no1 hno) dL_refusesAny_333 rfl (Nat.le_of_ble_eq_true rfl) (fun w46 hw47 => ?_)
                                                    refine u_top (y := (-1)) (if_pos (Or.inl hno)) ?_
                                                    refine u_iconst (v := (-1)) h dL_refusesAny_336 (by decide) rfl ?_
                                                    refine u_icmp_ne (tgt := 390) h dL_refusesAny_337 (by decide) rfl (fun c48 => ?_) (fun c48 => ?_)
                                                    · exact absurd c48 (by decide)
                                                    · refine u_aload_n h dL_refusesAny_340 rfl 2 rfl rfl ?_
                                                      refine u_iconst (v := 0) h dL_refusesAny_341 (by decide) rfl ?_
                                                      refine u_iload_n h dL_refusesAny_342 rfl 1 rfl rfl ?_
                                                      refine u_bipush (v := 9) h dL_refusesAny_343 (by decide) rfl ?_
                                                      refine r_orders h hT hC hw47 0 (nI (6 + (k % 99))) 9 (okO_no2 hno) dL_refusesAny_345 rfl (Nat.le_of_ble_eq_true rfl) (fun w49 hw50 => ?_)
                                                      refine u_top (y := (-1)) (if_pos (Or.inr hno)) ?_
                                                      refine u_iconst (v := (-1)) h dL_refusesAny_348 (by decide) rfl ?_
                                                      refine u_icmp_ne (tgt := 390) h dL_refusesAny_349 (by decide) rfl (fun c51 => ?_) (fun c51 => ?_)
                                                      · exact absurd c51 (by decide)
                                                      · refine u_aload_n h dL_refusesAny_352 rfl 2 rfl rfl ?_
                                                        refine u_iconst (v := 1) h dL_refusesAny_353 (by decide) rfl ?_
                                                        refine u_iconst (v := 1) h dL_refusesAny_354 (by decide) rfl ?_
                                                        refine u_iconst (v := 0) h dL_refusesAny_355 (by decide) rfl ?_
                                                        refine r_orders h hT hC hw50 1 1 0 rfl dL_refusesAny_356 rfl (Nat.le_of_ble_eq_true rfl) (fun w52 hw53 => ?_)
                                                        refine u_top (y := (-2)) (rfl) ?_
                                                        refine u_bipush (v := (-2)) h dL_refusesAny_359 (by decide) rfl ?_
                                                        refine u_icmp_ne (tgt := 390) h dL_refusesAny_361 (by decide) rfl (fun c54 => ?_) (fun c54 => ?_)
                                                        · exact absurd c54 (by decide)
                                                        · refine u_aload_n h dL_refusesAny_364 rfl 2 rfl rfl ?_
                                                          refine u_iconst (v := 0) h dL_refusesAny_365 (by decide) rfl ?_
                                                          refine u_iconst (v := 1) h dL_refusesAny_366 (by decide) rfl ?_
                                                          refine u_iload_n h dL_refusesAny_367 rfl 3 rfl rfl ?_
                                                          refine u_iconst (v := 2) h dL_refusesAny_368 (by decide) rfl ?_
                                                          refine u_irem (v := (nI (k % 2))) h dL_refusesAny_369 (by decide) (pk_rem (a := k) (d := 2) (by omega) (by omega) (by omega)) rfl ?_
                                                          refine u_if_ne_N (a := (k % 2)) (tgt := 377) h dL_refusesAny_370 (by decide) (by omega) rfl (fun c55 => ?_) (fun c55 => ?_)
                                                          · refine u_iconst (v := 3) h dL_refusesAny_377 (by decide) rfl ?_
                                                            refine r_orders h hT hC hw53 0 1 3 rfl dL_refusesAny_378 rfl (Nat.le_of_ble_eq_true rfl) (fun w56 hw57 => ?_)
                                                            refine u_top (y := (-2)) (rfl) ?_
                                                            refine u_bipush (v := (-2)) h dL_refusesAny_381 (by decide) rfl ?_
                                                            refine u_icmp_ne (tgt := 390) h dL_refusesAny_383 (by decide) rfl (fun c58 => ?_) (fun c58 => ?_)
                                                            · exact absurd c58 (by decide)
                                                            · refine u_iconst (v := 1) h dL_refusesAny_386 (by decide) rfl ?_
                                                              refine u_goto (tgt := 391) h dL_refusesAny_387 (by decide) ?_
                                                              refine u_istore_n (lv' := [(3, .int 1), (2, .int (nI (6 + (k % 99)))), (0, .ref x0), (1, .int (nI k))]) h dL_refusesAny_391 rfl (by rw [hL]; decide) rfl rfl ?_
                                                              refine u_iload_n h dL_refusesAny_392 rfl 0 rfl rfl ?_
                                                              refine u_if_eq_N (a := 1) (tgt := 416) h dL_refusesAny_393 (by decide) (by omega) rfl (fun c59 => ?_) (fun c59 => ?_)
                                                              · exact absurd c59 (by decide)
                                                              · refine u_aload_n h dL_refusesAny_396 rfl 2 rfl rfl ?_
                                                                refine r_clearText h hT hC hw57 dL_refusesAny_397 rfl (Nat.le_of_ble_eq_true rfl) (fun w60 hw61 => ?_)
                                                                refine u_top (y := 0) (rfl) ?_
                                                                refine u_if_ne_N (a := 0) (tgt := 416) h dL_refusesAny_400 (by decide) (by omega) rfl (fun c62 => ?_) (fun c62 => ?_)
                                                                · exact absurd c62 (by decide)
                                                                · refine u_aload_n h dL_refusesAny_403 rfl 2 rfl rfl ?_
                                                                  refine r_perform h hT hC hw61 dL_refusesAny_404 rfl (Nat.le_of_ble_eq_true rfl) (fun w63 hw64 => ?_)
                                                                  refine u_top (y := (-100)) (rfl) ?_
                                                                  refine u_bipush (v := (-100)) h dL_refusesAny_407 (by decide) rfl ?_
                                                                  refine u_icmp_ne (tgt := 416) h dL_refusesAny_409 (by decide) rfl (fun c65 => ?_) (fun c65 => ?_)
                                                                  · exact absurd c65 (by decide)
                                                                  · refine u_iconst (v := 1) h dL_refusesAny_412 (by decide) rfl ?_
                                                                    refine u_goto (tgt := 417) h dL_refusesAny_413 (by decide) ?_
                                                                    exact u_zret h hRT dL_refusesAny_417 rfl (Nat.le_refl _) (Nat.le_refl _) ⟨rfl, hw64⟩
                                                          · exact absurd (hp.symm.trans c55) (by decide)
                                            · exact absurd (hp.symm.trans c42) (by decide)
                                        · exact absurd (hp.symm.trans c40) (by decide)
                                · exact absurd (hp.symm.trans c36) (by decide)
                          refine u_if_gt (tgt := 195) h dL_refusesAny_176 (by decide) rfl (fun c66 => ?_) (fun c66 => ?_)
                          · exact J31 _ hw29
                          · refine u_aload_n h dL_refusesAny_179 rfl 1 rfl rfl ?_
                            refine r_finish h hT hC hw29 0 (fun q9 => absurd ((okF_no (cnt_nul c66)).symm.trans q9) (by decide)) dL_refusesAny_180 rfl (Nat.le_of_ble_eq_true rfl) (fun w67 hw68 => ?_)
                            have hw68 := hw68.no (okF_no (cnt_nul c66))
                            refine u_top (y := (-5)) (finishA_no (cnt_nul c66)) ?_
                            refine u_bipush (v := (-5)) h dL_refusesAny_183 (by decide) rfl ?_
                            refine u_icmp_ne (tgt := 199) h dL_refusesAny_185 (by decide) rfl (fun c69 => ?_) (fun c69 => ?_)
                            · exact absurd c69 (by decide)
                            · refine u_aload_n h dL_refusesAny_188 rfl 1 rfl rfl ?_
                              refine r_stepsToFinish h hT hC hw68 N hN dL_refusesAny_189 rfl (Nat.le_of_ble_eq_true rfl) (fun w70 hw71 => ?_)
                              refine u_top (y := 0) (finA_no hN (cnt_nul c66)) ?_
                              refine u_if_ne_N (a := 0) (tgt := 199) h dL_refusesAny_192 (by decide) (by omega) rfl (fun c72 => ?_) (fun c72 => ?_)
                              · exact absurd c72 (by decide)
                              · exact J31 _ hw71
                  · exact absurd (hp.symm.trans c21) (by decide)
        refine u_if_eq (tgt := 72) h dL_refusesAny_57 (by decide) rfl (fun c73 => ?_) (fun c73 => ?_)
        · exact J6 _ hw4
        · refine u_aload_n h dL_refusesAny_60 rfl 1 rfl rfl ?_
          refine u_iload_n h dL_refusesAny_61 rfl 2 rfl rfl ?_
          refine u_iconst (v := 4) h dL_refusesAny_62 (by decide) rfl ?_
          refine u_irem (v := (nI (k % 4))) h dL_refusesAny_63 (by decide) (pk_rem (a := k) (d := 4) (by omega) (by omega) (by omega)) rfl ?_
          refine r_build h hT hC hw4 (nI (k % 4)) dL_refusesAny_64 rfl (Nat.le_of_ble_eq_true rfl) (fun w74 hw75 => ?_)
          have hw75 := hw75.no (okB_not (cnt_ne c73))
          refine u_top (y := (-4)) (buildA_not (by omega) (cnt_ne c73)) ?_
          refine u_bipush (v := (-4)) h dL_refusesAny_67 (by decide) rfl ?_
          refine u_icmp_ne (tgt := 199) h dL_refusesAny_69 (by decide) rfl (fun c76 => ?_) (fun c76 => ?_)
          · exact absurd c76 (by decide)
          · exact J6 _ hw75
    · exact absurd (hp.symm.trans c2) (by decide)
  · exact absurd (hp.symm.trans c1) (by decide)
theorem lk_refusesAny {G : Gx} {x0 : Nat} {z : Zf} {r : Nat} {hz : Nat → Zf} {kb : Bool} {zp : Zf} {w : va_W} (hw : IsO G x0 z r hz kb zp w) {k : Nat} (hk : k < 2 ^ 31) : MC G yL_refusesAny sL_refusesAny rA [.ref x0, .int (nI k)] w (fun v' u' => v' = some (.int 1) ∧ IsO G x0 z r hz kb zp u') 0 0 := by
  rcases (show k % 2 = 0 ∨ k % 2 = 1 by omega) with e | e
  · exact lk_refusesAny0 hw hk e
  · exact lk_refusesAny1 hw hk e
set_option maxHeartbeats 8000000 in
set_option maxRecDepth 100000 in
/-- refuses -/
theorem lk_refuses {G : Gx} {x0 : Nat} {z : Zf} {r : Nat} {hz : Nat → Zf} {kb : Bool} {zp : Zf} {w : va_W} (hw : IsO G x0 z r hz kb zp w) {k : Nat} (hk : k < 2 ^ 31) : MC G yL_refuses sL_refuses rB [.ref x0, .int (nI k)] w (fun v' u' => v' = some (.int 1) ∧ IsO G x0 z r hz kb zp u') 0 0 := by
  refine mc_of (cc := cL_refuses) (maxL := 5) (ret := (some .boolean)) (by decide) rfl (Nat.le_of_ble_eq_true rfl) (fun X h hR hL hRT => ?_)
  have hT : ∀ q ∈ gT, q ∈ sL_refuses := fun q h9 => lwS_in h9
  have hC : LC X 0 0 := by unfold LC; rw [hR]; decide
  refine u_eql (lv' := [(0, .ref x0), (1, .int (nI k))]) rfl ?_
  have hr := hw.r
  refine u_aload_n h dL_refuses_0 rfl 0 rfl rfl ?_
  refine u_own h (n := 1) (As := [.ref x0]) (lk_seen hw) ⟨gIn_to glL_69 hT, ⟨_, rfl⟩, by decide +kernel, by decide, by decide⟩ rfl rfl ⟨⟨rfl, rfl⟩, by rw [hR]; decide, by rw [hR]; decide⟩ ⟨Nat.zero_le _, Nat.zero_le _⟩ (Nat.le_of_ble_eq_true rfl) rfl dL_refuses_1 rfl (fun v9 u9 hp9 => ?_)
  obtain ⟨rfl, rfl⟩ := hp9
  refine u_eqs (st' := [.long (seenZ z)]) rfl ?_
  refine u_lstore_n (lv' := [(2, .long (seenZ z)), (0, .ref x0), (1, .int (nI k))]) h dL_refuses_4 rfl (by rw [hL]; decide) rfl rfl ?_
  refine u_aload_n h dL_refuses_5 rfl 1 rfl rfl ?_
  refine u_bipush (v := 13) h dL_refuses_6 (by decide) rfl ?_
  refine r_total h hT hC hw 13 dL_refuses_8 rfl (Nat.le_of_ble_eq_true rfl) ?_
  refine u_top (y := (nI r)) (totA_13 z r 0) ?_
  refine u_istore (lv' := [(4, .int (nI r)), (2, .long (seenZ z)), (0, .ref x0), (1, .int (nI k))]) h dL_refuses_11 (by rw [hL]; decide) rfl rfl ?_
  refine u_aload_n h dL_refuses_13 rfl 2 rfl rfl ?_
  refine u_iload_n h dL_refuses_14 rfl 3 rfl rfl ?_
  refine u_own h (n := 2) (As := [.ref x0, .int (nI k)]) (lk_refusesAny hw hk) ⟨gIn_to glL_73 hT, ⟨_, rfl⟩, by decide +kernel, by decide, by decide⟩ rfl rfl ⟨⟨rfl, rfl⟩, by rw [hR]; decide, by rw [hR]; decide⟩ ⟨Nat.zero_le _, Nat.zero_le _⟩ (Nat.le_of_ble_eq_true rfl) rfl dL_refuses_15 rfl (fun v9 w1 hp9 => ?_)
  obtain ⟨rfl, hw2⟩ := hp9
  refine u_eqs (st' := [.int 1]) rfl ?_
  refine u_if_eq_N (a := 1) (tgt := 45) h dL_refuses_18 (by decide) (by omega) rfl (fun c3 => ?_) (fun c3 => ?_)
  · exact absurd c3 (by decide)
  · refine u_aload_n h dL_refuses_21 rfl 2 rfl rfl ?_
    refine u_own h (n := 1) (As := [.ref x0]) (lk_seen hw2) ⟨gIn_to glL_69 hT, ⟨_, rfl⟩, by decide +kernel, by decide, by decide⟩ rfl rfl ⟨⟨rfl, rfl⟩, by rw [hR]; decide, by rw [hR]; decide⟩ ⟨Nat.zero_le _, Nat.zero_le _⟩ (Nat.le_of_ble_eq_true rfl) rfl dL_refuses_22 rfl (fun v9 u9 hp9 => ?_)
    obtain ⟨rfl, rfl⟩ := hp9
    refine u_eqs (st' := [.long (seenZ z)]) rfl ?_
    refine u_lload_n h dL_refuses_25 rfl 1 rfl rfl ?_
    refine u_lcmpE h rfl dL_refuses_26 rfl ?_
    refine u_if_ne_N (a := 0) (tgt := 45) h dL_refuses_27 (by decide) (by omega) rfl (fun c4 => ?_) (fun c4 => ?_)
    · exact absurd c4 (by decide)
    · refine u_aload_n h dL_refuses_30 rfl 2 rfl rfl ?_
      refine u_bipush (v := 13) h dL_refuses_31 (by decide) rfl ?_
      refine r_total h hT hC hw2 13 dL_refuses_33 rfl (Nat.le_of_ble_eq_true rfl) ?_
      refine u_top (y := (nI r)) (totA_13 z r 0) ?_
      refine u_iload h dL_refuses_36 0 rfl rfl ?_
      refine u_icmp_ne_N (a := r) (b := r) (tgt := 45) h dL_refuses_38 (by decide) (by omega) (by omega) rfl (fun c5 => ?_) (fun c5 => ?_)
      · exact absurd rfl c5
      · refine u_iconst (v := 1) h dL_refuses_41 (by decide) rfl ?_
        refine u_goto (tgt := 46) h dL_refuses_42 (by decide) ?_
        exact u_zret h hRT dL_refuses_46 rfl (Nat.le_refl _) (Nat.le_refl _) ⟨rfl, hw2⟩
