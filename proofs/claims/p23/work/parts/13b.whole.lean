set_option maxHeartbeats 8000000 in
set_option maxRecDepth 100000 in
/-- isWhole -/
theorem lk_isWhole {G : Gx} {x0 : Nat} {z : Zf} {r : Nat} {hz : Nat → Zf} {kb : Bool} {zp : Zf} {w : va_W} (hw : IsO G x0 z r hz kb zp w) {B : Nat} (hG : G3 z) (hCt : Ct z B) (hB : B < 2 ^ 31) : MC G yL_isWhole sL_isWhole rA [.ref x0] w (fun v' u' => v' = some (.int 1) ∧ u' = w) 0 0 := by
  refine mc_of (cc := cL_isWhole) (maxL := 14) (ret := (some .boolean)) (by decide) rfl (Nat.le_of_ble_eq_true rfl) (fun X h hR hL hRT => ?_)
  have hT : ∀ q ∈ gT, q ∈ sL_isWhole := fun q h9 => lwS_in h9
  have hC : LC X 0 0 := by unfold LC; rw [hR]; decide
  refine u_eql (lv' := [(0, .ref x0)]) rfl ?_
  have hI := hw.i
  refine u_aload_n h dL_isWhole_0 rfl 0 rfl rfl ?_
  refine u_iconst (v := 0) h dL_isWhole_1 (by decide) rfl ?_
  refine r_total h hT hC hw 0 dL_isWhole_2 rfl (Nat.le_of_ble_eq_true rfl) ?_
  refine u_top (y := (z 60)) (totA_0 z r 0) ?_
  refine u_istore_n (lv' := [(1, .int (z 60)), (0, .ref x0)]) h dL_isWhole_5 rfl (by rw [hL]; decide) rfl rfl ?_
  refine u_iconst (v := 0) h dL_isWhole_6 (by decide) rfl ?_
  refine u_istore_n (lv' := [(2, .int 0), (1, .int (z 60)), (0, .ref x0)]) h dL_isWhole_7 rfl (by rw [hL]; decide) rfl rfl ?_
  refine u_iconst (v := 0) h dL_isWhole_8 (by decide) rfl ?_
  refine u_istore_n (lv' := [(3, .int 0), (2, .int 0), (1, .int (z 60)), (0, .ref x0)]) h dL_isWhole_9 rfl (by rw [hL]; decide) rfl rfl ?_
  refine u_iconst (v := 0) h dL_isWhole_10 (by decide) rfl ?_
  refine u_istore (lv' := [(4, .int 0), (3, .int 0), (2, .int 0), (1, .int (z 60)), (0, .ref x0)]) h dL_isWhole_11 (by rw [hL]; decide) rfl rfl ?_
  refine u_iconst (v := 0) h dL_isWhole_13 (by decide) rfl ?_
  refine u_istore (lv' := [(5, .int 0), (4, .int 0), (3, .int 0), (2, .int 0), (1, .int (z 60)), (0, .ref x0)]) h dL_isWhole_14 (by rw [hL]; decide) rfl rfl ?_
  refine u_iconst (v := 0) h dL_isWhole_16 (by decide) rfl ?_
  refine u_istore (lv' := [(6, .int 0), (5, .int 0), (4, .int 0), (3, .int 0), (2, .int 0), (1, .int (z 60)), (0, .ref x0)]) h dL_isWhole_17 (by rw [hL]; decide) rfl rfl ?_
  refine u_iconst (v := 0) h dL_isWhole_19 (by decide) rfl ?_
  refine u_istore (lv' := [(7, .int 0), (6, .int 0), (5, .int 0), (4, .int 0), (3, .int 0), (2, .int 0), (1, .int (z 60)), (0, .ref x0)]) h dL_isWhole_20 (by rw [hL]; decide) rfl rfl ?_
  refine u_iconst (v := 0) h dL_isWhole_22 (by decide) rfl ?_
  refine u_istore (lv' := [(8, .int 0), (7, .int 0), (6, .int 0), (5, .int 0), (4, .int 0), (3, .int 0), (2, .int 0), (1, .int (z 60)), (0, .ref x0)]) h dL_isWhole_23 (by rw [hL]; decide) rfl rfl ?_
  refine u_iconst (v := 1) h dL_isWhole_25 (by decide) rfl ?_
  refine u_istore (lv' := [(9, .int 1), (8, .int 0), (7, .int 0), (6, .int 0), (5, .int 0), (4, .int 0), (3, .int 0), (2, .int 0), (1, .int (z 60)), (0, .ref x0)]) h dL_isWhole_26 (by rw [hL]; decide) rfl rfl ?_
  refine u_iconst (v := 0) h dL_isWhole_28 (by decide) rfl ?_
  refine u_istore (lv' := [(10, .int 0), (9, .int 1), (8, .int 0), (7, .int 0), (6, .int 0), (5, .int 0), (4, .int 0), (3, .int 0), (2, .int 0), (1, .int (z 60)), (0, .ref x0)]) h dL_isWhole_29 (by rw [hL]; decide) rfl rfl ?_
  have Lw : ∀ (k9 : Nat) (v : Nat), 6 - v = k9 → (v ≤ 6) → U G X 0 0 w 31 [(10, .int (nI v)), (9, .int 1), (8, .int (lnM z v)), (7, .int (sumZ z 80 v)), (6, .int (sumZ z 74 v)), (5, .int (sumZ z 68 v)), (4, .int (sumZ z 62 v)), (3, .int (atM z 0 v)), (2, .int (atM z 4 v)), (1, .int (z 60)), (0, .ref x0)] [] := by
    intro k9
    induction k9 using Nat.strongRecOn with
    | _ k9 ihw =>
      intro v hk9 hv6
      subst hk9
      refine u_iload h dL_isWhole_31 0 rfl rfl ?_
      refine u_bipush (v := 6) h dL_isWhole_33 (by decide) rfl ?_
      refine u_icmp_ge_N (a := v) (b := 6) (tgt := 327) h dL_isWhole_35 (by decide) (by omega) (by omega) rfl (fun c1 => ?_) (fun c1 => ?_)
      · have ev : v = 6 := by omega
        subst ev
        refine u_eql (lv' := [(10, .int 6), (9, .int 1), (8, .int (lnM z 6)), (7, .int (sumZ z 80 6)), (6, .int (sumZ z 74 6)), (5, .int (sumZ z 68 6)), (4, .int (sumZ z 62 6)), (3, .int (atM z 0 6)), (2, .int (atM z 4 6)), (1, .int (z 60)), (0, .ref x0)]) rfl ?_
        rcases ins_at hI hG with ⟨e4, ei⟩ | ⟨e4, u, hu, ei⟩
        · refine u_eql (lv' := [(10, .int 6), (9, .int 1), (8, .int (lnM z 6)), (7, .int (sumZ z 80 6)), (6, .int (sumZ z 74 6)), (5, .int (sumZ z 68 6)), (4, .int (sumZ z 62 6)), (3, .int (atM z 0 6)), (2, .int 0), (1, .int (z 60)), (0, .ref x0)]) (by rw [e4]) ?_
          refine u_iload h dL_isWhole_327 1 rfl rfl ?_
          refine u_if_eq_N (a := 1) (tgt := 433) h dL_isWhole_329 (by decide) (by omega) rfl (fun c2 => ?_) (fun c2 => ?_)
          · exact absurd c2 (by decide)
          · refine u_iload_n h dL_isWhole_332 rfl 8 rfl rfl ?_
            refine u_iconst (v := 1) h dL_isWhole_333 (by decide) rfl ?_
            refine u_icmp_gt_N (a := 0) (b := 1) (tgt := 433) h dL_isWhole_334 (by decide) (by omega) (by omega) rfl (fun c3 => ?_) (fun c3 => ?_)
            · exact absurd c3 (by decide)
            · refine u_iload_n h dL_isWhole_337 rfl 8 rfl rfl ?_
              refine u_iconst (v := 1) h dL_isWhole_338 (by decide) rfl ?_
              refine u_icmp_ne_N (a := 0) (b := 1) (tgt := 346) h dL_isWhole_339 (by decide) (by omega) (by omega) rfl (fun c4 => ?_) (fun c4 => ?_)
              · refine u_iconst (v := 0) h dL_isWhole_346 (by decide) rfl ?_
                refine u_aload_n h dL_isWhole_347 rfl 10 rfl rfl ?_
                refine u_iconst (v := 1) h dL_isWhole_348 (by decide) rfl ?_
                refine r_total h hT hC hw 1 dL_isWhole_349 rfl (Nat.le_of_ble_eq_true rfl) ?_
                refine u_top (y := (-5)) ((totA_1 z r 0).trans ei) ?_
                refine u_if_lt (tgt := 359) h dL_isWhole_352 (by decide) rfl (fun c5 => ?_) (fun c5 => ?_)
                · refine u_iconst (v := 0) h dL_isWhole_359 (by decide) rfl ?_
                  refine u_icmp_ne_N (a := 0) (b := 0) (tgt := 433) h dL_isWhole_360 (by decide) (by omega) (by omega) rfl (fun c6 => ?_) (fun c6 => ?_)
                  · exact absurd c6 (by decide)
                  · refine u_aload_n h dL_isWhole_363 rfl 10 rfl rfl ?_
                    refine u_iconst (v := 3) h dL_isWhole_364 (by decide) rfl ?_
                    refine r_total h hT hC hw 3 dL_isWhole_365 rfl (Nat.le_of_ble_eq_true rfl) ?_
                    refine u_top (y := (cntZ z 6)) (totA_3 z r 0) ?_
                    refine u_bipush (v := 6) h dL_isWhole_368 (by decide) rfl ?_
                    refine u_iload_n h dL_isWhole_370 rfl 7 rfl rfl ?_
                    refine u_isub (v := (6 - (atM z 0 6))) h dL_isWhole_371 rfl rfl ?_
                    refine u_top (y := (cntZ z 6)) (cnt_6 z).symm ?_
                    refine u_icmp_ne (tgt := 433) h dL_isWhole_372 (by decide) rfl (fun c7 => ?_) (fun c7 => ?_)
                    · exact absurd rfl c7
                    · refine u_aload_n h dL_isWhole_375 rfl 10 rfl rfl ?_
                      refine u_iload h dL_isWhole_376 2 rfl rfl ?_
                      refine r_inLine h hT hC hw (lnM z 6) dL_isWhole_378 rfl (Nat.le_of_ble_eq_true rfl) ?_
                      refine u_top (y := (-5)) (lineA_end hI) ?_
                      refine u_bipush (v := (-5)) h dL_isWhole_381 (by decide) rfl ?_
                      refine u_icmp_ne (tgt := 433) h dL_isWhole_383 (by decide) rfl (fun c8 => ?_) (fun c8 => ?_)
                      · exact absurd c8 (by decide)
                      · refine u_aload_n h dL_isWhole_386 rfl 10 rfl rfl ?_
                        refine u_iconst (v := 5) h dL_isWhole_387 (by decide) rfl ?_
                        refine r_total h hT hC hw 5 dL_isWhole_388 rfl (Nat.le_of_ble_eq_true rfl) ?_
                        refine u_top (y := (sumZ z 62 6)) (totA_5 z r 0) ?_
                        refine u_iload h dL_isWhole_391 6 rfl rfl ?_
                        refine u_icmp_ne (tgt := 433) h dL_isWhole_393 (by decide) rfl (fun c9 => ?_) (fun c9 => ?_)
                        · exact absurd rfl c9
                        · refine u_aload_n h dL_isWhole_396 rfl 10 rfl rfl ?_
                          refine u_bipush (v := 6) h dL_isWhole_397 (by decide) rfl ?_
                          refine r_total h hT hC hw 6 dL_isWhole_399 rfl (Nat.le_of_ble_eq_true rfl) ?_
                          refine u_top (y := (sumZ z 68 6)) (totA_6 z r 0) ?_
                          refine u_iload h dL_isWhole_402 5 rfl rfl ?_
                          refine u_icmp_ne (tgt := 433) h dL_isWhole_404 (by decide) rfl (fun c10 => ?_) (fun c10 => ?_)
                          · exact absurd rfl c10
                          · refine u_aload_n h dL_isWhole_407 rfl 10 rfl rfl ?_
                            refine u_bipush (v := 7) h dL_isWhole_408 (by decide) rfl ?_
                            refine r_total h hT hC hw 7 dL_isWhole_410 rfl (Nat.le_of_ble_eq_true rfl) ?_
                            refine u_top (y := (sumZ z 74 6)) (totA_7 z r 0) ?_
                            refine u_iload h dL_isWhole_413 4 rfl rfl ?_
                            refine u_icmp_ne (tgt := 433) h dL_isWhole_415 (by decide) rfl (fun c11 => ?_) (fun c11 => ?_)
                            · exact absurd rfl c11
                            · refine u_aload_n h dL_isWhole_418 rfl 10 rfl rfl ?_
                              refine u_bipush (v := 8) h dL_isWhole_419 (by decide) rfl ?_
                              refine r_total h hT hC hw 8 dL_isWhole_421 rfl (Nat.le_of_ble_eq_true rfl) ?_
                              refine u_top (y := (sumZ z 80 6)) (totA_8 z r 0) ?_
                              refine u_iload h dL_isWhole_424 3 rfl rfl ?_
                              refine u_icmp_ne (tgt := 433) h dL_isWhole_426 (by decide) rfl (fun c12 => ?_) (fun c12 => ?_)
                              · exact absurd rfl c12
                              · refine u_iconst (v := 1) h dL_isWhole_429 (by decide) rfl ?_
                                refine u_goto (tgt := 434) h dL_isWhole_430 (by decide) ?_
                                exact u_zret h hRT dL_isWhole_434 rfl (Nat.le_refl _) (Nat.le_refl _) ⟨rfl, rfl⟩
                · exact absurd c5 (by decide)
              · exact absurd c4 (by decide)
        · refine u_eql (lv' := [(10, .int 6), (9, .int 1), (8, .int (lnM z 6)), (7, .int (sumZ z 80 6)), (6, .int (sumZ z 74 6)), (5, .int (sumZ z 68 6)), (4, .int (sumZ z 62 6)), (3, .int (atM z 0 6)), (2, .int 1), (1, .int (z 60)), (0, .ref x0)]) (by rw [e4]) ?_
          refine u_iload h dL_isWhole_327 1 rfl rfl ?_
          refine u_if_eq_N (a := 1) (tgt := 433) h dL_isWhole_329 (by decide) (by omega) rfl (fun c13 => ?_) (fun c13 => ?_)
          · exact absurd c13 (by decide)
          · refine u_iload_n h dL_isWhole_332 rfl 8 rfl rfl ?_
            refine u_iconst (v := 1) h dL_isWhole_333 (by decide) rfl ?_
            refine u_icmp_gt_N (a := 1) (b := 1) (tgt := 433) h dL_isWhole_334 (by decide) (by omega) (by omega) rfl (fun c14 => ?_) (fun c14 => ?_)
            · exact absurd c14 (by decide)
            · refine u_iload_n h dL_isWhole_337 rfl 8 rfl rfl ?_
              refine u_iconst (v := 1) h dL_isWhole_338 (by decide) rfl ?_
              refine u_icmp_ne_N (a := 1) (b := 1) (tgt := 346) h dL_isWhole_339 (by decide) (by omega) (by omega) rfl (fun c15 => ?_) (fun c15 => ?_)
              · exact absurd c15 (by decide)
              · refine u_iconst (v := 1) h dL_isWhole_342 (by decide) rfl ?_
                refine u_goto (tgt := 347) h dL_isWhole_343 (by decide) ?_
                refine u_aload_n h dL_isWhole_347 rfl 10 rfl rfl ?_
                refine u_iconst (v := 1) h dL_isWhole_348 (by decide) rfl ?_
                refine r_total h hT hC hw 1 dL_isWhole_349 rfl (Nat.le_of_ble_eq_true rfl) ?_
                refine u_top (y := (nI u)) ((totA_1 z r 0).trans ei) ?_
                refine u_if_lt_N (a := u) (tgt := 359) h dL_isWhole_352 (by decide) (by omega) rfl (fun c16 => ?_) (fun c16 => ?_)
                · exact absurd c16 (Nat.not_lt_zero _)
                · refine u_iconst (v := 1) h dL_isWhole_355 (by decide) rfl ?_
                  refine u_goto (tgt := 360) h dL_isWhole_356 (by decide) ?_
                  refine u_icmp_ne_N (a := 1) (b := 1) (tgt := 433) h dL_isWhole_360 (by decide) (by omega) (by omega) rfl (fun c17 => ?_) (fun c17 => ?_)
                  · exact absurd c17 (by decide)
                  · refine u_aload_n h dL_isWhole_363 rfl 10 rfl rfl ?_
                    refine u_iconst (v := 3) h dL_isWhole_364 (by decide) rfl ?_
                    refine r_total h hT hC hw 3 dL_isWhole_365 rfl (Nat.le_of_ble_eq_true rfl) ?_
                    refine u_top (y := (cntZ z 6)) (totA_3 z r 0) ?_
                    refine u_bipush (v := 6) h dL_isWhole_368 (by decide) rfl ?_
                    refine u_iload_n h dL_isWhole_370 rfl 7 rfl rfl ?_
                    refine u_isub (v := (6 - (atM z 0 6))) h dL_isWhole_371 rfl rfl ?_
                    refine u_top (y := (cntZ z 6)) (cnt_6 z).symm ?_
                    refine u_icmp_ne (tgt := 433) h dL_isWhole_372 (by decide) rfl (fun c18 => ?_) (fun c18 => ?_)
                    · exact absurd rfl c18
                    · refine u_aload_n h dL_isWhole_375 rfl 10 rfl rfl ?_
                      refine u_iload h dL_isWhole_376 2 rfl rfl ?_
                      refine r_inLine h hT hC hw (lnM z 6) dL_isWhole_378 rfl (Nat.le_of_ble_eq_true rfl) ?_
                      refine u_top (y := (-5)) (lineA_end hI) ?_
                      refine u_bipush (v := (-5)) h dL_isWhole_381 (by decide) rfl ?_
                      refine u_icmp_ne (tgt := 433) h dL_isWhole_383 (by decide) rfl (fun c19 => ?_) (fun c19 => ?_)
                      · exact absurd c19 (by decide)
                      · refine u_aload_n h dL_isWhole_386 rfl 10 rfl rfl ?_
                        refine u_iconst (v := 5) h dL_isWhole_387 (by decide) rfl ?_
                        refine r_total h hT hC hw 5 dL_isWhole_388 rfl (Nat.le_of_ble_eq_true rfl) ?_
                        refine u_top (y := (sumZ z 62 6)) (totA_5 z r 0) ?_
                        refine u_iload h dL_isWhole_391 6 rfl rfl ?_
                        refine u_icmp_ne (tgt := 433) h dL_isWhole_393 (by decide) rfl (fun c20 => ?_) (fun c20 => ?_)
                        · exact absurd rfl c20
                        · refine u_aload_n h dL_isWhole_396 rfl 10 rfl rfl ?_
                          refine u_bipush (v := 6) h dL_isWhole_397 (by decide) rfl ?_
                          refine r_total h hT hC hw 6 dL_isWhole_399 rfl (Nat.le_of_ble_eq_true rfl) ?_
                          refine u_top (y := (sumZ z 68 6)) (totA_6 z r 0) ?_
                          refine u_iload h dL_isWhole_402 5 rfl rfl ?_
                          refine u_icmp_ne (tgt := 433) h dL_isWhole_404 (by decide) rfl (fun c21 => ?_) (fun c21 => ?_)
                          · exact absurd rfl c21
                          · refine u_aload_n h dL_isWhole_407 rfl 10 rfl rfl ?_
                            refine u_bipush (v := 7) h dL_isWhole_408 (by decide) rfl ?_
                            refine r_total h hT hC hw 7 dL_isWhole_410 rfl (Nat.le_of_ble_eq_true rfl) ?_
                            refine u_top (y := (sumZ z 74 6)) (totA_7 z r 0) ?_
                            refine u_iload h dL_isWhole_413 4 rfl rfl ?_
                            refine u_icmp_ne (tgt := 433) h dL_isWhole_415 (by decide) rfl (fun c22 => ?_) (fun c22 => ?_)
                            · exact absurd rfl c22
                            · refine u_aload_n h dL_isWhole_418 rfl 10 rfl rfl ?_
                              refine u_bipush (v := 8) h dL_isWhole_419 (by decide) rfl ?_
                              refine r_total h hT hC hw 8 dL_isWhole_421 rfl (Nat.le_of_ble_eq_true rfl) ?_
                              refine u_top (y := (sumZ z 80 6)) (totA_8 z r 0) ?_
                              refine u_iload h dL_isWhole_424 3 rfl rfl ?_
                              refine u_icmp_ne (tgt := 433) h dL_isWhole_426 (by decide) rfl (fun c23 => ?_) (fun c23 => ?_)
                              · exact absurd rfl c23
                              · refine u_iconst (v := 1) h dL_isWhole_429 (by decide) rfl ?_
                                refine u_goto (tgt := 434) h dL_isWhole_430 (by decide) ?_
                                exact u_zret h hRT dL_isWhole_434 rfl (Nat.le_refl _) (Nat.le_refl _) ⟨rfl, rfl⟩
      · refine u_iload h dL_isWhole_38 1 rfl rfl ?_
        refine u_if_eq_N (a := 1) (tgt := 327) h dL_isWhole_40 (by decide) (by omega) rfl (fun c24 => ?_) (fun c24 => ?_)
        · exact absurd c24 (by decide)
        · have hv : v < 6 := by omega
          obtain ⟨s, k, hs, hk, es, ek, hk0, hk2, hin, hcase⟩ := wh_v hI hG hv
          obtain ⟨st, lo, hlo, hst, est, elo⟩ := hCt v hv
          have hs4 : z v = 4 ↔ s = 4 := by rw [es]; exact nI_eq (b := 4) (by omega) (by omega)
          have hs0 : z v = 0 ↔ s = 0 := by rw [es]; exact nI_eq (b := 0) (by omega) (by omega)
          refine u_eql (lv' := [(10, .int (nI v)), (9, .int 1), (8, .int (lnM z v)), (7, .int (sumZ z 80 v)), (6, .int (sumZ z 74 v)), (5, .int (sumZ z 68 v)), (4, .int (sumZ z 62 v)), (3, .int (atM z 0 v)), (2, .int (atM z 4 v)), (1, .int (nI k)), (0, .ref x0)]) (by rw [ek]) ?_
          rcases hcase with ⟨hq, h3, h1, p, hp6, ep, eli, h4p, htk⟩ | ⟨hq, h31, ep⟩
          · refine u_aload_n h dL_isWhole_43 rfl 10 rfl rfl ?_
            refine u_iload h dL_isWhole_44 0 rfl rfl ?_
            refine u_iconst (v := 0) h dL_isWhole_46 (by decide) rfl ?_
            refine r_visitor h hT hC hw (nI v) 0 dL_isWhole_47 rfl (Nat.le_of_ble_eq_true rfl) ?_
            refine u_top (y := (nI s)) ((visA_0 z hv).trans es) ?_
            refine u_istore (lv' := [(11, .int (nI s)), (10, .int (nI v)), (9, .int 1), (8, .int (lnM z v)), (7, .int (sumZ z 80 v)), (6, .int (sumZ z 74 v)), (5, .int (sumZ z 68 v)), (4, .int (sumZ z 62 v)), (3, .int (atM z 0 v)), (2, .int (atM z 4 v)), (1, .int (nI k)), (0, .ref x0)]) h dL_isWhole_50 (by rw [hL]; decide) rfl rfl ?_
            refine u_aload_n h dL_isWhole_52 rfl 11 rfl rfl ?_
            refine u_iload h dL_isWhole_53 1 rfl rfl ?_
            refine u_bipush (v := 10) h dL_isWhole_55 (by decide) rfl ?_
            refine r_visitor h hT hC hw (nI v) 10 dL_isWhole_57 rfl (Nat.le_of_ble_eq_true rfl) ?_
            refine u_top (y := (nI p)) ((visA_10 z hv).trans ep) ?_
            refine u_istore (lv' := [(12, .int (nI p)), (11, .int (nI s)), (10, .int (nI v)), (9, .int 1), (8, .int (lnM z v)), (7, .int (sumZ z 80 v)), (6, .int (sumZ z 74 v)), (5, .int (sumZ z 68 v)), (4, .int (sumZ z 62 v)), (3, .int (atM z 0 v)), (2, .int (atM z 4 v)), (1, .int (nI k)), (0, .ref x0)]) h dL_isWhole_60 (by rw [hL]; decide) rfl rfl ?_
            refine u_iload_n h dL_isWhole_62 rfl 11 rfl rfl ?_
            refine u_iconst (v := 3) h dL_isWhole_63 (by decide) rfl ?_
            have J25 : ∀ x26 : Int32, x26 = 1 → U G X 0 0 w 78 [(12, .int (nI p)), (11, .int (nI s)), (10, .int (nI v)), (9, .int 1), (8, .int (lnM z v)), (7, .int (sumZ z 80 v)), (6, .int (sumZ z 74 v)), (5, .int (sumZ z 68 v)), (4, .int (sumZ z 62 v)), (3, .int (atM z 0 v)), (2, .int (atM z 4 v)), (1, .int (nI k)), (0, .ref x0)] [.int x26] := by
              intro x26 e9
              subst e9
              refine u_istore (lv' := [(13, .int 1), (12, .int (nI p)), (11, .int (nI s)), (10, .int (nI v)), (9, .int 1), (8, .int (lnM z v)), (7, .int (sumZ z 80 v)), (6, .int (sumZ z 74 v)), (5, .int (sumZ z 68 v)), (4, .int (sumZ z 62 v)), (3, .int (atM z 0 v)), (2, .int (atM z 4 v)), (1, .int (nI k)), (0, .ref x0)]) h dL_isWhole_78 (by rw [hL]; decide) rfl rfl ?_
              refine u_iload_n h dL_isWhole_80 rfl 11 rfl rfl ?_
              refine u_iload h dL_isWhole_81 2 rfl rfl ?_
              refine u_iconst (v := 4) h dL_isWhole_83 (by decide) rfl ?_
              have J27 : ∀ x28 : Int32, x28 = (if z v = 4 then 1 else 0) → U G X 0 0 w 92 [(13, .int 1), (12, .int (nI p)), (11, .int (nI s)), (10, .int (nI v)), (9, .int 1), (8, .int (lnM z v)), (7, .int (sumZ z 80 v)), (6, .int (sumZ z 74 v)), (5, .int (sumZ z 68 v)), (4, .int (sumZ z 62 v)), (3, .int (atM z 0 v)), (2, .int (atM z 4 v)), (1, .int (nI k)), (0, .ref x0)] [.int x28, .int (atM z 4 v)] := by
                intro x28 e9
                subst e9
                refine u_iadd (v := ((atM z 4 v) + (if z v = 4 then 1 else 0))) h dL_isWhole_92 rfl rfl ?_
                refine u_top (y := (atM z 4 (v + 1))) rfl ?_
                refine u_istore_n (lv' := [(2, .int (atM z 4 (v + 1))), (13, .int 1), (12, .int (nI p)), (11, .int (nI s)), (10, .int (nI v)), (9, .int 1), (8, .int (lnM z v)), (7, .int (sumZ z 80 v)), (6, .int (sumZ z 74 v)), (5, .int (sumZ z 68 v)), (4, .int (sumZ z 62 v)), (3, .int (atM z 0 v)), (1, .int (nI k)), (0, .ref x0)]) h dL_isWhole_93 rfl (by rw [hL]; decide) rfl rfl ?_
                refine u_iload_n h dL_isWhole_94 rfl 11 rfl rfl ?_
                refine u_iload h dL_isWhole_95 3 rfl rfl ?_
                have J29 : ∀ x30 : Int32, x30 = (if z v = 0 then 1 else 0) → U G X 0 0 w 105 [(2, .int (atM z 4 (v + 1))), (13, .int 1), (12, .int (nI p)), (11, .int (nI s)), (10, .int (nI v)), (9, .int 1), (8, .int (lnM z v)), (7, .int (sumZ z 80 v)), (6, .int (sumZ z 74 v)), (5, .int (sumZ z 68 v)), (4, .int (sumZ z 62 v)), (3, .int (atM z 0 v)), (1, .int (nI k)), (0, .ref x0)] [.int x30, .int (atM z 0 v)] := by
                  intro x30 e9
                  subst e9
                  refine u_iadd (v := ((atM z 0 v) + (if z v = 0 then 1 else 0))) h dL_isWhole_105 rfl rfl ?_
                  refine u_top (y := (atM z 0 (v + 1))) rfl ?_
                  refine u_istore_n (lv' := [(3, .int (atM z 0 (v + 1))), (2, .int (atM z 4 (v + 1))), (13, .int 1), (12, .int (nI p)), (11, .int (nI s)), (10, .int (nI v)), (9, .int 1), (8, .int (lnM z v)), (7, .int (sumZ z 80 v)), (6, .int (sumZ z 74 v)), (5, .int (sumZ z 68 v)), (4, .int (sumZ z 62 v)), (1, .int (nI k)), (0, .ref x0)]) h dL_isWhole_106 rfl (by rw [hL]; decide) rfl rfl ?_
                  refine u_iload h dL_isWhole_107 7 rfl rfl ?_
                  refine u_iload h dL_isWhole_109 2 rfl rfl ?_
                  refine u_if_eq_N (a := 1) (tgt := 118) h dL_isWhole_111 (by decide) (by omega) rfl (fun c31 => ?_) (fun c31 => ?_)
                  · exact absurd c31 (by decide)
                  · refine u_iconst (v := 1) h dL_isWhole_114 (by decide) rfl ?_
                    refine u_goto (tgt := 119) h dL_isWhole_115 (by decide) ?_
                    refine u_iadd (v := ((lnM z v) + 1)) h dL_isWhole_119 rfl rfl ?_
                    refine u_top (y := (lnM z (v + 1))) (by simp only [lnM]; rw [hq]; rfl) ?_
                    refine u_istore (lv' := [(8, .int (lnM z (v + 1))), (3, .int (atM z 0 (v + 1))), (2, .int (atM z 4 (v + 1))), (13, .int 1), (12, .int (nI p)), (11, .int (nI s)), (10, .int (nI v)), (9, .int 1), (7, .int (sumZ z 80 v)), (6, .int (sumZ z 74 v)), (5, .int (sumZ z 68 v)), (4, .int (sumZ z 62 v)), (1, .int (nI k)), (0, .ref x0)]) h dL_isWhole_120 (by rw [hL]; decide) rfl rfl ?_
                    refine u_iload h dL_isWhole_122 11 rfl rfl ?_
                    refine u_aload_n h dL_isWhole_124 rfl 13 rfl rfl ?_
                    refine u_iload h dL_isWhole_125 6 rfl rfl ?_
                    refine u_iconst (v := 1) h dL_isWhole_127 (by decide) rfl ?_
                    refine r_visitor h hT hC hw (nI v) 1 dL_isWhole_128 rfl (Nat.le_of_ble_eq_true rfl) ?_
                    refine u_top (y := (z (62 + v))) (visA_1 z hv) ?_
                    refine u_iadd (v := ((sumZ z 62 v) + (z (62 + v)))) h dL_isWhole_131 rfl rfl ?_
                    refine u_top (y := (sumZ z 62 (v + 1))) rfl ?_
                    refine u_istore (lv' := [(4, .int (sumZ z 62 (v + 1))), (8, .int (lnM z (v + 1))), (3, .int (atM z 0 (v + 1))), (2, .int (atM z 4 (v + 1))), (13, .int 1), (12, .int (nI p)), (11, .int (nI s)), (10, .int (nI v)), (9, .int 1), (7, .int (sumZ z 80 v)), (6, .int (sumZ z 74 v)), (5, .int (sumZ z 68 v)), (1, .int (nI k)), (0, .ref x0)]) h dL_isWhole_132 (by rw [hL]; decide) rfl rfl ?_
                    refine u_iload h dL_isWhole_134 11 rfl rfl ?_
                    refine u_aload_n h dL_isWhole_136 rfl 13 rfl rfl ?_
                    refine u_iload h dL_isWhole_137 7 rfl rfl ?_
                    refine u_iconst (v := 2) h dL_isWhole_139 (by decide) rfl ?_
                    refine r_visitor h hT hC hw (nI v) 2 dL_isWhole_140 rfl (Nat.le_of_ble_eq_true rfl) ?_
                    refine u_top (y := (z (68 + v))) (visA_2 z hv) ?_
                    refine u_iadd (v := ((sumZ z 68 v) + (z (68 + v)))) h dL_isWhole_143 rfl rfl ?_
                    refine u_top (y := (sumZ z 68 (v + 1))) rfl ?_
                    refine u_istore (lv' := [(5, .int (sumZ z 68 (v + 1))), (4, .int (sumZ z 62 (v + 1))), (8, .int (lnM z (v + 1))), (3, .int (atM z 0 (v + 1))), (2, .int (atM z 4 (v + 1))), (13, .int 1), (12, .int (nI p)), (11, .int (nI s)), (10, .int (nI v)), (9, .int 1), (7, .int (sumZ z 80 v)), (6, .int (sumZ z 74 v)), (1, .int (nI k)), (0, .ref x0)]) h dL_isWhole_144 (by rw [hL]; decide) rfl rfl ?_
                    refine u_iload h dL_isWhole_146 11 rfl rfl ?_
                    refine u_aload_n h dL_isWhole_148 rfl 13 rfl rfl ?_
                    refine u_iload h dL_isWhole_149 8 rfl rfl ?_
                    refine u_iconst (v := 3) h dL_isWhole_151 (by decide) rfl ?_
                    refine r_visitor h hT hC hw (nI v) 3 dL_isWhole_152 rfl (Nat.le_of_ble_eq_true rfl) ?_
                    refine u_top (y := (z (74 + v))) (visA_3 z hv) ?_
                    refine u_iadd (v := ((sumZ z 74 v) + (z (74 + v)))) h dL_isWhole_155 rfl rfl ?_
                    refine u_top (y := (sumZ z 74 (v + 1))) rfl ?_
                    refine u_istore (lv' := [(6, .int (sumZ z 74 (v + 1))), (5, .int (sumZ z 68 (v + 1))), (4, .int (sumZ z 62 (v + 1))), (8, .int (lnM z (v + 1))), (3, .int (atM z 0 (v + 1))), (2, .int (atM z 4 (v + 1))), (13, .int 1), (12, .int (nI p)), (11, .int (nI s)), (10, .int (nI v)), (9, .int 1), (7, .int (sumZ z 80 v)), (1, .int (nI k)), (0, .ref x0)]) h dL_isWhole_156 (by rw [hL]; decide) rfl rfl ?_
                    refine u_iload h dL_isWhole_158 11 rfl rfl ?_
                    refine u_aload_n h dL_isWhole_160 rfl 13 rfl rfl ?_
                    refine u_iload h dL_isWhole_161 9 rfl rfl ?_
                    refine u_iconst (v := 4) h dL_isWhole_163 (by decide) rfl ?_
                    refine r_visitor h hT hC hw (nI v) 4 dL_isWhole_164 rfl (Nat.le_of_ble_eq_true rfl) ?_
                    refine u_top (y := (z (80 + v))) (visA_4 z hv) ?_
                    refine u_iadd (v := ((sumZ z 80 v) + (z (80 + v)))) h dL_isWhole_167 rfl rfl ?_
                    refine u_top (y := (sumZ z 80 (v + 1))) rfl ?_
                    refine u_istore (lv' := [(7, .int (sumZ z 80 (v + 1))), (6, .int (sumZ z 74 (v + 1))), (5, .int (sumZ z 68 (v + 1))), (4, .int (sumZ z 62 (v + 1))), (8, .int (lnM z (v + 1))), (3, .int (atM z 0 (v + 1))), (2, .int (atM z 4 (v + 1))), (13, .int 1), (12, .int (nI p)), (11, .int (nI s)), (10, .int (nI v)), (9, .int 1), (1, .int (nI k)), (0, .ref x0)]) h dL_isWhole_168 (by rw [hL]; decide) rfl rfl ?_
                    refine u_iload h dL_isWhole_170 9 rfl rfl ?_
                    refine u_if_lt_N (a := s) (tgt := 259) h dL_isWhole_172 (by decide) (by omega) rfl (fun c32 => ?_) (fun c32 => ?_)
                    · exact absurd c32 (Nat.not_lt_zero _)
                    · refine u_iload h dL_isWhole_175 9 rfl rfl ?_
                      refine u_bipush (v := 8) h dL_isWhole_177 (by decide) rfl ?_
                      refine u_icmp_ge_N (a := s) (b := 8) (tgt := 259) h dL_isWhole_179 (by decide) (by omega) (by omega) rfl (fun c33 => ?_) (fun c33 => ?_)
                      · exfalso; omega
                      · refine u_iload_n h dL_isWhole_182 rfl 12 rfl rfl ?_
                        have J34 : U G X 0 0 w 192 [(7, .int (sumZ z 80 (v + 1))), (6, .int (sumZ z 74 (v + 1))), (5, .int (sumZ z 68 (v + 1))), (4, .int (sumZ z 62 (v + 1))), (8, .int (lnM z (v + 1))), (3, .int (atM z 0 (v + 1))), (2, .int (atM z 4 (v + 1))), (13, .int 1), (12, .int (nI p)), (11, .int (nI s)), (10, .int (nI v)), (9, .int 1), (1, .int (nI k)), (0, .ref x0)] [] := by
                          refine u_iload h dL_isWhole_192 8 rfl rfl ?_
                          refine u_if_lt_N (a := p) (tgt := 201) h dL_isWhole_194 (by decide) (by omega) rfl (fun c37 => ?_) (fun c37 => ?_)
                          · exact absurd c37 (Nat.not_lt_zero _)
                          · refine u_iconst (v := 1) h dL_isWhole_197 (by decide) rfl ?_
                            refine u_goto (tgt := 202) h dL_isWhole_198 (by decide) ?_
                            refine u_iload h dL_isWhole_202 7 rfl rfl ?_
                            refine u_icmp_ne_N (a := 1) (b := 1) (tgt := 259) h dL_isWhole_204 (by decide) (by omega) (by omega) rfl (fun c38 => ?_) (fun c38 => ?_)
                            · exact absurd c38 (by decide)
                            · refine u_iload h dL_isWhole_207 8 rfl rfl ?_
                              refine u_if_lt_N (a := p) (tgt := 223) h dL_isWhole_209 (by decide) (by omega) rfl (fun c39 => ?_) (fun c39 => ?_)
                              · exact absurd c39 (Nat.not_lt_zero _)
                              · refine u_aload_n h dL_isWhole_212 rfl 13 rfl rfl ?_
                                refine u_iload h dL_isWhole_213 8 rfl rfl ?_
                                refine r_inLine h hT hC hw (nI p) dL_isWhole_215 rfl (Nat.le_of_ble_eq_true rfl) ?_
                                refine u_top (y := (nI v)) eli ?_
                                refine u_iload h dL_isWhole_218 10 rfl rfl ?_
                                refine u_icmp_ne_N (a := v) (b := v) (tgt := 259) h dL_isWhole_220 (by decide) (by omega) (by omega) rfl (fun c40 => ?_) (fun c40 => ?_)
                                · exact absurd rfl c40
                                · refine u_iload h dL_isWhole_223 9 rfl rfl ?_
                                  refine u_iconst (v := 4) h dL_isWhole_225 (by decide) rfl ?_
                                  have J41 : U G X 0 0 w 239 [(7, .int (sumZ z 80 (v + 1))), (6, .int (sumZ z 74 (v + 1))), (5, .int (sumZ z 68 (v + 1))), (4, .int (sumZ z 62 (v + 1))), (8, .int (lnM z (v + 1))), (3, .int (atM z 0 (v + 1))), (2, .int (atM z 4 (v + 1))), (13, .int 1), (12, .int (nI p)), (11, .int (nI s)), (10, .int (nI v)), (9, .int 1), (1, .int (nI k)), (0, .ref x0)] [] := by
                                    refine u_iload h dL_isWhole_239 9 rfl rfl ?_
                                    refine u_iconst (v := 4) h dL_isWhole_241 (by decide) rfl ?_
                                    have J44 : U G X 0 0 w 255 [(7, .int (sumZ z 80 (v + 1))), (6, .int (sumZ z 74 (v + 1))), (5, .int (sumZ z 68 (v + 1))), (4, .int (sumZ z 62 (v + 1))), (8, .int (lnM z (v + 1))), (3, .int (atM z 0 (v + 1))), (2, .int (atM z 4 (v + 1))), (13, .int 1), (12, .int (nI p)), (11, .int (nI s)), (10, .int (nI v)), (9, .int 1), (1, .int (nI k)), (0, .ref x0)] [] := by
                                      refine u_iconst (v := 1) h dL_isWhole_255 (by decide) rfl ?_
                                      refine u_goto (tgt := 260) h dL_isWhole_256 (by decide) ?_
                                      refine u_istore (lv' := [(9, .int 1), (7, .int (sumZ z 80 (v + 1))), (6, .int (sumZ z 74 (v + 1))), (5, .int (sumZ z 68 (v + 1))), (4, .int (sumZ z 62 (v + 1))), (8, .int (lnM z (v + 1))), (3, .int (atM z 0 (v + 1))), (2, .int (atM z 4 (v + 1))), (13, .int 1), (12, .int (nI p)), (11, .int (nI s)), (10, .int (nI v)), (1, .int (nI k)), (0, .ref x0)]) h dL_isWhole_260 (by rw [hL]; decide) rfl rfl ?_
                                      refine u_iload h dL_isWhole_262 0 rfl rfl ?_
                                      refine u_if_eq_N (a := 1) (tgt := 318) h dL_isWhole_264 (by decide) (by omega) rfl (fun c47 => ?_) (fun c47 => ?_)
                                      · exact absurd c47 (by decide)
                                      · refine u_iload_n h dL_isWhole_267 rfl 12 rfl rfl ?_
                                        refine u_iconst (v := 2) h dL_isWhole_268 (by decide) rfl ?_
                                        have J48 : U G X 0 0 w 297 [(9, .int 1), (7, .int (sumZ z 80 (v + 1))), (6, .int (sumZ z 74 (v + 1))), (5, .int (sumZ z 68 (v + 1))), (4, .int (sumZ z 62 (v + 1))), (8, .int (lnM z (v + 1))), (3, .int (atM z 0 (v + 1))), (2, .int (atM z 4 (v + 1))), (13, .int 1), (12, .int (nI p)), (11, .int (nI s)), (10, .int (nI v)), (1, .int (nI k)), (0, .ref x0)] [] := by
                                          refine u_aload_n h dL_isWhole_297 rfl 13 rfl rfl ?_
                                          refine u_iload h dL_isWhole_298 11 rfl rfl ?_
                                          refine u_iconst (v := 2) h dL_isWhole_300 (by decide) rfl ?_
                                          refine r_visitor h hT hC hw (nI v) 2 dL_isWhole_301 rfl (Nat.le_of_ble_eq_true rfl) ?_
                                          refine u_top (y := (nI lo)) ((visA_2 z hv).trans elo) ?_
                                          refine u_aload_n h dL_isWhole_304 rfl 13 rfl rfl ?_
                                          refine u_iload h dL_isWhole_305 11 rfl rfl ?_
                                          refine u_iconst (v := 1) h dL_isWhole_307 (by decide) rfl ?_
                                          refine r_visitor h hT hC hw (nI v) 1 dL_isWhole_308 rfl (Nat.le_of_ble_eq_true rfl) ?_
                                          refine u_top (y := (nI st)) ((visA_1 z hv).trans est) ?_
                                          refine u_icmp_gt_N (a := lo) (b := st) (tgt := 318) h dL_isWhole_311 (by decide) (by omega) (by omega) rfl (fun c51 => ?_) (fun c51 => ?_)
                                          · exfalso; omega
                                          · refine u_iconst (v := 1) h dL_isWhole_314 (by decide) rfl ?_
                                            refine u_goto (tgt := 319) h dL_isWhole_315 (by decide) ?_
                                            refine u_istore (lv' := [(9, .int 1), (7, .int (sumZ z 80 (v + 1))), (6, .int (sumZ z 74 (v + 1))), (5, .int (sumZ z 68 (v + 1))), (4, .int (sumZ z 62 (v + 1))), (8, .int (lnM z (v + 1))), (3, .int (atM z 0 (v + 1))), (2, .int (atM z 4 (v + 1))), (13, .int 1), (12, .int (nI p)), (11, .int (nI s)), (10, .int (nI v)), (1, .int (nI k)), (0, .ref x0)]) h dL_isWhole_319 (by rw [hL]; decide) rfl rfl ?_
                                            refine u_eql (lv' := [(9, .int 1), (7, .int (sumZ z 80 (v + 1))), (6, .int (sumZ z 74 (v + 1))), (5, .int (sumZ z 68 (v + 1))), (4, .int (sumZ z 62 (v + 1))), (8, .int (lnM z (v + 1))), (3, .int (atM z 0 (v + 1))), (2, .int (atM z 4 (v + 1))), (13, .int 1), (12, .int (nI p)), (11, .int (nI s)), (10, .int (nI v)), (1, .int (z 60)), (0, .ref x0)]) (by rw [ek]) ?_
                                            refine u_iinc (k := 11) (v := (nI (v + 1))) (lv' := [(10, .int (nI (v + 1))), (9, .int 1), (7, .int (sumZ z 80 (v + 1))), (6, .int (sumZ z 74 (v + 1))), (5, .int (sumZ z 68 (v + 1))), (4, .int (sumZ z 62 (v + 1))), (8, .int (lnM z (v + 1))), (3, .int (atM z 0 (v + 1))), (2, .int (atM z 4 (v + 1))), (13, .int 1), (12, .int (nI p)), (11, .int (nI s)), (1, .int (z 60)), (0, .ref x0)]) h dL_isWhole_321 rfl (nI_add v 1) (by rw [hL]; decide) rfl rfl ?_
                                            refine u_goto (tgt := 31) h dL_isWhole_324 (by decide) ?_
                                            refine u_lv (lv' := [(10, .int (nI (v + 1))), (9, .int 1), (8, .int (lnM z (v + 1))), (7, .int (sumZ z 80 (v + 1))), (6, .int (sumZ z 74 (v + 1))), (5, .int (sumZ z 68 (v + 1))), (4, .int (sumZ z 62 (v + 1))), (3, .int (atM z 0 (v + 1))), (2, .int (atM z 4 (v + 1))), (1, .int (z 60)), (0, .ref x0)]) [0, 1, 6, 2, 3, 4, 5, 7, 8, 12, 13] rfl ?_
                                            exact ihw _ (by omega) (v + 1) rfl (by omega)
                                        refine u_icmp_ne_N (a := k) (b := 2) (tgt := 297) h dL_isWhole_269 (by decide) (by omega) (by omega) rfl (fun c52 => ?_) (fun c52 => ?_)
                                        · exact J48
                                        · refine u_iload h dL_isWhole_272 10 rfl rfl ?_
                                          refine u_if_eq_N (a := s) (tgt := 297) h dL_isWhole_274 (by decide) (by omega) rfl (fun c53 => ?_) (fun c53 => ?_)
                                          · exact J48
                                          · refine u_aload_n h dL_isWhole_277 rfl 13 rfl rfl ?_
                                            refine u_iload h dL_isWhole_278 11 rfl rfl ?_
                                            refine u_bipush (v := 8) h dL_isWhole_280 (by decide) rfl ?_
                                            refine r_visitor h hT hC hw (nI v) 8 dL_isWhole_282 rfl (Nat.le_of_ble_eq_true rfl) ?_
                                            refine u_top (y := (z (36 + v))) ((visA_8 z hv).trans (if_pos ⟨by rw [ek, show k = 2 by omega]; rfl, by rw [es]; exact (nI_ltI (a := 0) (by omega) (by omega)).mpr (by omega)⟩)) ?_
                                            refine u_aload_n h dL_isWhole_285 rfl 13 rfl rfl ?_
                                            refine u_bipush (v := 10) h dL_isWhole_286 (by decide) rfl ?_
                                            refine r_total h hT hC hw 10 dL_isWhole_288 rfl (Nat.le_of_ble_eq_true rfl) ?_
                                            refine u_top (y := (z 51)) ((totA_10 z r 0).trans (if_pos (by rw [ek, show k = 2 by omega]; rfl))) ?_
                                            refine u_iload h dL_isWhole_291 9 rfl rfl ?_
                                            refine u_iadd (v := ((z 51) + (nI p))) h dL_isWhole_293 rfl rfl ?_
                                            refine u_icmp_ne (tgt := 318) h dL_isWhole_294 (by decide) rfl (fun c54 => ?_) (fun c54 => ?_)
                                            · exact absurd (htk (by omega)) c54
                                            · exact J48
                                    refine u_icmp_ne_N (a := s) (b := 4) (tgt := 255) h dL_isWhole_242 (by decide) (by omega) (by omega) rfl (fun c55 => ?_) (fun c55 => ?_)
                                    · exact J44
                                    · refine u_aload_n h dL_isWhole_245 rfl 13 rfl rfl ?_
                                      refine u_iconst (v := 1) h dL_isWhole_246 (by decide) rfl ?_
                                      refine r_total h hT hC hw 1 dL_isWhole_247 rfl (Nat.le_of_ble_eq_true rfl) ?_
                                      refine u_top (y := (nI v)) ((totA_1 z r 0).trans (hin (by omega))) ?_
                                      refine u_iload h dL_isWhole_250 10 rfl rfl ?_
                                      refine u_icmp_ne_N (a := v) (b := v) (tgt := 259) h dL_isWhole_252 (by decide) (by omega) (by omega) rfl (fun c56 => ?_) (fun c56 => ?_)
                                      · exact absurd rfl c56
                                      · exact J44
                                  refine u_icmp_lt_N (a := s) (b := 4) (tgt := 239) h dL_isWhole_226 (by decide) (by omega) (by omega) rfl (fun c57 => ?_) (fun c57 => ?_)
                                  · exact J41
                                  · refine u_iload_n h dL_isWhole_229 rfl 12 rfl rfl ?_
                                    refine u_iconst (v := 3) h dL_isWhole_230 (by decide) rfl ?_
                                    refine u_icmp_eq_N (a := k) (b := 3) (tgt := 239) h dL_isWhole_231 (by decide) (by omega) (by omega) rfl (fun c58 => ?_) (fun c58 => ?_)
                                    · exfalso; omega
                                    · refine u_iload h dL_isWhole_234 8 rfl rfl ?_
                                      refine u_if_ne_N (a := p) (tgt := 259) h dL_isWhole_236 (by decide) (by omega) rfl (fun c59 => ?_) (fun c59 => ?_)
                                      · exfalso; omega
                                      · exact J41
                        refine u_if_eq_N (a := k) (tgt := 192) h dL_isWhole_183 (by decide) (by omega) rfl (fun c60 => ?_) (fun c60 => ?_)
                        · exact J34
                        · refine u_iload h dL_isWhole_186 9 rfl rfl ?_
                          refine u_iconst (v := 5) h dL_isWhole_188 (by decide) rfl ?_
                          refine u_icmp_ge_N (a := s) (b := 5) (tgt := 259) h dL_isWhole_189 (by decide) (by omega) (by omega) rfl (fun c61 => ?_) (fun c61 => ?_)
                          · exfalso; omega
                          · exact J34
                refine u_if_ne_N (a := s) (tgt := 104) h dL_isWhole_97 (by decide) (by omega) rfl (fun c62 => ?_) (fun c62 => ?_)
                · refine u_iconst (v := 0) h dL_isWhole_104 (by decide) rfl ?_
                  exact J29 _ (by first | (first | (rw [if_pos (hs0.mpr (by omega))]; done) | (rw [if_neg (fun q9 => absurd (hs0.mp q9) (by omega))]); done) | (exfalso; first | exact absurd (c1.symm.trans c24) (by decide) | exact absurd (c1.symm.trans c62) (by decide) | exact absurd (c24.symm.trans c1) (by decide) | exact absurd (c24.symm.trans c62) (by decide) | exact absurd (c62.symm.trans c1) (by decide) | exact absurd (c62.symm.trans c24) (by decide)))
                · refine u_iconst (v := 1) h dL_isWhole_100 (by decide) rfl ?_
                  refine u_goto (tgt := 105) h dL_isWhole_101 (by decide) ?_
                  exact J29 _ (by first | (first | (rw [if_pos (hs0.mpr (by omega))]; done) | (rw [if_neg (fun q9 => absurd (hs0.mp q9) (by omega))]); done) | (exfalso; first | exact absurd (c1.symm.trans c24) (by decide) | exact absurd (c1.symm.trans c62) (by decide) | exact absurd (c24.symm.trans c1) (by decide) | exact absurd (c24.symm.trans c62) (by decide) | exact absurd (c62.symm.trans c1) (by decide) | exact absurd (c62.symm.trans c24) (by decide)))
              refine u_icmp_ne_N (a := s) (b := 4) (tgt := 91) h dL_isWhole_84 (by decide) (by omega) (by omega) rfl (fun c63 => ?_) (fun c63 => ?_)
              · refine u_iconst (v := 0) h dL_isWhole_91 (by decide) rfl ?_
                exact J27 _ (by first | (first | (rw [if_pos (hs4.mpr (by omega))]; done) | (rw [if_neg (fun q9 => absurd (hs4.mp q9) (by omega))]); done) | (exfalso; first | exact absurd (c1.symm.trans c24) (by decide) | exact absurd (c1.symm.trans c63) (by decide) | exact absurd (c24.symm.trans c1) (by decide) | exact absurd (c24.symm.trans c63) (by decide) | exact absurd (c63.symm.trans c1) (by decide) | exact absurd (c63.symm.trans c24) (by decide)))
              · refine u_iconst (v := 1) h dL_isWhole_87 (by decide) rfl ?_
                refine u_goto (tgt := 92) h dL_isWhole_88 (by decide) ?_
                exact J27 _ (by first | (first | (rw [if_pos (hs4.mpr (by omega))]; done) | (rw [if_neg (fun q9 => absurd (hs4.mp q9) (by omega))]); done) | (exfalso; first | exact absurd (c1.symm.trans c24) (by decide) | exact absurd (c1.symm.trans c63) (by decide) | exact absurd (c24.symm.trans c1) (by decide) | exact absurd (c24.symm.trans c63) (by decide) | exact absurd (c63.symm.trans c1) (by decide) | exact absurd (c63.symm.trans c24) (by decide)))
            refine u_icmp_ge_N (a := k) (b := 3) (tgt := 77) h dL_isWhole_64 (by decide) (by omega) (by omega) rfl (fun c64 => ?_) (fun c64 => ?_)
            · refine u_iconst (v := 0) h dL_isWhole_77 (by decide) rfl ?_
              exact J25 _ (by first | (first | rfl | (exfalso; omega); done) | (exfalso; first | exact absurd (c1.symm.trans c24) (by decide) | exact absurd (c1.symm.trans c64) (by decide) | exact absurd (c24.symm.trans c1) (by decide) | exact absurd (c24.symm.trans c64) (by decide) | exact absurd (c64.symm.trans c1) (by decide) | exact absurd (c64.symm.trans c24) (by decide)))
            · refine u_iload h dL_isWhole_67 1 rfl rfl ?_
              refine u_iconst (v := 1) h dL_isWhole_69 (by decide) rfl ?_
              refine u_icmp_le_N (a := s) (b := 1) (tgt := 77) h dL_isWhole_70 (by decide) (by omega) (by omega) rfl (fun c65 => ?_) (fun c65 => ?_)
              · refine u_iconst (v := 0) h dL_isWhole_77 (by decide) rfl ?_
                exact J25 _ (by first | (first | rfl | (exfalso; omega); done) | (exfalso; first | exact absurd (c1.symm.trans c24) (by decide) | exact absurd (c1.symm.trans c64) (by decide) | exact absurd (c1.symm.trans c65) (by decide) | exact absurd (c24.symm.trans c1) (by decide) | exact absurd (c24.symm.trans c64) (by decide) | exact absurd (c24.symm.trans c65) (by decide) | exact absurd (c64.symm.trans c1) (by decide) | exact absurd (c64.symm.trans c24) (by decide) | exact absurd (c64.symm.trans c65) (by decide) | exact absurd (c65.symm.trans c1) (by decide) | exact absurd (c65.symm.trans c24) (by decide) | exact absurd (c65.symm.trans c64) (by decide)))
              · refine u_iconst (v := 1) h dL_isWhole_73 (by decide) rfl ?_
                refine u_goto (tgt := 78) h dL_isWhole_74 (by decide) ?_
                exact J25 _ (by first | (first | rfl | (exfalso; omega); done) | (exfalso; first | exact absurd (c1.symm.trans c24) (by decide) | exact absurd (c1.symm.trans c64) (by decide) | exact absurd (c1.symm.trans c65) (by decide) | exact absurd (c24.symm.trans c1) (by decide) | exact absurd (c24.symm.trans c64) (by decide) | exact absurd (c24.symm.trans c65) (by decide) | exact absurd (c64.symm.trans c1) (by decide) | exact absurd (c64.symm.trans c24) (by decide) | exact absurd (c64.symm.trans c65) (by decide) | exact absurd (c65.symm.trans c1) (by decide) | exact absurd (c65.symm.trans c24) (by decide) | exact absurd (c65.symm.trans c64) (by decide)))
          · refine u_aload_n h dL_isWhole_43 rfl 10 rfl rfl ?_
            refine u_iload h dL_isWhole_44 0 rfl rfl ?_
            refine u_iconst (v := 0) h dL_isWhole_46 (by decide) rfl ?_
            refine r_visitor h hT hC hw (nI v) 0 dL_isWhole_47 rfl (Nat.le_of_ble_eq_true rfl) ?_
            refine u_top (y := (nI s)) ((visA_0 z hv).trans es) ?_
            refine u_istore (lv' := [(11, .int (nI s)), (10, .int (nI v)), (9, .int 1), (8, .int (lnM z v)), (7, .int (sumZ z 80 v)), (6, .int (sumZ z 74 v)), (5, .int (sumZ z 68 v)), (4, .int (sumZ z 62 v)), (3, .int (atM z 0 v)), (2, .int (atM z 4 v)), (1, .int (nI k)), (0, .ref x0)]) h dL_isWhole_50 (by rw [hL]; decide) rfl rfl ?_
            refine u_aload_n h dL_isWhole_52 rfl 11 rfl rfl ?_
            refine u_iload h dL_isWhole_53 1 rfl rfl ?_
            refine u_bipush (v := 10) h dL_isWhole_55 (by decide) rfl ?_
            refine r_visitor h hT hC hw (nI v) 10 dL_isWhole_57 rfl (Nat.le_of_ble_eq_true rfl) ?_
            refine u_top (y := (-5)) ((visA_10 z hv).trans ep) ?_
            refine u_istore (lv' := [(12, .int (-5)), (11, .int (nI s)), (10, .int (nI v)), (9, .int 1), (8, .int (lnM z v)), (7, .int (sumZ z 80 v)), (6, .int (sumZ z 74 v)), (5, .int (sumZ z 68 v)), (4, .int (sumZ z 62 v)), (3, .int (atM z 0 v)), (2, .int (atM z 4 v)), (1, .int (nI k)), (0, .ref x0)]) h dL_isWhole_60 (by rw [hL]; decide) rfl rfl ?_
            refine u_iload_n h dL_isWhole_62 rfl 11 rfl rfl ?_
            refine u_iconst (v := 3) h dL_isWhole_63 (by decide) rfl ?_
            have J66 : ∀ x67 : Int32, x67 = 0 → U G X 0 0 w 78 [(12, .int (-5)), (11, .int (nI s)), (10, .int (nI v)), (9, .int 1), (8, .int (lnM z v)), (7, .int (sumZ z 80 v)), (6, .int (sumZ z 74 v)), (5, .int (sumZ z 68 v)), (4, .int (sumZ z 62 v)), (3, .int (atM z 0 v)), (2, .int (atM z 4 v)), (1, .int (nI k)), (0, .ref x0)] [.int x67] := by
              intro x67 e9
              subst e9
              refine u_istore (lv' := [(13, .int 0), (12, .int (-5)), (11, .int (nI s)), (10, .int (nI v)), (9, .int 1), (8, .int (lnM z v)), (7, .int (sumZ z 80 v)), (6, .int (sumZ z 74 v)), (5, .int (sumZ z 68 v)), (4, .int (sumZ z 62 v)), (3, .int (atM z 0 v)), (2, .int (atM z 4 v)), (1, .int (nI k)), (0, .ref x0)]) h dL_isWhole_78 (by rw [hL]; decide) rfl rfl ?_
              refine u_iload_n h dL_isWhole_80 rfl 11 rfl rfl ?_
              refine u_iload h dL_isWhole_81 2 rfl rfl ?_
              refine u_iconst (v := 4) h dL_isWhole_83 (by decide) rfl ?_
              have J68 : ∀ x69 : Int32, x69 = (if z v = 4 then 1 else 0) → U G X 0 0 w 92 [(13, .int 0), (12, .int (-5)), (11, .int (nI s)), (10, .int (nI v)), (9, .int 1), (8, .int (lnM z v)), (7, .int (sumZ z 80 v)), (6, .int (sumZ z 74 v)), (5, .int (sumZ z 68 v)), (4, .int (sumZ z 62 v)), (3, .int (atM z 0 v)), (2, .int (atM z 4 v)), (1, .int (nI k)), (0, .ref x0)] [.int x69, .int (atM z 4 v)] := by
                intro x69 e9
                subst e9
                refine u_iadd (v := ((atM z 4 v) + (if z v = 4 then 1 else 0))) h dL_isWhole_92 rfl rfl ?_
                refine u_top (y := (atM z 4 (v + 1))) rfl ?_
                refine u_istore_n (lv' := [(2, .int (atM z 4 (v + 1))), (13, .int 0), (12, .int (-5)), (11, .int (nI s)), (10, .int (nI v)), (9, .int 1), (8, .int (lnM z v)), (7, .int (sumZ z 80 v)), (6, .int (sumZ z 74 v)), (5, .int (sumZ z 68 v)), (4, .int (sumZ z 62 v)), (3, .int (atM z 0 v)), (1, .int (nI k)), (0, .ref x0)]) h dL_isWhole_93 rfl (by rw [hL]; decide) rfl rfl ?_
                refine u_iload_n h dL_isWhole_94 rfl 11 rfl rfl ?_
                refine u_iload h dL_isWhole_95 3 rfl rfl ?_
                have J70 : ∀ x71 : Int32, x71 = (if z v = 0 then 1 else 0) → U G X 0 0 w 105 [(2, .int (atM z 4 (v + 1))), (13, .int 0), (12, .int (-5)), (11, .int (nI s)), (10, .int (nI v)), (9, .int 1), (8, .int (lnM z v)), (7, .int (sumZ z 80 v)), (6, .int (sumZ z 74 v)), (5, .int (sumZ z 68 v)), (4, .int (sumZ z 62 v)), (3, .int (atM z 0 v)), (1, .int (nI k)), (0, .ref x0)] [.int x71, .int (atM z 0 v)] := by
                  intro x71 e9
                  subst e9
                  refine u_iadd (v := ((atM z 0 v) + (if z v = 0 then 1 else 0))) h dL_isWhole_105 rfl rfl ?_
                  refine u_top (y := (atM z 0 (v + 1))) rfl ?_
                  refine u_istore_n (lv' := [(3, .int (atM z 0 (v + 1))), (2, .int (atM z 4 (v + 1))), (13, .int 0), (12, .int (-5)), (11, .int (nI s)), (10, .int (nI v)), (9, .int 1), (8, .int (lnM z v)), (7, .int (sumZ z 80 v)), (6, .int (sumZ z 74 v)), (5, .int (sumZ z 68 v)), (4, .int (sumZ z 62 v)), (1, .int (nI k)), (0, .ref x0)]) h dL_isWhole_106 rfl (by rw [hL]; decide) rfl rfl ?_
                  refine u_iload h dL_isWhole_107 7 rfl rfl ?_
                  refine u_iload h dL_isWhole_109 2 rfl rfl ?_
                  refine u_if_eq_N (a := 0) (tgt := 118) h dL_isWhole_111 (by decide) (by omega) rfl (fun c72 => ?_) (fun c72 => ?_)
                  · refine u_iconst (v := 0) h dL_isWhole_118 (by decide) rfl ?_
                    refine u_iadd (v := ((lnM z v) + 0)) h dL_isWhole_119 rfl rfl ?_
                    refine u_top (y := (lnM z (v + 1))) (by simp only [lnM]; rw [hq]; rfl) ?_
                    refine u_istore (lv' := [(8, .int (lnM z (v + 1))), (3, .int (atM z 0 (v + 1))), (2, .int (atM z 4 (v + 1))), (13, .int 0), (12, .int (-5)), (11, .int (nI s)), (10, .int (nI v)), (9, .int 1), (7, .int (sumZ z 80 v)), (6, .int (sumZ z 74 v)), (5, .int (sumZ z 68 v)), (4, .int (sumZ z 62 v)), (1, .int (nI k)), (0, .ref x0)]) h dL_isWhole_120 (by rw [hL]; decide) rfl rfl ?_
                    refine u_iload h dL_isWhole_122 11 rfl rfl ?_
                    refine u_aload_n h dL_isWhole_124 rfl 13 rfl rfl ?_
                    refine u_iload h dL_isWhole_125 6 rfl rfl ?_
                    refine u_iconst (v := 1) h dL_isWhole_127 (by decide) rfl ?_
                    refine r_visitor h hT hC hw (nI v) 1 dL_isWhole_128 rfl (Nat.le_of_ble_eq_true rfl) ?_
                    refine u_top (y := (z (62 + v))) (visA_1 z hv) ?_
                    refine u_iadd (v := ((sumZ z 62 v) + (z (62 + v)))) h dL_isWhole_131 rfl rfl ?_
                    refine u_top (y := (sumZ z 62 (v + 1))) rfl ?_
                    refine u_istore (lv' := [(4, .int (sumZ z 62 (v + 1))), (8, .int (lnM z (v + 1))), (3, .int (atM z 0 (v + 1))), (2, .int (atM z 4 (v + 1))), (13, .int 0), (12, .int (-5)), (11, .int (nI s)), (10, .int (nI v)), (9, .int 1), (7, .int (sumZ z 80 v)), (6, .int (sumZ z 74 v)), (5, .int (sumZ z 68 v)), (1, .int (nI k)), (0, .ref x0)]) h dL_isWhole_132 (by rw [hL]; decide) rfl rfl ?_
                    refine u_iload h dL_isWhole_134 11 rfl rfl ?_
                    refine u_aload_n h dL_isWhole_136 rfl 13 rfl rfl ?_
                    refine u_iload h dL_isWhole_137 7 rfl rfl ?_
                    refine u_iconst (v := 2) h dL_isWhole_139 (by decide) rfl ?_
                    refine r_visitor h hT hC hw (nI v) 2 dL_isWhole_140 rfl (Nat.le_of_ble_eq_true rfl) ?_
                    refine u_top (y := (z (68 + v))) (visA_2 z hv) ?_
                    refine u_iadd (v := ((sumZ z 68 v) + (z (68 + v)))) h dL_isWhole_143 rfl rfl ?_
                    refine u_top (y := (sumZ z 68 (v + 1))) rfl ?_
                    refine u_istore (lv' := [(5, .int (sumZ z 68 (v + 1))), (4, .int (sumZ z 62 (v + 1))), (8, .int (lnM z (v + 1))), (3, .int (atM z 0 (v + 1))), (2, .int (atM z 4 (v + 1))), (13, .int 0), (12, .int (-5)), (11, .int (nI s)), (10, .int (nI v)), (9, .int 1), (7, .int (sumZ z 80 v)), (6, .int (sumZ z 74 v)), (1, .int (nI k)), (0, .ref x0)]) h dL_isWhole_144 (by rw [hL]; decide) rfl rfl ?_
                    refine u_iload h dL_isWhole_146 11 rfl rfl ?_
                    refine u_aload_n h dL_isWhole_148 rfl 13 rfl rfl ?_
                    refine u_iload h dL_isWhole_149 8 rfl rfl ?_
                    refine u_iconst (v := 3) h dL_isWhole_151 (by decide) rfl ?_
                    refine r_visitor h hT hC hw (nI v) 3 dL_isWhole_152 rfl (Nat.le_of_ble_eq_true rfl) ?_
                    refine u_top (y := (z (74 + v))) (visA_3 z hv) ?_
                    refine u_iadd (v := ((sumZ z 74 v) + (z (74 + v)))) h dL_isWhole_155 rfl rfl ?_
                    refine u_top (y := (sumZ z 74 (v + 1))) rfl ?_
                    refine u_istore (lv' := [(6, .int (sumZ z 74 (v + 1))), (5, .int (sumZ z 68 (v + 1))), (4, .int (sumZ z 62 (v + 1))), (8, .int (lnM z (v + 1))), (3, .int (atM z 0 (v + 1))), (2, .int (atM z 4 (v + 1))), (13, .int 0), (12, .int (-5)), (11, .int (nI s)), (10, .int (nI v)), (9, .int 1), (7, .int (sumZ z 80 v)), (1, .int (nI k)), (0, .ref x0)]) h dL_isWhole_156 (by rw [hL]; decide) rfl rfl ?_
                    refine u_iload h dL_isWhole_158 11 rfl rfl ?_
                    refine u_aload_n h dL_isWhole_160 rfl 13 rfl rfl ?_
                    refine u_iload h dL_isWhole_161 9 rfl rfl ?_
                    refine u_iconst (v := 4) h dL_isWhole_163 (by decide) rfl ?_
                    refine r_visitor h hT hC hw (nI v) 4 dL_isWhole_164 rfl (Nat.le_of_ble_eq_true rfl) ?_
                    refine u_top (y := (z (80 + v))) (visA_4 z hv) ?_
                    refine u_iadd (v := ((sumZ z 80 v) + (z (80 + v)))) h dL_isWhole_167 rfl rfl ?_
                    refine u_top (y := (sumZ z 80 (v + 1))) rfl ?_
                    refine u_istore (lv' := [(7, .int (sumZ z 80 (v + 1))), (6, .int (sumZ z 74 (v + 1))), (5, .int (sumZ z 68 (v + 1))), (4, .int (sumZ z 62 (v + 1))), (8, .int (lnM z (v + 1))), (3, .int (atM z 0 (v + 1))), (2, .int (atM z 4 (v + 1))), (13, .int 0), (12, .int (-5)), (11, .int (nI s)), (10, .int (nI v)), (9, .int 1), (1, .int (nI k)), (0, .ref x0)]) h dL_isWhole_168 (by rw [hL]; decide) rfl rfl ?_
                    refine u_iload h dL_isWhole_170 9 rfl rfl ?_
                    refine u_if_lt_N (a := s) (tgt := 259) h dL_isWhole_172 (by decide) (by omega) rfl (fun c73 => ?_) (fun c73 => ?_)
                    · exact absurd c73 (Nat.not_lt_zero _)
                    · refine u_iload h dL_isWhole_175 9 rfl rfl ?_
                      refine u_bipush (v := 8) h dL_isWhole_177 (by decide) rfl ?_
                      refine u_icmp_ge_N (a := s) (b := 8) (tgt := 259) h dL_isWhole_179 (by decide) (by omega) (by omega) rfl (fun c74 => ?_) (fun c74 => ?_)
                      · exfalso; omega
                      · refine u_iload_n h dL_isWhole_182 rfl 12 rfl rfl ?_
                        have J75 : U G X 0 0 w 192 [(7, .int (sumZ z 80 (v + 1))), (6, .int (sumZ z 74 (v + 1))), (5, .int (sumZ z 68 (v + 1))), (4, .int (sumZ z 62 (v + 1))), (8, .int (lnM z (v + 1))), (3, .int (atM z 0 (v + 1))), (2, .int (atM z 4 (v + 1))), (13, .int 0), (12, .int (-5)), (11, .int (nI s)), (10, .int (nI v)), (9, .int 1), (1, .int (nI k)), (0, .ref x0)] [] := by
                          refine u_iload h dL_isWhole_192 8 rfl rfl ?_
                          refine u_if_lt (tgt := 201) h dL_isWhole_194 (by decide) rfl (fun c78 => ?_) (fun c78 => ?_)
                          · refine u_iconst (v := 0) h dL_isWhole_201 (by decide) rfl ?_
                            refine u_iload h dL_isWhole_202 7 rfl rfl ?_
                            refine u_icmp_ne_N (a := 0) (b := 0) (tgt := 259) h dL_isWhole_204 (by decide) (by omega) (by omega) rfl (fun c79 => ?_) (fun c79 => ?_)
                            · exact absurd c79 (by decide)
                            · refine u_iload h dL_isWhole_207 8 rfl rfl ?_
                              refine u_if_lt (tgt := 223) h dL_isWhole_209 (by decide) rfl (fun c80 => ?_) (fun c80 => ?_)
                              · refine u_iload h dL_isWhole_223 9 rfl rfl ?_
                                refine u_iconst (v := 4) h dL_isWhole_225 (by decide) rfl ?_
                                have J81 : U G X 0 0 w 239 [(7, .int (sumZ z 80 (v + 1))), (6, .int (sumZ z 74 (v + 1))), (5, .int (sumZ z 68 (v + 1))), (4, .int (sumZ z 62 (v + 1))), (8, .int (lnM z (v + 1))), (3, .int (atM z 0 (v + 1))), (2, .int (atM z 4 (v + 1))), (13, .int 0), (12, .int (-5)), (11, .int (nI s)), (10, .int (nI v)), (9, .int 1), (1, .int (nI k)), (0, .ref x0)] [] := by
                                  refine u_iload h dL_isWhole_239 9 rfl rfl ?_
                                  refine u_iconst (v := 4) h dL_isWhole_241 (by decide) rfl ?_
                                  have J84 : U G X 0 0 w 255 [(7, .int (sumZ z 80 (v + 1))), (6, .int (sumZ z 74 (v + 1))), (5, .int (sumZ z 68 (v + 1))), (4, .int (sumZ z 62 (v + 1))), (8, .int (lnM z (v + 1))), (3, .int (atM z 0 (v + 1))), (2, .int (atM z 4 (v + 1))), (13, .int 0), (12, .int (-5)), (11, .int (nI s)), (10, .int (nI v)), (9, .int 1), (1, .int (nI k)), (0, .ref x0)] [] := by
                                    refine u_iconst (v := 1) h dL_isWhole_255 (by decide) rfl ?_
                                    refine u_goto (tgt := 260) h dL_isWhole_256 (by decide) ?_
                                    refine u_istore (lv' := [(9, .int 1), (7, .int (sumZ z 80 (v + 1))), (6, .int (sumZ z 74 (v + 1))), (5, .int (sumZ z 68 (v + 1))), (4, .int (sumZ z 62 (v + 1))), (8, .int (lnM z (v + 1))), (3, .int (atM z 0 (v + 1))), (2, .int (atM z 4 (v + 1))), (13, .int 0), (12, .int (-5)), (11, .int (nI s)), (10, .int (nI v)), (1, .int (nI k)), (0, .ref x0)]) h dL_isWhole_260 (by rw [hL]; decide) rfl rfl ?_
                                    refine u_iload h dL_isWhole_262 0 rfl rfl ?_
                                    refine u_if_eq_N (a := 1) (tgt := 318) h dL_isWhole_264 (by decide) (by omega) rfl (fun c87 => ?_) (fun c87 => ?_)
                                    · exact absurd c87 (by decide)
                                    · refine u_iload_n h dL_isWhole_267 rfl 12 rfl rfl ?_
                                      refine u_iconst (v := 2) h dL_isWhole_268 (by decide) rfl ?_
                                      have J88 : U G X 0 0 w 297 [(9, .int 1), (7, .int (sumZ z 80 (v + 1))), (6, .int (sumZ z 74 (v + 1))), (5, .int (sumZ z 68 (v + 1))), (4, .int (sumZ z 62 (v + 1))), (8, .int (lnM z (v + 1))), (3, .int (atM z 0 (v + 1))), (2, .int (atM z 4 (v + 1))), (13, .int 0), (12, .int (-5)), (11, .int (nI s)), (10, .int (nI v)), (1, .int (nI k)), (0, .ref x0)] [] := by
                                        refine u_aload_n h dL_isWhole_297 rfl 13 rfl rfl ?_
                                        refine u_iload h dL_isWhole_298 11 rfl rfl ?_
                                        refine u_iconst (v := 2) h dL_isWhole_300 (by decide) rfl ?_
                                        refine r_visitor h hT hC hw (nI v) 2 dL_isWhole_301 rfl (Nat.le_of_ble_eq_true rfl) ?_
                                        refine u_top (y := (nI lo)) ((visA_2 z hv).trans elo) ?_
                                        refine u_aload_n h dL_isWhole_304 rfl 13 rfl rfl ?_
                                        refine u_iload h dL_isWhole_305 11 rfl rfl ?_
                                        refine u_iconst (v := 1) h dL_isWhole_307 (by decide) rfl ?_
                                        refine r_visitor h hT hC hw (nI v) 1 dL_isWhole_308 rfl (Nat.le_of_ble_eq_true rfl) ?_
                                        refine u_top (y := (nI st)) ((visA_1 z hv).trans est) ?_
                                        refine u_icmp_gt_N (a := lo) (b := st) (tgt := 318) h dL_isWhole_311 (by decide) (by omega) (by omega) rfl (fun c91 => ?_) (fun c91 => ?_)
                                        · exfalso; omega
                                        · refine u_iconst (v := 1) h dL_isWhole_314 (by decide) rfl ?_
                                          refine u_goto (tgt := 319) h dL_isWhole_315 (by decide) ?_
                                          refine u_istore (lv' := [(9, .int 1), (7, .int (sumZ z 80 (v + 1))), (6, .int (sumZ z 74 (v + 1))), (5, .int (sumZ z 68 (v + 1))), (4, .int (sumZ z 62 (v + 1))), (8, .int (lnM z (v + 1))), (3, .int (atM z 0 (v + 1))), (2, .int (atM z 4 (v + 1))), (13, .int 0), (12, .int (-5)), (11, .int (nI s)), (10, .int (nI v)), (1, .int (nI k)), (0, .ref x0)]) h dL_isWhole_319 (by rw [hL]; decide) rfl rfl ?_
                                          refine u_eql (lv' := [(9, .int 1), (7, .int (sumZ z 80 (v + 1))), (6, .int (sumZ z 74 (v + 1))), (5, .int (sumZ z 68 (v + 1))), (4, .int (sumZ z 62 (v + 1))), (8, .int (lnM z (v + 1))), (3, .int (atM z 0 (v + 1))), (2, .int (atM z 4 (v + 1))), (13, .int 0), (12, .int (-5)), (11, .int (nI s)), (10, .int (nI v)), (1, .int (z 60)), (0, .ref x0)]) (by rw [ek]) ?_
                                          refine u_iinc (k := 11) (v := (nI (v + 1))) (lv' := [(10, .int (nI (v + 1))), (9, .int 1), (7, .int (sumZ z 80 (v + 1))), (6, .int (sumZ z 74 (v + 1))), (5, .int (sumZ z 68 (v + 1))), (4, .int (sumZ z 62 (v + 1))), (8, .int (lnM z (v + 1))), (3, .int (atM z 0 (v + 1))), (2, .int (atM z 4 (v + 1))), (13, .int 0), (12, .int (-5)), (11, .int (nI s)), (1, .int (z 60)), (0, .ref x0)]) h dL_isWhole_321 rfl (nI_add v 1) (by rw [hL]; decide) rfl rfl ?_
                                          refine u_goto (tgt := 31) h dL_isWhole_324 (by decide) ?_
                                          refine u_lv (lv' := [(10, .int (nI (v + 1))), (9, .int 1), (8, .int (lnM z (v + 1))), (7, .int (sumZ z 80 (v + 1))), (6, .int (sumZ z 74 (v + 1))), (5, .int (sumZ z 68 (v + 1))), (4, .int (sumZ z 62 (v + 1))), (3, .int (atM z 0 (v + 1))), (2, .int (atM z 4 (v + 1))), (1, .int (z 60)), (0, .ref x0)]) [0, 1, 6, 2, 3, 4, 5, 7, 8, 12, 13] rfl ?_
                                          exact ihw _ (by omega) (v + 1) rfl (by omega)
                                      refine u_icmp_ne_N (a := k) (b := 2) (tgt := 297) h dL_isWhole_269 (by decide) (by omega) (by omega) rfl (fun c92 => ?_) (fun c92 => ?_)
                                      · exact J88
                                      · refine u_iload h dL_isWhole_272 10 rfl rfl ?_
                                        refine u_if_eq_N (a := s) (tgt := 297) h dL_isWhole_274 (by decide) (by omega) rfl (fun c93 => ?_) (fun c93 => ?_)
                                        · exact J88
                                        · exfalso; omega
                                  refine u_icmp_ne_N (a := s) (b := 4) (tgt := 255) h dL_isWhole_242 (by decide) (by omega) (by omega) rfl (fun c94 => ?_) (fun c94 => ?_)
                                  · exact J84
                                  · refine u_aload_n h dL_isWhole_245 rfl 13 rfl rfl ?_
                                    refine u_iconst (v := 1) h dL_isWhole_246 (by decide) rfl ?_
                                    refine r_total h hT hC hw 1 dL_isWhole_247 rfl (Nat.le_of_ble_eq_true rfl) ?_
                                    refine u_top (y := (nI v)) ((totA_1 z r 0).trans (hin (by omega))) ?_
                                    refine u_iload h dL_isWhole_250 10 rfl rfl ?_
                                    refine u_icmp_ne_N (a := v) (b := v) (tgt := 259) h dL_isWhole_252 (by decide) (by omega) (by omega) rfl (fun c95 => ?_) (fun c95 => ?_)
                                    · exact absurd rfl c95
                                    · exact J84
                                refine u_icmp_lt_N (a := s) (b := 4) (tgt := 239) h dL_isWhole_226 (by decide) (by omega) (by omega) rfl (fun c96 => ?_) (fun c96 => ?_)
                                · exact J81
                                · refine u_iload_n h dL_isWhole_229 rfl 12 rfl rfl ?_
                                  refine u_iconst (v := 3) h dL_isWhole_230 (by decide) rfl ?_
                                  refine u_icmp_eq_N (a := k) (b := 3) (tgt := 239) h dL_isWhole_231 (by decide) (by omega) (by omega) rfl (fun c97 => ?_) (fun c97 => ?_)
                                  · exact J81
                                  · exfalso; omega
                              · exact absurd c80 (by decide)
                          · exact absurd c78 (by decide)
                        refine u_if_eq_N (a := k) (tgt := 192) h dL_isWhole_183 (by decide) (by omega) rfl (fun c98 => ?_) (fun c98 => ?_)
                        · exact J75
                        · refine u_iload h dL_isWhole_186 9 rfl rfl ?_
                          refine u_iconst (v := 5) h dL_isWhole_188 (by decide) rfl ?_
                          refine u_icmp_ge_N (a := s) (b := 5) (tgt := 259) h dL_isWhole_189 (by decide) (by omega) (by omega) rfl (fun c99 => ?_) (fun c99 => ?_)
                          · exfalso; omega
                          · exact J75
                  · exact absurd c72 (by decide)
                refine u_if_ne_N (a := s) (tgt := 104) h dL_isWhole_97 (by decide) (by omega) rfl (fun c100 => ?_) (fun c100 => ?_)
                · refine u_iconst (v := 0) h dL_isWhole_104 (by decide) rfl ?_
                  exact J70 _ (by first | (first | (rw [if_pos (hs0.mpr (by omega))]; done) | (rw [if_neg (fun q9 => absurd (hs0.mp q9) (by omega))]); done) | (exfalso; first | exact absurd (c1.symm.trans c24) (by decide) | exact absurd (c1.symm.trans c100) (by decide) | exact absurd (c24.symm.trans c1) (by decide) | exact absurd (c24.symm.trans c100) (by decide) | exact absurd (c100.symm.trans c1) (by decide) | exact absurd (c100.symm.trans c24) (by decide)))
                · refine u_iconst (v := 1) h dL_isWhole_100 (by decide) rfl ?_
                  refine u_goto (tgt := 105) h dL_isWhole_101 (by decide) ?_
                  exact J70 _ (by first | (first | (rw [if_pos (hs0.mpr (by omega))]; done) | (rw [if_neg (fun q9 => absurd (hs0.mp q9) (by omega))]); done) | (exfalso; first | exact absurd (c1.symm.trans c24) (by decide) | exact absurd (c1.symm.trans c100) (by decide) | exact absurd (c24.symm.trans c1) (by decide) | exact absurd (c24.symm.trans c100) (by decide) | exact absurd (c100.symm.trans c1) (by decide) | exact absurd (c100.symm.trans c24) (by decide)))
              refine u_icmp_ne_N (a := s) (b := 4) (tgt := 91) h dL_isWhole_84 (by decide) (by omega) (by omega) rfl (fun c101 => ?_) (fun c101 => ?_)
              · refine u_iconst (v := 0) h dL_isWhole_91 (by decide) rfl ?_
                exact J68 _ (by first | (first | (rw [if_pos (hs4.mpr (by omega))]; done) | (rw [if_neg (fun q9 => absurd (hs4.mp q9) (by omega))]); done) | (exfalso; first | exact absurd (c1.symm.trans c24) (by decide) | exact absurd (c1.symm.trans c101) (by decide) | exact absurd (c24.symm.trans c1) (by decide) | exact absurd (c24.symm.trans c101) (by decide) | exact absurd (c101.symm.trans c1) (by decide) | exact absurd (c101.symm.trans c24) (by decide)))
              · refine u_iconst (v := 1) h dL_isWhole_87 (by decide) rfl ?_
                refine u_goto (tgt := 92) h dL_isWhole_88 (by decide) ?_
                exact J68 _ (by first | (first | (rw [if_pos (hs4.mpr (by omega))]; done) | (rw [if_neg (fun q9 => absurd (hs4.mp q9) (by omega))]); done) | (exfalso; first | exact absurd (c1.symm.trans c24) (by decide) | exact absurd (c1.symm.trans c101) (by decide) | exact absurd (c24.symm.trans c1) (by decide) | exact absurd (c24.symm.trans c101) (by decide) | exact absurd (c101.symm.trans c1) (by decide) | exact absurd (c101.symm.trans c24) (by decide)))
            refine u_icmp_ge_N (a := k) (b := 3) (tgt := 77) h dL_isWhole_64 (by decide) (by omega) (by omega) rfl (fun c102 => ?_) (fun c102 => ?_)
            · refine u_iconst (v := 0) h dL_isWhole_77 (by decide) rfl ?_
              exact J66 _ (by first | (first | rfl | (exfalso; omega); done) | (exfalso; first | exact absurd (c1.symm.trans c24) (by decide) | exact absurd (c1.symm.trans c102) (by decide) | exact absurd (c24.symm.trans c1) (by decide) | exact absurd (c24.symm.trans c102) (by decide) | exact absurd (c102.symm.trans c1) (by decide) | exact absurd (c102.symm.trans c24) (by decide)))
            · refine u_iload h dL_isWhole_67 1 rfl rfl ?_
              refine u_iconst (v := 1) h dL_isWhole_69 (by decide) rfl ?_
              refine u_icmp_le_N (a := s) (b := 1) (tgt := 77) h dL_isWhole_70 (by decide) (by omega) (by omega) rfl (fun c103 => ?_) (fun c103 => ?_)
              · refine u_iconst (v := 0) h dL_isWhole_77 (by decide) rfl ?_
                exact J66 _ (by first | (first | rfl | (exfalso; omega); done) | (exfalso; first | exact absurd (c1.symm.trans c24) (by decide) | exact absurd (c1.symm.trans c102) (by decide) | exact absurd (c1.symm.trans c103) (by decide) | exact absurd (c24.symm.trans c1) (by decide) | exact absurd (c24.symm.trans c102) (by decide) | exact absurd (c24.symm.trans c103) (by decide) | exact absurd (c102.symm.trans c1) (by decide) | exact absurd (c102.symm.trans c24) (by decide) | exact absurd (c102.symm.trans c103) (by decide) | exact absurd (c103.symm.trans c1) (by decide) | exact absurd (c103.symm.trans c24) (by decide) | exact absurd (c103.symm.trans c102) (by decide)))
              · refine u_iconst (v := 1) h dL_isWhole_73 (by decide) rfl ?_
                refine u_goto (tgt := 78) h dL_isWhole_74 (by decide) ?_
                exact J66 _ (by first | (first | rfl | (exfalso; omega); done) | (exfalso; first | exact absurd (c1.symm.trans c24) (by decide) | exact absurd (c1.symm.trans c102) (by decide) | exact absurd (c1.symm.trans c103) (by decide) | exact absurd (c24.symm.trans c1) (by decide) | exact absurd (c24.symm.trans c102) (by decide) | exact absurd (c24.symm.trans c103) (by decide) | exact absurd (c102.symm.trans c1) (by decide) | exact absurd (c102.symm.trans c24) (by decide) | exact absurd (c102.symm.trans c103) (by decide) | exact absurd (c103.symm.trans c1) (by decide) | exact absurd (c103.symm.trans c24) (by decide) | exact absurd (c103.symm.trans c102) (by decide)))
  exact Lw _ 0 rfl (by omega)
