/-- the loop's head, before its turn n -/
def Hd (G : Gx) (X : Cx) (x0 b n : Nat) : Prop := ∀ (z : Zf) (r : Nat) (hz : Nat → Zf) (zp : Zf) (w : va_W), IsO G x0 z r hz true zp w → GA (6000 * n) z r hz zp → U G X 47 3488 w 94 [(0, .ref b), (1, .ref x0), (2, .int 1), (3, .long (seenZ zp)), (5, .int (cntZ zp 6)), (6, .int (nI n))] []
set_option maxHeartbeats 16000000 in
set_option maxRecDepth 100000 in
theorem lw_tail {G : Gx} {X : Cx} {b L : Nat} {xs : Nat → Int32} (h : CX G X cL_law RL gT) (hR : gR X = room_1) (hL : gL X = 16) (hLX : LX X b L xs) (hL20 : L < 2 ^ 20) (hQ : LQ X b) {x0 n : Nat} (hn : n < 64) (hHd : Hd G X x0 b (n + 1)) {z : Zf} {r : Nat} {hz : Nat → Zf} {zp : Zf} {w : va_W} (hw : IsO G x0 z r hz true zp w) (hga : GA (6000 * (n + 1)) z r hz zp) : U G X 47 3488 w 283 [(0, .ref b), (1, .ref x0), (2, .int 1), (3, .long (seenZ zp)), (5, .int (cntZ zp 6)), (6, .int (nI n))] [] := by
  have hT : ∀ q ∈ gT, q ∈ gT := fun q h9 => h9
  have hC : LC X 47 3488 := by unfold LC; rw [hR]; exact ⟨Nat.le_of_ble_eq_true rfl, Nat.le_of_ble_eq_true rfl, Nat.le_of_ble_eq_true rfl, Nat.le_of_ble_eq_true rfl⟩
  have hr := hw.r
  have hr31 : recN r < 2 ^ 31 := by have := recN_le4 hr; omega
  refine u_iload_n h dL_law_283 rfl 2 rfl rfl ?_
  refine u_if_eq_N (a := 1) (tgt := 367) h dL_law_284 (by decide) (by omega) rfl (fun c1 => ?_) (fun c1 => ?_)
  · exact absurd c1 (by decide)
  · refine u_iload h dL_law_287 5 rfl rfl ?_
    refine u_bipush (v := 16) h dL_law_289 (by decide) rfl ?_
    refine u_irem (v := (nI (n % 16))) h dL_law_291 (by decide) (pk_rem (a := n) (d := 16) (by omega) (by omega) (by omega)) rfl ?_
    refine u_bipush (v := 15) h dL_law_292 (by decide) rfl ?_
    refine u_icmp_ne_N (a := (n % 16)) (b := 15) (tgt := 367) h dL_law_294 (by decide) (by omega) (by omega) rfl (fun c2 => ?_) (fun c2 => ?_)
    · refine u_iinc (k := 5) (v := (nI (n + 1))) (lv' := [(6, .int (nI (n + 1))), (0, .ref b), (1, .ref x0), (2, .int 1), (3, .long (seenZ zp)), (5, .int (cntZ zp 6))]) h dL_law_367 rfl (nI_add n 1) (by rw [hL]; decide) rfl rfl ?_
      refine u_goto (tgt := 94) h dL_law_370 (by decide) ?_
      refine u_lv (lv' := [(0, .ref b), (1, .ref x0), (2, .int 1), (3, .long (seenZ zp)), (5, .int (cntZ zp 6)), (6, .int (nI (n + 1)))]) [1, 2, 3, 4, 5, 0] rfl ?_
      exact hHd z r hz zp _ hw hga
    · refine u_aload_n h dL_law_297 rfl 1 rfl rfl ?_
      refine u_own h (n := 1) (As := [.ref x0]) (lk_seen hw) ⟨gIn_to glL_69 hT, ⟨_, rfl⟩, by decide +kernel, by decide, by decide⟩ rfl rfl ⟨⟨rfl, rfl⟩, by rw [hR]; decide, by rw [hR]; decide⟩ ⟨by rw [hR]; exact Nat.le_of_ble_eq_true rfl, by rw [hR]; exact Nat.le_of_ble_eq_true rfl⟩ (Nat.le_of_ble_eq_true rfl) rfl dL_law_298 rfl (fun v9 u9 hp9 => ?_)
      obtain ⟨rfl, rfl⟩ := hp9
      refine u_eqs (st' := [.long (seenZ z)]) rfl ?_
      refine u_lstore (lv' := [(13, .long (seenZ z)), (0, .ref b), (1, .ref x0), (2, .int 1), (3, .long (seenZ zp)), (5, .int (cntZ zp 6)), (6, .int (nI n))]) h dL_law_301 (by rw [hL]; decide) rfl rfl ?_
      refine u_aload_n h dL_law_303 rfl 2 rfl rfl ?_
      refine u_iconst (v := 3) h dL_law_304 (by decide) rfl ?_
      refine r_total h hT hC hw 3 dL_law_305 rfl (Nat.le_of_ble_eq_true rfl) ?_
      refine u_top (y := (cntZ z 6)) (totA_3 z r 0) ?_
      refine u_istore (lv' := [(15, .int (cntZ z 6)), (13, .long (seenZ z)), (0, .ref b), (1, .ref x0), (2, .int 1), (3, .long (seenZ zp)), (5, .int (cntZ zp 6)), (6, .int (nI n))]) h dL_law_308 (by rw [hL]; decide) rfl rfl ?_
      refine u_aload_n h dL_law_310 rfl 3 rfl rfl ?_
      refine r_restore h hT hC hw dL_law_311 rfl (Nat.le_of_ble_eq_true rfl) (fun w3 hw4 => ?_)
      replace hw4 := hw4.yes rfl
      refine u_top (y := (cntZ zp 6)) rfl ?_
      refine u_iload h dL_law_314 6 rfl rfl ?_
      refine u_icmp_ne (tgt := 358) h dL_law_316 (by decide) rfl (fun c5 => ?_) (fun c5 => ?_)
      · exact absurd rfl c5
      · refine u_aload_n h dL_law_319 rfl 3 rfl rfl ?_
        refine u_own h (n := 1) (As := [.ref x0]) (lk_seen hw4) ⟨gIn_to glL_69 hT, ⟨_, rfl⟩, by decide +kernel, by decide, by decide⟩ rfl rfl ⟨⟨rfl, rfl⟩, by rw [hR]; decide, by rw [hR]; decide⟩ ⟨by rw [hR]; exact Nat.le_of_ble_eq_true rfl, by rw [hR]; exact Nat.le_of_ble_eq_true rfl⟩ (Nat.le_of_ble_eq_true rfl) rfl dL_law_320 rfl (fun v9 u9 hp9 => ?_)
        obtain ⟨rfl, rfl⟩ := hp9
        refine u_eqs (st' := [.long (seenZ zp)]) rfl ?_
        refine u_lload_n h dL_law_323 rfl 5 rfl rfl ?_
        refine u_lcmpE h rfl dL_law_324 rfl ?_
        refine u_if_ne_N (a := 0) (tgt := 358) h dL_law_325 (by decide) (by omega) rfl (fun c6 => ?_) (fun c6 => ?_)
        · exact absurd c6 (by decide)
        · refine u_aload_n h dL_law_328 rfl 3 rfl rfl ?_
          refine r_undo h hT hC hw4 dL_law_329 rfl (Nat.le_of_ble_eq_true rfl) (fun w7 hw8 => ?_)
          replace hw8 := hw8.und hr
          refine u_top (y := (nI (recN r - 1))) un_ans ?_
          refine u_if_lt_N (a := (recN r - 1)) (tgt := 358) h dL_law_332 (by decide) (by omega) rfl (fun c9 => ?_) (fun c9 => ?_)
          · exact absurd c9 (Nat.not_lt_zero _)
          · refine u_aload_n h dL_law_335 rfl 3 rfl rfl ?_
            refine u_own h (n := 1) (As := [.ref x0]) (lk_seen hw8) ⟨gIn_to glL_69 hT, ⟨_, rfl⟩, by decide +kernel, by decide, by decide⟩ rfl rfl ⟨⟨rfl, rfl⟩, by rw [hR]; decide, by rw [hR]; decide⟩ ⟨by rw [hR]; exact Nat.le_of_ble_eq_true rfl, by rw [hR]; exact Nat.le_of_ble_eq_true rfl⟩ (Nat.le_of_ble_eq_true rfl) rfl dL_law_336 rfl (fun v9 u9 hp9 => ?_)
            obtain ⟨rfl, rfl⟩ := hp9
            refine u_eqs (st' := [.long (seenZ z)]) rfl ?_
            refine u_lload h dL_law_339 1 rfl rfl ?_
            refine u_lcmpE h rfl dL_law_341 rfl ?_
            refine u_if_ne_N (a := 0) (tgt := 358) h dL_law_342 (by decide) (by omega) rfl (fun c10 => ?_) (fun c10 => ?_)
            · exact absurd c10 (by decide)
            · refine u_aload_n h dL_law_345 rfl 3 rfl rfl ?_
              refine r_keep h hT hC hw8 dL_law_346 rfl (Nat.le_of_ble_eq_true rfl) (fun w11 hw12 => ?_)
              refine u_top (y := (cntZ z 6)) rfl ?_
              refine u_iload h dL_law_349 0 rfl rfl ?_
              refine u_icmp_ne (tgt := 358) h dL_law_351 (by decide) rfl (fun c13 => ?_) (fun c13 => ?_)
              · exact absurd rfl c13
              · refine u_iconst (v := 1) h dL_law_354 (by decide) rfl ?_
                refine u_goto (tgt := 359) h dL_law_355 (by decide) ?_
                refine u_istore_n (lv' := [(2, .int 1), (15, .int (cntZ z 6)), (13, .long (seenZ z)), (0, .ref b), (1, .ref x0), (3, .long (seenZ zp)), (5, .int (cntZ zp 6)), (6, .int (nI n))]) h dL_law_359 rfl (by rw [hL]; decide) rfl rfl ?_
                refine u_lload h dL_law_360 2 rfl rfl ?_
                refine u_lstore_n (lv' := [(3, .long (seenZ z)), (2, .int 1), (15, .int (cntZ z 6)), (13, .long (seenZ z)), (0, .ref b), (1, .ref x0), (5, .int (cntZ zp 6)), (6, .int (nI n))]) h dL_law_362 rfl (by rw [hL]; decide) rfl rfl ?_
                refine u_iload h dL_law_363 2 rfl rfl ?_
                refine u_istore (lv' := [(5, .int (cntZ z 6)), (3, .long (seenZ z)), (2, .int 1), (15, .int (cntZ z 6)), (13, .long (seenZ z)), (0, .ref b), (1, .ref x0), (6, .int (nI n))]) h dL_law_365 (by rw [hL]; decide) rfl rfl ?_
                refine u_iinc (k := 7) (v := (nI (n + 1))) (lv' := [(6, .int (nI (n + 1))), (5, .int (cntZ z 6)), (3, .long (seenZ z)), (2, .int 1), (15, .int (cntZ z 6)), (13, .long (seenZ z)), (0, .ref b), (1, .ref x0)]) h dL_law_367 rfl (nI_add n 1) (by rw [hL]; decide) rfl rfl ?_
                refine u_goto (tgt := 94) h dL_law_370 (by decide) ?_
                refine u_lv (lv' := [(0, .ref b), (1, .ref x0), (2, .int 1), (3, .long (seenZ z)), (5, .int (cntZ z 6)), (6, .int (nI (n + 1)))]) [6, 7, 3, 2, 1, 0] rfl ?_
                exact hHd z (recN r - 1) (rmH hz z r) z _ hw12 ((hga.rm hr hga.2.2).un hga.1 (Nat.sub_le _ _)).keep
