set_option maxHeartbeats 16000000 in
set_option maxRecDepth 100000 in
theorem lw_pre {G : Gx} {X : Cx} {b L : Nat} {xs : Nat → Int32} (h : CX G X cL_law RL gT) (hR : gR X = room_1) (hL : gL X = 16) (hLX : LX X b L xs) (hL20 : L < 2 ^ 20) (hQ : LQ X b) {x0 : Nat} (hHd : Hd G X x0 b 0) {w : va_W} (hw : IsO G x0 zI 0 (fun _ => zI) false zI w) : U G X 47 3488 w 8 [(1, .ref x0), (0, .ref b)] [] := by
  have hT : ∀ q ∈ gT, q ∈ gT := fun q h9 => h9
  have hC : LC X 47 3488 := by unfold LC; rw [hR]; exact ⟨Nat.le_of_ble_eq_true rfl, Nat.le_of_ble_eq_true rfl, Nat.le_of_ble_eq_true rfl, Nat.le_of_ble_eq_true rfl⟩
  refine u_aload_n h dL_law_8 rfl 0 rfl rfl ?_
  refine r_undo h hT hC hw dL_law_9 rfl (Nat.le_of_ble_eq_true rfl) (fun w1 hw2 => ?_)
  replace hw2 : IsO G x0 zI 0 (fun _ => zI) false zI _ := hw2
  refine u_top (y := (-5)) rfl ?_
  refine u_bipush (v := (-5)) h dL_law_12 (by decide) rfl ?_
  refine u_icmp_ne (tgt := 81) h dL_law_14 (by decide) rfl (fun c3 => ?_) (fun c3 => ?_)
  · exact absurd c3 (by decide)
  · refine u_aload_n h dL_law_17 rfl 0 rfl rfl ?_
    refine r_restore h hT hC hw2 dL_law_18 rfl (Nat.le_of_ble_eq_true rfl) (fun w4 hw5 => ?_)
    replace hw5 : IsO G x0 zI 0 (fun _ => zI) false zI _ := hw5.no rfl
    refine u_top (y := (-5)) rfl ?_
    refine u_bipush (v := (-5)) h dL_law_21 (by decide) rfl ?_
    refine u_icmp_ne (tgt := 81) h dL_law_23 (by decide) rfl (fun c6 => ?_) (fun c6 => ?_)
    · exact absurd c6 (by decide)
    · refine u_aload_n h dL_law_26 rfl 0 rfl rfl ?_
      refine u_bipush (v := 12) h dL_law_27 (by decide) rfl ?_
      refine r_total h hT hC hw5 12 dL_law_29 rfl (Nat.le_of_ble_eq_true rfl) ?_
      refine u_top (y := 1) ((totA_12 zI 0 0).trans zI_x1) ?_
      refine u_iconst (v := 1) h dL_law_32 (by decide) rfl ?_
      refine u_icmp_ne_N (a := 1) (b := 1) (tgt := 81) h dL_law_33 (by decide) (by omega) (by omega) rfl (fun c7 => ?_) (fun c7 => ?_)
      · exact absurd c7 (by decide)
      · refine u_aload_n h dL_law_36 rfl 0 rfl rfl ?_
        refine u_iconst (v := 0) h dL_law_37 (by decide) rfl ?_
        refine r_total h hT hC hw5 0 dL_law_38 rfl (Nat.le_of_ble_eq_true rfl) ?_
        refine u_top (y := 0) ((totA_0 zI 0 0).trans zI_k0) ?_
        refine u_if_ne_N (a := 0) (tgt := 81) h dL_law_41 (by decide) (by omega) rfl (fun c8 => ?_) (fun c8 => ?_)
        · exact absurd c8 (by decide)
        · refine u_aload_n h dL_law_44 rfl 0 rfl rfl ?_
          refine u_iconst (v := 2) h dL_law_45 (by decide) rfl ?_
          refine r_total h hT hC hw5 2 dL_law_46 rfl (Nat.le_of_ble_eq_true rfl) ?_
          refine u_top (y := (-5)) ((totA_2 zI 0 0).trans (if_pos (Or.inr zI_t1))) ?_
          refine u_bipush (v := (-5)) h dL_law_49 (by decide) rfl ?_
          refine u_icmp_ne (tgt := 81) h dL_law_51 (by decide) rfl (fun c9 => ?_) (fun c9 => ?_)
          · exact absurd c9 (by decide)
          · refine u_aload_n h dL_law_54 rfl 0 rfl rfl ?_
            refine u_iconst (v := 0) h dL_law_55 (by decide) rfl ?_
            refine u_own h (n := 2) (As := [.ref x0, .int 0]) (lk_refuses hw5 (k := 0) (by decide)) ⟨gIn_to glL_95 hT, ⟨_, rfl⟩, by decide +kernel, by decide, by decide⟩ rfl rfl ⟨⟨rfl, rfl⟩, by rw [hR]; decide, by rw [hR]; decide⟩ ⟨by rw [hR]; exact Nat.le_of_ble_eq_true rfl, by rw [hR]; exact Nat.le_of_ble_eq_true rfl⟩ (Nat.le_of_ble_eq_true rfl) rfl dL_law_56 rfl (fun v9 w10 hp9 => ?_)
            obtain ⟨rfl, hw11⟩ := hp9
            refine u_eqs (st' := [.int 1]) rfl ?_
            refine u_if_eq_N (a := 1) (tgt := 81) h dL_law_59 (by decide) (by omega) rfl (fun c12 => ?_) (fun c12 => ?_)
            · exact absurd c12 (by decide)
            · refine u_aload_n h dL_law_62 rfl 0 rfl rfl ?_
              refine u_iconst (v := 1) h dL_law_63 (by decide) rfl ?_
              refine u_own h (n := 2) (As := [.ref x0, .int 1]) (lk_refuses hw11 (k := 1) (by decide)) ⟨gIn_to glL_95 hT, ⟨_, rfl⟩, by decide +kernel, by decide, by decide⟩ rfl rfl ⟨⟨rfl, rfl⟩, by rw [hR]; decide, by rw [hR]; decide⟩ ⟨by rw [hR]; exact Nat.le_of_ble_eq_true rfl, by rw [hR]; exact Nat.le_of_ble_eq_true rfl⟩ (Nat.le_of_ble_eq_true rfl) rfl dL_law_64 rfl (fun v9 w13 hp9 => ?_)
              obtain ⟨rfl, hw14⟩ := hp9
              refine u_eqs (st' := [.int 1]) rfl ?_
              refine u_if_eq_N (a := 1) (tgt := 81) h dL_law_67 (by decide) (by omega) rfl (fun c15 => ?_) (fun c15 => ?_)
              · exact absurd c15 (by decide)
              · refine u_aload_n h dL_law_70 rfl 0 rfl rfl ?_
                refine r_keep h hT hC hw14 dL_law_71 rfl (Nat.le_of_ble_eq_true rfl) (fun w16 hw17 => ?_)
                refine u_top (y := 0) zI_c6 ?_
                refine u_if_ne_N (a := 0) (tgt := 81) h dL_law_74 (by decide) (by omega) rfl (fun c18 => ?_) (fun c18 => ?_)
                · exact absurd c18 (by decide)
                · refine u_iconst (v := 1) h dL_law_77 (by decide) rfl ?_
                  refine u_goto (tgt := 82) h dL_law_78 (by decide) ?_
                  refine u_istore_n (lv' := [(2, .int 1), (1, .ref x0), (0, .ref b)]) h dL_law_82 rfl (by rw [hL]; decide) rfl rfl ?_
                  refine u_aload_n h dL_law_83 rfl 1 rfl rfl ?_
                  refine u_own h (n := 1) (As := [.ref x0]) (lk_seen hw17) ⟨gIn_to glL_69 hT, ⟨_, rfl⟩, by decide +kernel, by decide, by decide⟩ rfl rfl ⟨⟨rfl, rfl⟩, by rw [hR]; decide, by rw [hR]; decide⟩ ⟨by rw [hR]; exact Nat.le_of_ble_eq_true rfl, by rw [hR]; exact Nat.le_of_ble_eq_true rfl⟩ (Nat.le_of_ble_eq_true rfl) rfl dL_law_84 rfl (fun v9 u9 hp9 => ?_)
                  obtain ⟨rfl, rfl⟩ := hp9
                  refine u_eqs (st' := [.long (seenZ zI)]) rfl ?_
                  refine u_lstore_n (lv' := [(3, .long (seenZ zI)), (2, .int 1), (1, .ref x0), (0, .ref b)]) h dL_law_87 rfl (by rw [hL]; decide) rfl rfl ?_
                  refine u_iconst (v := 0) h dL_law_88 (by decide) rfl ?_
                  refine u_istore (lv' := [(5, .int 0), (3, .long (seenZ zI)), (2, .int 1), (1, .ref x0), (0, .ref b)]) h dL_law_89 (by rw [hL]; decide) rfl rfl ?_
                  refine u_iconst (v := 0) h dL_law_91 (by decide) rfl ?_
                  refine u_istore (lv' := [(6, .int 0), (5, .int 0), (3, .long (seenZ zI)), (2, .int 1), (1, .ref x0), (0, .ref b)]) h dL_law_92 (by rw [hL]; decide) rfl rfl ?_
                  refine u_lv (lv' := [(0, .ref b), (1, .ref x0), (2, .int 1), (3, .long (seenZ zI)), (5, .int 0), (6, .int 0)]) [5, 4, 3, 2, 1, 0] rfl ?_
                  refine u_eql (lv' := [(0, .ref b), (1, .ref x0), (2, .int 1), (3, .long (seenZ zI)), (5, .int (cntZ zI 6)), (6, .int (nI 0))]) (by first | (rw [zI_c6]; done) | (rw [zI_c6]; rfl)) ?_
                  exact hHd zI 0 (fun _ => zI) zI _ hw17 ⟨⟨zI_G3, zI_Ct⟩, fun j hj => absurd hj (Nat.not_lt_zero j), zI_G3, zI_Ct⟩
theorem nwL_law_14 : NW gT RL 14 4 10 [.null, .null, .null, .int 0, .null, .int 0, .null, .int 0, .null, .null] := ⟨RX4, TX4, tyX4, rfl, fun w9 h9 => gT_w (inX4 w9 h9) (List.all_eq_true.mp (show (u_ws RX4 TX4 10).all goodWord = true by decide +kernel) w9 h9), tyX4_ok, by decide, gk_wm_0, gT_w wm_1 (by decide +kernel), gT_w wm_2 (by decide +kernel)⟩
theorem cwL_law_X4_init : CWd gT wsX4_init yX4_init wsX4_init cX4_init 2 none 0 := ⟨gT_of tgX4_init, ⟨_, rfl⟩, by decide +kernel, by decide, by decide⟩
theorem fL_0 (pl : Nat → Nat) : fL pl 0 = fun _ => none := by
  funext j
  exact fL_ge (Nat.zero_le j)
set_option maxHeartbeats 16000000 in
set_option maxRecDepth 100000 in
theorem lw_begin {G : Gx} {X : Cx} {b L : Nat} {xs : Nat → Int32} (h : CX G X cL_law RL gT) (hR : gR X = room_1) (hL : gL X = 16) (hLX : LX X b L xs) (hL20 : L < 2 ^ 20) (hQ : LQ X b) (hHd : ∀ x0 : Nat, Hd G X x0 b 0) : U G X 0 0 [] 0 [(0, .ref b)] [] := by
  refine u_new h nwL_law_14 hR (Nat.le_of_ble_eq_true rfl) (Nat.le_of_ble_eq_true rfl) dL_law_0 rfl (fun x0 => ?_)
  refine u_eqw (ws' := [(x0, .inr (4, [.null, .null, .null, .int 0, .null, .int 0, .null, .int 0, .null, .null]))]) rfl ?_
  refine u_eqc (cells' := 1) (slots' := 10) rfl rfl ?_
  refine u_dup h dL_law_3 rfl rfl ?_
  refine u_callI h (As := []) (wc := [(x0, .inr (4, [.null, .null, .null, .int 0, .null, .int 0, .null, .int 0, .null, .null]))]) (wr := []) (kX4_init G x0) cwL_law_X4_init rfl glL_init_n glL_88 glL_init_i rfl hR ⟨⟨rfl, rfl⟩, Nat.le_of_ble_eq_true rfl, Nat.le_of_ble_eq_true rfl⟩ ⟨by show 1 + 46 ≤ 600000; omega, by show 10 + 3478 ≤ 7302250; omega⟩ [0] [] rfl rfl rfl rfl (by decide) (Nat.le_of_ble_eq_true rfl) rfl dL_law_4 rfl (fun v9 u8 hp8 => ?_)
  obtain ⟨rfl, hp8⟩ := hp8
  refine u_eqw (ws' := u8) rfl ?_
  refine u_eqc (cells' := 47) (slots' := 3488) rfl rfl ?_
  refine u_eqs (st' := [.ref x0]) rfl ?_
  refine u_astore_n (lv' := [(1, .ref x0), (0, .ref b)]) h dL_law_7 rfl (by rw [hL]; decide) rfl rfl ?_
  obtain ⟨hh, tx, S, T, P, A, sc, ex, rfl⟩ := hp8
  refine u_wp (ws' := [(x0, .inr (4, [.ref (S 0), .ref (T 0), .ref (P 0), .int 0, .ref hh, .int 0, .ref tx, .int 0, .ref (sc 0), .ref (ex 0)])), (hh, aS G 4 (hA A)), ((S 0), .inr (3, [.ref (S 1), .ref (S 3), .ref (S 4), .int (zI 53), .int (zI 61)])), ((S 1), .inr (1, [.ref (S 2)])), ((S 2), aI G 54 (encC zI)), ((S 3), aI G 24 (cntC zI)), ((S 4), aI G 6 (linC zI)), ((A 0 0), .inr (3, [.ref (A 0 1), .ref (A 0 3), .ref (A 0 4), .int (zI 53), .int (zI 61)])), ((A 0 1), .inr (1, [.ref (A 0 2)])), ((A 0 2), aI G 54 (encC zI)), ((A 0 3), aI G 24 (cntC zI)), ((A 0 4), aI G 6 (linC zI)), ((A 1 0), .inr (3, [.ref (A 1 1), .ref (A 1 3), .ref (A 1 4), .int (zI 53), .int (zI 61)])), ((A 1 1), .inr (1, [.ref (A 1 2)])), ((A 1 2), aI G 54 (encC zI)), ((A 1 3), aI G 24 (cntC zI)), ((A 1 4), aI G 6 (linC zI)), ((A 2 0), .inr (3, [.ref (A 2 1), .ref (A 2 3), .ref (A 2 4), .int (zI 53), .int (zI 61)])), ((A 2 1), .inr (1, [.ref (A 2 2)])), ((A 2 2), aI G 54 (encC zI)), ((A 2 3), aI G 24 (cntC zI)), ((A 2 4), aI G 6 (linC zI)), ((A 3 0), .inr (3, [.ref (A 3 1), .ref (A 3 3), .ref (A 3 4), .int (zI 53), .int (zI 61)])), ((A 3 1), .inr (1, [.ref (A 3 2)])), ((A 3 2), aI G 54 (encC zI)), ((A 3 3), aI G 24 (cntC zI)), ((A 3 4), aI G 6 (linC zI)), ((T 0), .inr (3, [.ref (T 1), .ref (T 3), .ref (T 4), .int (zI 53), .int (zI 61)])), ((T 1), .inr (1, [.ref (T 2)])), ((T 2), aI G 54 (encC zI)), ((T 3), aI G 24 (cntC zI)), ((T 4), aI G 6 (linC zI)), ((P 0), .inr (3, [.ref (P 1), .ref (P 3), .ref (P 4), .int (zI 53), .int (zI 61)])), ((P 1), .inr (1, [.ref (P 2)])), ((P 2), aI G 54 (encC zI)), ((P 3), aI G 24 (cntC zI)), ((P 4), aI G 6 (linC zI)), (tx, aC G 60 (fun _ => 0)), ((sc 0), .inr (2, [.ref (sc 1), .ref (sc 2), .ref (sc 3), .int 0, .int 0])), ((sc 1), aB G 2000 (fun _ => 0)), ((sc 2), aI G 60 (fun _ => 0)), ((sc 3), aI G 60 (fun _ => 0)), ((ex 0), .inr (0, [.ref (ex 1), .ref (ex 2), .ref (ex 3), .int 0])), ((ex 1), aL G 300 (fun _ => none)), ((ex 2), aI G 300 (fun _ => 0)), ((ex 3), .inr (1, [.ref (ex 4)])), ((ex 4), aI G 54 (encC zI))]) [0, 1, 2, 3, 4, 5, 6, 17, 18, 19, 20, 21, 22, 23, 24, 25, 26, 27, 28, 29, 30, 31, 32, 33, 34, 35, 36, 7, 8, 9, 10, 11, 12, 13, 14, 15, 16, 37, 38, 39, 40, 41, 42, 43, 44, 45, 46] rfl rfl ?_
  refine u_eqw (ws' := [(x0, .inr (4, [.ref (S 0), .ref (T 0), .ref (P 0), .int (bI false), .ref hh, .int (nI 0), .ref tx, .int (nI 0), .ref (sc 0), .ref (ex 0)])), (hh, aS G 4 (hA A)), ((S 0), .inr (3, [.ref (S 1), .ref (S 3), .ref (S 4), .int (zI 53), .int (zI 61)])), ((S 1), .inr (1, [.ref (S 2)])), ((S 2), aI G 54 (encC zI)), ((S 3), aI G 24 (cntC zI)), ((S 4), aI G 6 (linC zI)), ((A 0 0), .inr (3, [.ref (A 0 1), .ref (A 0 3), .ref (A 0 4), .int (((fun _ => zI) 0) 53), .int (((fun _ => zI) 0) 61)])), ((A 0 1), .inr (1, [.ref (A 0 2)])), ((A 0 2), aI G 54 (encC ((fun _ => zI) 0))), ((A 0 3), aI G 24 (cntC ((fun _ => zI) 0))), ((A 0 4), aI G 6 (linC ((fun _ => zI) 0))), ((A 1 0), .inr (3, [.ref (A 1 1), .ref (A 1 3), .ref (A 1 4), .int (((fun _ => zI) 1) 53), .int (((fun _ => zI) 1) 61)])), ((A 1 1), .inr (1, [.ref (A 1 2)])), ((A 1 2), aI G 54 (encC ((fun _ => zI) 1))), ((A 1 3), aI G 24 (cntC ((fun _ => zI) 1))), ((A 1 4), aI G 6 (linC ((fun _ => zI) 1))), ((A 2 0), .inr (3, [.ref (A 2 1), .ref (A 2 3), .ref (A 2 4), .int (((fun _ => zI) 2) 53), .int (((fun _ => zI) 2) 61)])), ((A 2 1), .inr (1, [.ref (A 2 2)])), ((A 2 2), aI G 54 (encC ((fun _ => zI) 2))), ((A 2 3), aI G 24 (cntC ((fun _ => zI) 2))), ((A 2 4), aI G 6 (linC ((fun _ => zI) 2))), ((A 3 0), .inr (3, [.ref (A 3 1), .ref (A 3 3), .ref (A 3 4), .int (((fun _ => zI) 3) 53), .int (((fun _ => zI) 3) 61)])), ((A 3 1), .inr (1, [.ref (A 3 2)])), ((A 3 2), aI G 54 (encC ((fun _ => zI) 3))), ((A 3 3), aI G 24 (cntC ((fun _ => zI) 3))), ((A 3 4), aI G 6 (linC ((fun _ => zI) 3))), ((T 0), .inr (3, [.ref (T 1), .ref (T 3), .ref (T 4), .int (zI 53), .int (zI 61)])), ((T 1), .inr (1, [.ref (T 2)])), ((T 2), aI G 54 (encC zI)), ((T 3), aI G 24 (cntC zI)), ((T 4), aI G 6 (linC zI)), ((P 0), .inr (3, [.ref (P 1), .ref (P 3), .ref (P 4), .int (zI 53), .int (zI 61)])), ((P 1), .inr (1, [.ref (P 2)])), ((P 2), aI G 54 (encC zI)), ((P 3), aI G 24 (cntC zI)), ((P 4), aI G 6 (linC zI)), (tx, aC G 60 (fun _ => 0)), ((sc 0), .inr (2, [.ref (sc 1), .ref (sc 2), .ref (sc 3), .int 0, .int 0])), ((sc 1), aB G 2000 (fun _ => 0)), ((sc 2), aI G 60 (fun _ => 0)), ((sc 3), aI G 60 (fun _ => 0)), ((ex 0), .inr (0, [.ref (ex 1), .ref (ex 2), .ref (ex 3), .int 0])), ((ex 1), aL G 300 (fL (fun _ => 0) 0)), ((ex 2), aI G 300 (fun _ => 0)), ((ex 3), .inr (1, [.ref (ex 4)])), ((ex 4), aI G 54 (encC zI))]) (by rw [fL_0]; rfl) ?_
  exact lw_pre h hR hL hLX hL20 hQ (hHd x0) ⟨⟨zI_inv, Nat.zero_le _, fun j hj => absurd hj (Nat.not_lt_zero j), fun h9 => by cases h9⟩, hh, tx, (sc 0), (ex 0), (sc 1), (sc 2), (sc 3), (ex 1), (ex 2), (ex 3), (ex 4), S, T, P, (fun _ => 0), A, zI, (fun _ => 0), (fun _ => 0), (fun _ => 0), (fun _ => 0), (fun _ => 0), zI, 0, 0, 0, rfl⟩
