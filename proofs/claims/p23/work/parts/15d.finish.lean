set_option maxHeartbeats 8000000 in
set_option maxRecDepth 100000 in
/-- finish -/
theorem lk_finish0 {G : Gx} {x0 : Nat} {z : Zf} {r : Nat} {hz : Nat → Zf} {kb : Bool} {zp : Zf} {w : va_W} (hw : IsO G x0 z r hz kb zp w) {N : Nat} (hG : G3 z) (hN : FiC z N) (hc : cntZ z 6 = 0) : MC G yL_finish sL_finish rA [.ref x0] w (fun v' u' => v' = some (.int (-5)) ∧ IsO G x0 z r hz kb zp u') 0 0 := by
  refine mc_of (cc := cL_finish) (maxL := 7) (ret := (some .int)) (by decide) rfl (Nat.le_of_ble_eq_true rfl) (fun X h hR hL hRT => ?_)
  have hT : ∀ q ∈ gT, q ∈ sL_finish := fun q h9 => lwS_in h9
  have hC : LC X 0 0 := by unfold LC; rw [hR]; decide
  refine u_eql (lv' := [(0, .ref x0)]) rfl ?_
  have hI := hw.i
  obtain ⟨-, -, -, -, -, -, e4, e5, -⟩ := fin_all hI hG hN
  rw [fin_0 hN hc] at e4 e5
  refine u_aload_n h dL_finish_0 rfl 0 rfl rfl ?_
  refine r_stepsToFinish h hT hC hw N hN dL_finish_1 rfl (Nat.le_of_ble_eq_true rfl) (fun w1 hw2 => ?_)
  refine u_top (y := 0) (finA_no hN hc) ?_
  refine u_istore_n (lv' := [(1, .int 0), (0, .ref x0)]) h dL_finish_4 rfl (by rw [hL]; decide) rfl rfl ?_
  refine u_aload_n h dL_finish_5 rfl 1 rfl rfl ?_
  refine u_iconst (v := 5) h dL_finish_6 (by decide) rfl ?_
  refine r_total h hT hC hw2 5 dL_finish_7 rfl (Nat.le_of_ble_eq_true rfl) ?_
  refine u_istore_n (lv' := [(2, .int (totA z r 0 5)), (1, .int 0), (0, .ref x0)]) h dL_finish_10 rfl (by rw [hL]; decide) rfl rfl ?_
  refine u_aload_n h dL_finish_11 rfl 2 rfl rfl ?_
  refine u_bipush (v := 7) h dL_finish_12 (by decide) rfl ?_
  refine r_total h hT hC hw2 7 dL_finish_14 rfl (Nat.le_of_ble_eq_true rfl) ?_
  refine u_top (y := (sumZ z 74 6)) (totA_7 z r 0) ?_
  refine u_istore_n (lv' := [(3, .int (sumZ z 74 6)), (2, .int (totA z r 0 5)), (1, .int 0), (0, .ref x0)]) h dL_finish_17 rfl (by rw [hL]; decide) rfl rfl ?_
  refine u_aload_n h dL_finish_18 rfl 3 rfl rfl ?_
  refine u_iconst (v := 3) h dL_finish_19 (by decide) rfl ?_
  refine r_total h hT hC hw2 3 dL_finish_20 rfl (Nat.le_of_ble_eq_true rfl) ?_
  refine u_top (y := 0) ((totA_3 z r 0).trans hc) ?_
  refine u_istore (lv' := [(4, .int 0), (3, .int (sumZ z 74 6)), (2, .int (totA z r 0 5)), (1, .int 0), (0, .ref x0)]) h dL_finish_23 (by rw [hL]; decide) rfl rfl ?_
  refine u_aload_n h dL_finish_25 rfl 4 rfl rfl ?_
  refine r_finish h hT hC hw2 N (fun _ => hN) dL_finish_26 rfl (Nat.le_of_ble_eq_true rfl) (fun w3 hw4 => ?_)
  replace hw4 := hw4.no (okF_no hc)
  refine u_top (y := (-5)) (finishA_no hc) ?_
  refine u_istore (lv' := [(5, .int (-5)), (4, .int 0), (3, .int (sumZ z 74 6)), (2, .int (totA z r 0 5)), (1, .int 0), (0, .ref x0)]) h dL_finish_29 (by rw [hL]; decide) rfl rfl ?_
  refine u_iload h dL_finish_31 0 rfl rfl ?_
  refine u_iload h dL_finish_33 1 rfl rfl ?_
  refine u_if_ne_N (a := 0) (tgt := 43) h dL_finish_35 (by decide) (by omega) rfl (fun c5 => ?_) (fun c5 => ?_)
  · exact absurd c5 (by decide)
  · refine u_bipush (v := (-5)) h dL_finish_38 (by decide) rfl ?_
    refine u_goto (tgt := 44) h dL_finish_40 (by decide) ?_
    refine u_icmp_ne (tgt := 103) h dL_finish_44 (by decide) rfl (fun c6 => ?_) (fun c6 => ?_)
    · exact absurd c6 (by decide)
    · refine u_aload_n h dL_finish_47 rfl 5 rfl rfl ?_
      refine u_iconst (v := 3) h dL_finish_48 (by decide) rfl ?_
      refine r_total h hT hC hw4 3 dL_finish_49 rfl (Nat.le_of_ble_eq_true rfl) ?_
      refine u_top (y := 0) ((totA_3 z r 0).trans hc) ?_
      refine u_if_ne_N (a := 0) (tgt := 103) h dL_finish_52 (by decide) (by omega) rfl (fun c7 => ?_) (fun c7 => ?_)
      · exact absurd c7 (by decide)
      · refine u_aload_n h dL_finish_55 rfl 5 rfl rfl ?_
        refine u_iconst (v := 5) h dL_finish_56 (by decide) rfl ?_
        refine r_total h hT hC hw4 5 dL_finish_57 rfl (Nat.le_of_ble_eq_true rfl) ?_
        refine u_top (y := ((sumZ z 62 6) + 0)) ((totA_5 z r 0).trans (Int32.add_zero _).symm) ?_
        refine u_iload_n h dL_finish_60 rfl 3 rfl rfl ?_
        refine u_iload_n h dL_finish_61 rfl 4 rfl rfl ?_
        refine u_iadd (v := ((totA z r 0 5) + 0)) h dL_finish_62 rfl rfl ?_
        refine u_icmp_ne (tgt := 103) h dL_finish_63 (by decide) rfl (fun c8 => ?_) (fun c8 => ?_)
        · exact absurd rfl c8
        · refine u_aload_n h dL_finish_66 rfl 5 rfl rfl ?_
          refine u_bipush (v := 7) h dL_finish_67 (by decide) rfl ?_
          refine r_total h hT hC hw4 7 dL_finish_69 rfl (Nat.le_of_ble_eq_true rfl) ?_
          refine u_top (y := ((sumZ z 74 6) + 0)) ((totA_7 z r 0).trans (Int32.add_zero _).symm) ?_
          refine u_iload_n h dL_finish_72 rfl 2 rfl rfl ?_
          refine u_iload h dL_finish_73 1 rfl rfl ?_
          refine u_iadd (v := ((sumZ z 74 6) + 0)) h dL_finish_75 rfl rfl ?_
          refine u_icmp_ne (tgt := 103) h dL_finish_76 (by decide) rfl (fun c9 => ?_) (fun c9 => ?_)
          · exact absurd rfl c9
          · refine u_aload_n h dL_finish_79 rfl 5 rfl rfl ?_
            refine u_iconst (v := 1) h dL_finish_80 (by decide) rfl ?_
            refine r_total h hT hC hw4 1 dL_finish_81 rfl (Nat.le_of_ble_eq_true rfl) ?_
            refine u_top (y := (-5)) ((totA_1 z r 0).trans e4) ?_
            refine u_bipush (v := (-5)) h dL_finish_84 (by decide) rfl ?_
            refine u_icmp_ne (tgt := 103) h dL_finish_86 (by decide) rfl (fun c10 => ?_) (fun c10 => ?_)
            · exact absurd c10 (by decide)
            · refine u_aload_n h dL_finish_89 rfl 5 rfl rfl ?_
              refine u_iconst (v := 0) h dL_finish_90 (by decide) rfl ?_
              refine r_inLine h hT hC hw4 0 dL_finish_91 rfl (Nat.le_of_ble_eq_true rfl) ?_
              refine u_top (y := (-5)) e5 ?_
              refine u_bipush (v := (-5)) h dL_finish_94 (by decide) rfl ?_
              refine u_icmp_ne (tgt := 103) h dL_finish_96 (by decide) rfl (fun c11 => ?_) (fun c11 => ?_)
              · exact absurd c11 (by decide)
              · refine u_iconst (v := 1) h dL_finish_99 (by decide) rfl ?_
                refine u_goto (tgt := 104) h dL_finish_100 (by decide) ?_
                refine u_istore (lv' := [(6, .int 1), (5, .int (-5)), (4, .int 0), (3, .int (sumZ z 74 6)), (2, .int (totA z r 0 5)), (1, .int 0), (0, .ref x0)]) h dL_finish_104 (by rw [hL]; decide) rfl rfl ?_
                refine u_iload h dL_finish_106 0 rfl rfl ?_
                refine u_if_eq_N (a := 1) (tgt := 116) h dL_finish_108 (by decide) (by omega) rfl (fun c12 => ?_) (fun c12 => ?_)
                · exact absurd c12 (by decide)
                · refine u_iload h dL_finish_111 1 rfl rfl ?_
                  refine u_goto (tgt := 118) h dL_finish_113 (by decide) ?_
                  exact u_iret h hRT dL_finish_118 (Nat.le_refl _) (Nat.le_refl _) ⟨rfl, hw4⟩
set_option maxHeartbeats 8000000 in
set_option maxRecDepth 100000 in
/-- finish -/
theorem lk_finish1 {G : Gx} {x0 : Nat} {z : Zf} {r : Nat} {hz : Nat → Zf} {kb : Bool} {zp : Zf} {w : va_W} (hw : IsO G x0 z r hz kb zp w) {N : Nat} (hG : G3 z) (hN : FiC z N) (hc : ¬ cntZ z 6 = 0) : MC G yL_finish sL_finish rA [.ref x0] w (fun v' u' => ∃ t : Nat, t ≤ 6000 ∧ v' = some (.int (nI t)) ∧ IsO G x0 (frZ z N) (recN r) (rmH hz z r) kb zp u') 0 0 := by
  refine mc_of (cc := cL_finish) (maxL := 7) (ret := (some .int)) (by decide) rfl (Nat.le_of_ble_eq_true rfl) (fun X h hR hL hRT => ?_)
  have hT : ∀ q ∈ gT, q ∈ sL_finish := fun q h9 => lwS_in h9
  have hC : LC X 0 0 := by unfold LC; rw [hR]; decide
  refine u_eql (lv' := [(0, .ref x0)]) rfl ?_
  have hI := hw.i
  obtain ⟨t, ht, et, e1, e2, e3, e4, e5, -⟩ := fin_all hI hG hN
  refine u_aload_n h dL_finish_0 rfl 0 rfl rfl ?_
  refine r_stepsToFinish h hT hC hw N hN dL_finish_1 rfl (Nat.le_of_ble_eq_true rfl) (fun w1 hw2 => ?_)
  refine u_top (y := (nI t)) et ?_
  refine u_istore_n (lv' := [(1, .int (nI t)), (0, .ref x0)]) h dL_finish_4 rfl (by rw [hL]; decide) rfl rfl ?_
  refine u_aload_n h dL_finish_5 rfl 1 rfl rfl ?_
  refine u_iconst (v := 5) h dL_finish_6 (by decide) rfl ?_
  refine r_total h hT hC hw2 5 dL_finish_7 rfl (Nat.le_of_ble_eq_true rfl) ?_
  refine u_istore_n (lv' := [(2, .int (totA z r 0 5)), (1, .int (nI t)), (0, .ref x0)]) h dL_finish_10 rfl (by rw [hL]; decide) rfl rfl ?_
  refine u_aload_n h dL_finish_11 rfl 2 rfl rfl ?_
  refine u_bipush (v := 7) h dL_finish_12 (by decide) rfl ?_
  refine r_total h hT hC hw2 7 dL_finish_14 rfl (Nat.le_of_ble_eq_true rfl) ?_
  refine u_top (y := (sumZ z 74 6)) (totA_7 z r 0) ?_
  refine u_istore_n (lv' := [(3, .int (sumZ z 74 6)), (2, .int (totA z r 0 5)), (1, .int (nI t)), (0, .ref x0)]) h dL_finish_17 rfl (by rw [hL]; decide) rfl rfl ?_
  refine u_aload_n h dL_finish_18 rfl 3 rfl rfl ?_
  refine u_iconst (v := 3) h dL_finish_19 (by decide) rfl ?_
  refine r_total h hT hC hw2 3 dL_finish_20 rfl (Nat.le_of_ble_eq_true rfl) ?_
  refine u_top (y := (cntZ z 6)) (totA_3 z r 0) ?_
  refine u_istore (lv' := [(4, .int (cntZ z 6)), (3, .int (sumZ z 74 6)), (2, .int (totA z r 0 5)), (1, .int (nI t)), (0, .ref x0)]) h dL_finish_23 (by rw [hL]; decide) rfl rfl ?_
  refine u_aload_n h dL_finish_25 rfl 4 rfl rfl ?_
  refine r_finish h hT hC hw2 N (fun _ => hN) dL_finish_26 rfl (Nat.le_of_ble_eq_true rfl) (fun w3 hw4 => ?_)
  replace hw4 := hw4.yes (okF_yes hc)
  refine u_top (y := (nI t)) ((finishA_yes hc).trans et) ?_
  refine u_istore (lv' := [(5, .int (nI t)), (4, .int (cntZ z 6)), (3, .int (sumZ z 74 6)), (2, .int (totA z r 0 5)), (1, .int (nI t)), (0, .ref x0)]) h dL_finish_29 (by rw [hL]; decide) rfl rfl ?_
  refine u_iload h dL_finish_31 0 rfl rfl ?_
  refine u_iload h dL_finish_33 1 rfl rfl ?_
  refine u_if_ne (tgt := 43) h dL_finish_35 (by decide) rfl (fun c5 => ?_) (fun c5 => ?_)
  · refine u_iload_n h dL_finish_43 rfl 4 rfl rfl ?_
    refine u_icmp_ne_N (a := t) (b := t) (tgt := 103) h dL_finish_44 (by decide) (by omega) (by omega) rfl (fun c6 => ?_) (fun c6 => ?_)
    · exact absurd rfl c6
    · refine u_aload_n h dL_finish_47 rfl 5 rfl rfl ?_
      refine u_iconst (v := 3) h dL_finish_48 (by decide) rfl ?_
      refine r_total h hT hC hw4 3 dL_finish_49 rfl (Nat.le_of_ble_eq_true rfl) ?_
      refine u_top (y := 0) ((totA_3 (frZ z N) (recN r) 0).trans e3) ?_
      refine u_if_ne_N (a := 0) (tgt := 103) h dL_finish_52 (by decide) (by omega) rfl (fun c7 => ?_) (fun c7 => ?_)
      · exact absurd c7 (by decide)
      · refine u_aload_n h dL_finish_55 rfl 5 rfl rfl ?_
        refine u_iconst (v := 5) h dL_finish_56 (by decide) rfl ?_
        refine r_total h hT hC hw4 5 dL_finish_57 rfl (Nat.le_of_ble_eq_true rfl) ?_
        refine u_top (y := ((sumZ z 62 6) + (nI t))) ((totA_5 (frZ z N) (recN r) 0).trans e1) ?_
        refine u_iload_n h dL_finish_60 rfl 3 rfl rfl ?_
        refine u_iload_n h dL_finish_61 rfl 4 rfl rfl ?_
        refine u_iadd (v := ((totA z r 0 5) + (nI t))) h dL_finish_62 rfl rfl ?_
        refine u_icmp_ne (tgt := 103) h dL_finish_63 (by decide) rfl (fun c8 => ?_) (fun c8 => ?_)
        · exact absurd rfl c8
        · refine u_aload_n h dL_finish_66 rfl 5 rfl rfl ?_
          refine u_bipush (v := 7) h dL_finish_67 (by decide) rfl ?_
          refine r_total h hT hC hw4 7 dL_finish_69 rfl (Nat.le_of_ble_eq_true rfl) ?_
          refine u_top (y := ((sumZ z 74 6) + (cntZ z 6))) ((totA_7 (frZ z N) (recN r) 0).trans e2) ?_
          refine u_iload_n h dL_finish_72 rfl 2 rfl rfl ?_
          refine u_iload h dL_finish_73 1 rfl rfl ?_
          refine u_iadd (v := ((sumZ z 74 6) + (cntZ z 6))) h dL_finish_75 rfl rfl ?_
          refine u_icmp_ne (tgt := 103) h dL_finish_76 (by decide) rfl (fun c9 => ?_) (fun c9 => ?_)
          · exact absurd rfl c9
          · refine u_aload_n h dL_finish_79 rfl 5 rfl rfl ?_
            refine u_iconst (v := 1) h dL_finish_80 (by decide) rfl ?_
            refine r_total h hT hC hw4 1 dL_finish_81 rfl (Nat.le_of_ble_eq_true rfl) ?_
            refine u_top (y := (-5)) ((totA_1 (frZ z N) (recN r) 0).trans e4) ?_
            refine u_bipush (v := (-5)) h dL_finish_84 (by decide) rfl ?_
            refine u_icmp_ne (tgt := 103) h dL_finish_86 (by decide) rfl (fun c10 => ?_) (fun c10 => ?_)
            · exact absurd c10 (by decide)
            · refine u_aload_n h dL_finish_89 rfl 5 rfl rfl ?_
              refine u_iconst (v := 0) h dL_finish_90 (by decide) rfl ?_
              refine r_inLine h hT hC hw4 0 dL_finish_91 rfl (Nat.le_of_ble_eq_true rfl) ?_
              refine u_top (y := (-5)) e5 ?_
              refine u_bipush (v := (-5)) h dL_finish_94 (by decide) rfl ?_
              refine u_icmp_ne (tgt := 103) h dL_finish_96 (by decide) rfl (fun c11 => ?_) (fun c11 => ?_)
              · exact absurd c11 (by decide)
              · refine u_iconst (v := 1) h dL_finish_99 (by decide) rfl ?_
                refine u_goto (tgt := 104) h dL_finish_100 (by decide) ?_
                refine u_istore (lv' := [(6, .int 1), (5, .int (nI t)), (4, .int (cntZ z 6)), (3, .int (sumZ z 74 6)), (2, .int (totA z r 0 5)), (1, .int (nI t)), (0, .ref x0)]) h dL_finish_104 (by rw [hL]; decide) rfl rfl ?_
                refine u_iload h dL_finish_106 0 rfl rfl ?_
                refine u_if_eq_N (a := 1) (tgt := 116) h dL_finish_108 (by decide) (by omega) rfl (fun c12 => ?_) (fun c12 => ?_)
                · exact absurd c12 (by decide)
                · refine u_iload h dL_finish_111 1 rfl rfl ?_
                  refine u_goto (tgt := 118) h dL_finish_113 (by decide) ?_
                  exact u_iret h hRT dL_finish_118 (Nat.le_refl _) (Nat.le_refl _) ⟨t, ht, rfl, hw4⟩
  · exact absurd c5 hc
