set_option maxHeartbeats 8000000 in
set_option maxRecDepth 100000 in
/-- go -/
theorem lk_go1 {G : Gx} {x0 : Nat} {z : Zf} {r : Nat} {hz : Nat → Zf} {kb : Bool} {zp : Zf} {w : va_W} (hw : IsO G x0 z r hz kb zp w) {v : Nat} (hv : v < 6) (hlk : isLook z v = true) : MC G yL_go sL_go rA [.ref x0, .int (nI v)] w (fun v' u' => v' = some (.int (-5)) ∧ IsO G x0 z r hz kb zp u') 0 0 := by
  refine mc_of (cc := cL_go) (maxL := 7) (ret := (some .int)) (by decide) rfl (Nat.le_of_ble_eq_true rfl) (fun X h hR hL hRT => ?_)
  have hT : ∀ q ∈ gT, q ∈ sL_go := fun q h9 => lwS_in h9
  have hC : LC X 0 0 := by unfold LC; rw [hR]; decide
  refine u_eql (lv' := [(0, .ref x0), (1, .int (nI v))]) rfl ?_
  refine u_aload_n h dL_go_0 rfl 0 rfl rfl ?_
  refine u_iload_n h dL_go_1 rfl 1 rfl rfl ?_
  refine r_wouldLook h hT hC hw (nI v) dL_go_2 rfl (Nat.le_of_ble_eq_true rfl) ?_
  refine u_top (y := 1) ((lookA_v z hv).trans (by rw [hlk]; rfl)) ?_
  refine u_istore_n (lv' := [(2, .int 1), (0, .ref x0), (1, .int (nI v))]) h dL_go_5 rfl (by rw [hL]; decide) rfl rfl ?_
  refine u_aload_n h dL_go_6 rfl 1 rfl rfl ?_
  refine u_iload_n h dL_go_7 rfl 2 rfl rfl ?_
  refine u_iconst (v := 1) h dL_go_8 (by decide) rfl ?_
  refine r_visitor h hT hC hw (nI v) 1 dL_go_9 rfl (Nat.le_of_ble_eq_true rfl) ?_
  refine u_top (y := (z (62 + v))) (visA_1 z hv) ?_
  refine u_istore_n (lv' := [(3, .int (z (62 + v))), (2, .int 1), (0, .ref x0), (1, .int (nI v))]) h dL_go_12 rfl (by rw [hL]; decide) rfl rfl ?_
  refine u_aload_n h dL_go_13 rfl 2 rfl rfl ?_
  refine u_bipush (v := 6) h dL_go_14 (by decide) rfl ?_
  refine r_total h hT hC hw 6 dL_go_16 rfl (Nat.le_of_ble_eq_true rfl) ?_
  refine u_top (y := (sumZ z 68 6)) (totA_6 z r 0) ?_
  refine u_istore (lv' := [(4, .int (sumZ z 68 6)), (3, .int (z (62 + v))), (2, .int 1), (0, .ref x0), (1, .int (nI v))]) h dL_go_19 (by rw [hL]; decide) rfl rfl ?_
  refine u_aload_n h dL_go_21 rfl 3 rfl rfl ?_
  refine u_iload_n h dL_go_22 rfl 4 rfl rfl ?_
  refine r_go h hT hC hw (nI v) 0 (fun q9 => absurd ((okG_look hv hlk).symm.trans q9) (by decide)) dL_go_23 rfl (Nat.le_of_ble_eq_true rfl) (fun w1 hw2 => ?_)
  replace hw2 := hw2.no (okG_look hv hlk)
  refine u_top (y := (-5)) (goA_look hv hlk) ?_
  refine u_istore (lv' := [(5, .int (-5)), (4, .int (sumZ z 68 6)), (3, .int (z (62 + v))), (2, .int 1), (0, .ref x0), (1, .int (nI v))]) h dL_go_26 (by rw [hL]; decide) rfl rfl ?_
  refine u_iload_n h dL_go_28 rfl 3 rfl rfl ?_
  refine u_iconst (v := 1) h dL_go_29 (by decide) rfl ?_
  refine u_icmp_ne_N (a := 1) (b := 1) (tgt := 48) h dL_go_30 (by decide) (by omega) (by omega) rfl (fun c3 => ?_) (fun c3 => ?_)
  · exact absurd c3 (by decide)
  · refine u_iload h dL_go_33 0 rfl rfl ?_
    refine u_bipush (v := (-5)) h dL_go_35 (by decide) rfl ?_
    refine u_icmp_ne (tgt := 45) h dL_go_37 (by decide) rfl (fun c4 => ?_) (fun c4 => ?_)
    · exact absurd c4 (by decide)
    · refine u_bipush (v := (-5)) h dL_go_40 (by decide) rfl ?_
      refine u_goto (tgt := 47) h dL_go_42 (by decide) ?_
      exact u_iret h hRT dL_go_47 (Nat.le_refl _) (Nat.le_refl _) ⟨rfl, hw2⟩
set_option maxHeartbeats 8000000 in
set_option maxRecDepth 100000 in
/-- go -/
theorem lk_go0 {G : Gx} {x0 : Nat} {z : Zf} {r : Nat} {hz : Nat → Zf} {kb : Bool} {zp : Zf} {w : va_W} (hw : IsO G x0 z r hz kb zp w) {v N : Nat} (hv : v < 6) (hlk : isLook z v = false) (hN : GoC z v N) : MC G yL_go sL_go rA [.ref x0, .int (nI v)] w (fun v' u' => v' = some (.int (nI N)) ∧ IsO G x0 (itS z v N) (recN r) (rmH hz z r) kb zp u') 0 0 := by
  refine mc_of (cc := cL_go) (maxL := 7) (ret := (some .int)) (by decide) rfl (Nat.le_of_ble_eq_true rfl) (fun X h hR hL hRT => ?_)
  have hT : ∀ q ∈ gT, q ∈ sL_go := fun q h9 => lwS_in h9
  have hC : LC X 0 0 := by unfold LC; rw [hR]; decide
  refine u_eql (lv' := [(0, .ref x0), (1, .int (nI v))]) rfl ?_
  have hI := hw.i
  obtain ⟨h1, h2, h3, h4⟩ := go_lt hv hI hlk hN
  obtain ⟨s2, hs2, es2⟩ := st_lt8 hv (hI.it hv N)
  have hs20 : (itS z v N) v = 0 ↔ s2 = 0 := by rw [es2]; exact nI_eq (b := 0) (by omega) (by omega)
  have hs24 : (itS z v N) v = 4 ↔ s2 = 4 := by rw [es2]; exact nI_eq (b := 4) (by omega) (by omega)
  refine u_aload_n h dL_go_0 rfl 0 rfl rfl ?_
  refine u_iload_n h dL_go_1 rfl 1 rfl rfl ?_
  refine r_wouldLook h hT hC hw (nI v) dL_go_2 rfl (Nat.le_of_ble_eq_true rfl) ?_
  refine u_top (y := 0) ((lookA_v z hv).trans (by rw [hlk]; rfl)) ?_
  refine u_istore_n (lv' := [(2, .int 0), (0, .ref x0), (1, .int (nI v))]) h dL_go_5 rfl (by rw [hL]; decide) rfl rfl ?_
  refine u_aload_n h dL_go_6 rfl 1 rfl rfl ?_
  refine u_iload_n h dL_go_7 rfl 2 rfl rfl ?_
  refine u_iconst (v := 1) h dL_go_8 (by decide) rfl ?_
  refine r_visitor h hT hC hw (nI v) 1 dL_go_9 rfl (Nat.le_of_ble_eq_true rfl) ?_
  refine u_top (y := (z (62 + v))) (visA_1 z hv) ?_
  refine u_istore_n (lv' := [(3, .int (z (62 + v))), (2, .int 0), (0, .ref x0), (1, .int (nI v))]) h dL_go_12 rfl (by rw [hL]; decide) rfl rfl ?_
  refine u_aload_n h dL_go_13 rfl 2 rfl rfl ?_
  refine u_bipush (v := 6) h dL_go_14 (by decide) rfl ?_
  refine r_total h hT hC hw 6 dL_go_16 rfl (Nat.le_of_ble_eq_true rfl) ?_
  refine u_top (y := (sumZ z 68 6)) (totA_6 z r 0) ?_
  refine u_istore (lv' := [(4, .int (sumZ z 68 6)), (3, .int (z (62 + v))), (2, .int 0), (0, .ref x0), (1, .int (nI v))]) h dL_go_19 (by rw [hL]; decide) rfl rfl ?_
  refine u_aload_n h dL_go_21 rfl 3 rfl rfl ?_
  refine u_iload_n h dL_go_22 rfl 4 rfl rfl ?_
  refine r_go h hT hC hw (nI v) N (fun _ => (ix_nI (show v < 2 ^ 31 by omega)).symm ▸ hN) dL_go_23 rfl (Nat.le_of_ble_eq_true rfl) (fun w1 hw2 => ?_)
  replace hw2 := hw2.gos hv hlk
  refine u_top (y := (nI N)) (goA_yes hv hlk) ?_
  refine u_istore (lv' := [(5, .int (nI N)), (4, .int (sumZ z 68 6)), (3, .int (z (62 + v))), (2, .int 0), (0, .ref x0), (1, .int (nI v))]) h dL_go_26 (by rw [hL]; decide) rfl rfl ?_
  refine u_iload_n h dL_go_28 rfl 3 rfl rfl ?_
  refine u_iconst (v := 1) h dL_go_29 (by decide) rfl ?_
  refine u_icmp_ne_N (a := 0) (b := 1) (tgt := 48) h dL_go_30 (by decide) (by omega) (by omega) rfl (fun c3 => ?_) (fun c3 => ?_)
  · refine u_aload_n h dL_go_48 rfl 4 rfl rfl ?_
    refine u_iload_n h dL_go_49 rfl 5 rfl rfl ?_
    refine u_iconst (v := 0) h dL_go_50 (by decide) rfl ?_
    refine r_visitor h hT hC hw2 (nI v) 0 dL_go_51 rfl (Nat.le_of_ble_eq_true rfl) ?_
    refine u_top (y := (nI s2)) ((visA_0 (itS z v N) hv).trans es2) ?_
    refine u_istore (lv' := [(6, .int (nI s2)), (5, .int (nI N)), (4, .int (sumZ z 68 6)), (3, .int (z (62 + v))), (2, .int 0), (0, .ref x0), (1, .int (nI v))]) h dL_go_54 (by rw [hL]; decide) rfl rfl ?_
    refine u_iload h dL_go_56 1 rfl rfl ?_
    refine u_if_le_N (a := N) (tgt := 117) h dL_go_58 (by decide) (by omega) rfl (fun c4 => ?_) (fun c4 => ?_)
    · exfalso; omega
    · refine u_iload h dL_go_61 1 rfl rfl ?_
      refine u_bipush (v := 8) h dL_go_63 (by decide) rfl ?_
      refine u_icmp_ge_N (a := N) (b := 8) (tgt := 117) h dL_go_65 (by decide) (by omega) (by omega) rfl (fun c5 => ?_) (fun c5 => ?_)
      · exfalso; omega
      · refine u_aload_n h dL_go_68 rfl 5 rfl rfl ?_
        refine u_iload_n h dL_go_69 rfl 6 rfl rfl ?_
        refine u_iconst (v := 1) h dL_go_70 (by decide) rfl ?_
        refine r_visitor h hT hC hw2 (nI v) 1 dL_go_71 rfl (Nat.le_of_ble_eq_true rfl) ?_
        refine u_top (y := ((z (62 + v)) + (nI N))) ((visA_1 (itS z v N) hv).trans (it_62 hv hI N)) ?_
        refine u_iload_n h dL_go_74 rfl 3 rfl rfl ?_
        refine u_iload h dL_go_75 1 rfl rfl ?_
        refine u_iadd (v := ((z (62 + v)) + (nI N))) h dL_go_77 rfl rfl ?_
        refine u_icmp_ne (tgt := 117) h dL_go_78 (by decide) rfl (fun c6 => ?_) (fun c6 => ?_)
        · exact absurd rfl c6
        · refine u_aload_n h dL_go_81 rfl 5 rfl rfl ?_
          refine u_bipush (v := 6) h dL_go_82 (by decide) rfl ?_
          refine r_total h hT hC hw2 6 dL_go_84 rfl (Nat.le_of_ble_eq_true rfl) ?_
          refine u_top (y := (sumZ z 68 6)) ((totA_6 (itS z v N) (recN r) 0).trans (it_68 hv hI N h4)) ?_
          refine u_iload h dL_go_87 2 rfl rfl ?_
          refine u_icmp_ne (tgt := 117) h dL_go_89 (by decide) rfl (fun c7 => ?_) (fun c7 => ?_)
          · exact absurd rfl c7
          · refine u_iload h dL_go_92 0 rfl rfl ?_
            have J8 : U G X 0 0 w1 112 [(6, .int (nI s2)), (5, .int (nI N)), (4, .int (sumZ z 68 6)), (3, .int (z (62 + v))), (2, .int 0), (0, .ref x0), (1, .int (nI v))] [] := by
              refine u_iload h dL_go_112 1 rfl rfl ?_
              refine u_goto (tgt := 119) h dL_go_114 (by decide) ?_
              exact u_iret h hRT dL_go_119 (Nat.le_refl _) (Nat.le_refl _) ⟨rfl, hw2⟩
            refine u_if_eq_N (a := s2) (tgt := 112) h dL_go_94 (by decide) (by omega) rfl (fun c11 => ?_) (fun c11 => ?_)
            · exact J8
            · refine u_iload h dL_go_97 0 rfl rfl ?_
              refine u_iconst (v := 4) h dL_go_99 (by decide) rfl ?_
              refine u_icmp_eq_N (a := s2) (b := 4) (tgt := 112) h dL_go_100 (by decide) (by omega) (by omega) rfl (fun c12 => ?_) (fun c12 => ?_)
              · exact J8
              · refine u_aload_n h dL_go_103 rfl 5 rfl rfl ?_
                refine u_iload_n h dL_go_104 rfl 6 rfl rfl ?_
                refine r_wouldLook h hT hC hw2 (nI v) dL_go_105 rfl (Nat.le_of_ble_eq_true rfl) ?_
                refine u_top (y := 1) ((lookA_v (itS z v N) hv).trans (by rw [show isLook (itS z v N) v = true by simpa [stp, hs20, hs24, c11, c12] using h3]; rfl)) ?_
                refine u_iconst (v := 1) h dL_go_108 (by decide) rfl ?_
                refine u_icmp_ne_N (a := 1) (b := 1) (tgt := 117) h dL_go_109 (by decide) (by omega) (by omega) rfl (fun c13 => ?_) (fun c13 => ?_)
                · exact absurd c13 (by decide)
                · exact J8
  · exact absurd c3 (by decide)
