set_option maxHeartbeats 8000000 in
set_option maxRecDepth 100000 in
/-- draw -/
theorem lk_draw {G : Gx} {x0 : Nat} {z : Zf} {r : Nat} {hz : Nat → Zf} {kb : Bool} {zp : Zf} {w : va_W} (hw : IsO G x0 z r hz kb zp w) {S n : Nat} (h0 : 0 < S) (hS : S < 64) (n0 : 0 < n) (hn : n ≤ 200) : MC G yL_draw sL_draw rA [.ref x0, .int (nI S), .int (nI n)] w (fun v' u' => ∃ t : Nat, t ≤ 200 ∧ v' = some (.int (nI t)) ∧ IsO G x0 (drZ z (nI S) n) (recN r) (rmH hz z r) kb zp u') 0 0 := by
  refine mc_of (cc := cL_draw) (maxL := 8) (ret := (some .int)) (by decide) rfl (Nat.le_of_ble_eq_true rfl) (fun X h hR hL hRT => ?_)
  have hT : ∀ q ∈ gT, q ∈ sL_draw := fun q h9 => lwS_in h9
  have hC : LC X 0 0 := by unfold LC; rw [hR]; decide
  refine u_eql (lv' := [(0, .ref x0), (1, .int (nI S)), (2, .int (nI n))]) rfl ?_
  have hI := hw.i
  obtain ⟨t, ht, et⟩ := dr_74 hS h0 hI n
  have hns : nsM (drZ z (nI S) n) (nI S) 6 = nsM z (nI S) 6 := nsM_eq (fun u hu hb => dr_oth hS h0 hI hu hb n) (Nat.le_refl 6)
  refine u_aload_n h dL_draw_0 rfl 0 rfl rfl ?_
  refine u_bipush (v := 7) h dL_draw_1 (by decide) rfl ?_
  refine r_total h hT hC hw 7 dL_draw_3 rfl (Nat.le_of_ble_eq_true rfl) ?_
  refine u_top (y := (sumZ z 74 6)) (totA_7 z r 0) ?_
  refine u_istore_n (lv' := [(3, .int (sumZ z 74 6)), (0, .ref x0), (1, .int (nI S)), (2, .int (nI n))]) h dL_draw_6 rfl (by rw [hL]; decide) rfl rfl ?_
  refine u_aload_n h dL_draw_7 rfl 1 rfl rfl ?_
  refine u_iconst (v := 5) h dL_draw_8 (by decide) rfl ?_
  refine r_total h hT hC hw 5 dL_draw_9 rfl (Nat.le_of_ble_eq_true rfl) ?_
  refine u_top (y := (sumZ z 62 6)) (totA_5 z r 0) ?_
  refine u_istore (lv' := [(4, .int (sumZ z 62 6)), (3, .int (sumZ z 74 6)), (0, .ref x0), (1, .int (nI S)), (2, .int (nI n))]) h dL_draw_12 (by rw [hL]; decide) rfl rfl ?_
  refine u_iconst (v := 0) h dL_draw_14 (by decide) rfl ?_
  refine u_istore (lv' := [(5, .int 0), (4, .int (sumZ z 62 6)), (3, .int (sumZ z 74 6)), (0, .ref x0), (1, .int (nI S)), (2, .int (nI n))]) h dL_draw_15 (by rw [hL]; decide) rfl rfl ?_
  refine u_iconst (v := 0) h dL_draw_17 (by decide) rfl ?_
  refine u_istore (lv' := [(6, .int 0), (5, .int 0), (4, .int (sumZ z 62 6)), (3, .int (sumZ z 74 6)), (0, .ref x0), (1, .int (nI S)), (2, .int (nI n))]) h dL_draw_18 (by rw [hL]; decide) rfl rfl ?_
  have La : ∀ (k9 : Nat) (k : Nat), 6 - k = k9 → (k ≤ 6) → U G X 0 0 w 20 [(6, .int (nI k)), (5, .int (nsM z (nI S) k)), (4, .int (sumZ z 62 6)), (3, .int (sumZ z 74 6)), (0, .ref x0), (1, .int (nI S)), (2, .int (nI n))] [] := by
    intro k9
    induction k9 using Nat.strongRecOn with
    | _ k9 iha =>
      intro k hk9 hk6
      subst hk9
      refine u_iload h dL_draw_20 0 rfl rfl ?_
      refine u_bipush (v := 6) h dL_draw_22 (by decide) rfl ?_
      refine u_icmp_ge_N (a := k) (b := 6) (tgt := 58) h dL_draw_24 (by decide) (by omega) (by omega) rfl (fun c1 => ?_) (fun c1 => ?_)
      · have ek : k = 6 := by omega
        subst ek
        refine u_eql (lv' := [(6, .int 6), (5, .int (nsM z (nI S) 6)), (4, .int (sumZ z 62 6)), (3, .int (sumZ z 74 6)), (0, .ref x0), (1, .int (nI S)), (2, .int (nI n))]) rfl ?_
        refine u_aload_n h dL_draw_58 rfl 4 rfl rfl ?_
        refine u_iload_n h dL_draw_59 rfl 5 rfl rfl ?_
        refine u_iload_n h dL_draw_60 rfl 6 rfl rfl ?_
        refine r_draw h hT hC hw (nI S) (nI n) dL_draw_61 rfl (Nat.le_of_ble_eq_true rfl) (fun w2 hw3 => ?_)
        replace hw3 := hw3.drs h0 hS n0 hn
        refine u_top (y := (nI t)) (drawA_yes h0 hS n0 hn et) ?_
        refine u_istore (lv' := [(6, .int (nI t)), (5, .int (nsM z (nI S) 6)), (4, .int (sumZ z 62 6)), (3, .int (sumZ z 74 6)), (0, .ref x0), (1, .int (nI S)), (2, .int (nI n))]) h dL_draw_64 (by rw [hL]; decide) rfl rfl ?_
        refine u_eql (lv' := [(6, .int (nI t)), (5, .int ((nsM z (nI S) 6) - (nsM (drZ z (nI S) n) (nI S) 0))), (4, .int (sumZ z 62 6)), (3, .int (sumZ z 74 6)), (0, .ref x0), (1, .int (nI S)), (2, .int (nI n))]) (by simp only [nsM, Int32.sub_zero]) ?_
        refine u_iconst (v := 0) h dL_draw_66 (by decide) rfl ?_
        refine u_istore (lv' := [(7, .int 0), (6, .int (nI t)), (5, .int ((nsM z (nI S) 6) - (nsM (drZ z (nI S) n) (nI S) 0))), (4, .int (sumZ z 62 6)), (3, .int (sumZ z 74 6)), (0, .ref x0), (1, .int (nI S)), (2, .int (nI n))]) h dL_draw_67 (by rw [hL]; decide) rfl rfl ?_
        have Lb : ∀ (k9 : Nat) (k : Nat), 6 - k = k9 → (k ≤ 6) → U G X 0 0 w2 69 [(7, .int (nI k)), (6, .int (nI t)), (5, .int ((nsM z (nI S) 6) - (nsM (drZ z (nI S) n) (nI S) k))), (4, .int (sumZ z 62 6)), (3, .int (sumZ z 74 6)), (0, .ref x0), (1, .int (nI S)), (2, .int (nI n))] [] := by
          intro k9
          induction k9 using Nat.strongRecOn with
          | _ k9 ihb =>
            intro k hk9 hk6
            subst hk9
            refine u_iload h dL_draw_69 0 rfl rfl ?_
            refine u_bipush (v := 6) h dL_draw_71 (by decide) rfl ?_
            refine u_icmp_ge_N (a := k) (b := 6) (tgt := 107) h dL_draw_73 (by decide) (by omega) (by omega) rfl (fun c4 => ?_) (fun c4 => ?_)
            · have ek : k = 6 := by omega
              subst ek
              refine u_eql (lv' := [(7, .int 6), (6, .int (nI t)), (5, .int 0), (4, .int (sumZ z 62 6)), (3, .int (sumZ z 74 6)), (0, .ref x0), (1, .int (nI S)), (2, .int (nI n))]) (by rw [hns, Int32.sub_self]; rfl) ?_
              refine u_iload h dL_draw_107 1 rfl rfl ?_
              refine u_if_lt_N (a := t) (tgt := 147) h dL_draw_109 (by decide) (by omega) rfl (fun c5 => ?_) (fun c5 => ?_)
              · exact absurd c5 (Nat.not_lt_zero _)
              · refine u_aload_n h dL_draw_112 rfl 5 rfl rfl ?_
                refine u_bipush (v := 7) h dL_draw_113 (by decide) rfl ?_
                refine r_total h hT hC hw3 7 dL_draw_115 rfl (Nat.le_of_ble_eq_true rfl) ?_
                refine u_top (y := ((sumZ z 74 6) + (nI t))) ((totA_7 (drZ z (nI S) n) (recN r) 0).trans et) ?_
                refine u_iload_n h dL_draw_118 rfl 4 rfl rfl ?_
                refine u_iload h dL_draw_119 1 rfl rfl ?_
                refine u_iadd (v := ((sumZ z 74 6) + (nI t))) h dL_draw_121 rfl rfl ?_
                refine u_icmp_ne (tgt := 147) h dL_draw_122 (by decide) rfl (fun c6 => ?_) (fun c6 => ?_)
                · exact absurd rfl c6
                · refine u_aload_n h dL_draw_125 rfl 5 rfl rfl ?_
                  refine u_iconst (v := 5) h dL_draw_126 (by decide) rfl ?_
                  refine r_total h hT hC hw3 5 dL_draw_127 rfl (Nat.le_of_ble_eq_true rfl) ?_
                  refine u_top (y := ((sumZ z 62 6) + (nI n))) ((totA_5 (drZ z (nI S) n) (recN r) 0).trans (dr_62 hS h0 hI n)) ?_
                  refine u_iload h dL_draw_130 3 rfl rfl ?_
                  refine u_iload_n h dL_draw_132 rfl 7 rfl rfl ?_
                  refine u_iadd (v := ((sumZ z 62 6) + (nI n))) h dL_draw_133 rfl rfl ?_
                  refine u_icmp_ne (tgt := 147) h dL_draw_134 (by decide) rfl (fun c7 => ?_) (fun c7 => ?_)
                  · exact absurd rfl c7
                  · refine u_iload h dL_draw_137 2 rfl rfl ?_
                    refine u_if_ne_N (a := 0) (tgt := 147) h dL_draw_139 (by decide) (by omega) rfl (fun c8 => ?_) (fun c8 => ?_)
                    · exact absurd c8 (by decide)
                    · refine u_iload h dL_draw_142 1 rfl rfl ?_
                      refine u_goto (tgt := 149) h dL_draw_144 (by decide) ?_
                      exact u_iret h hRT dL_draw_149 (Nat.le_refl _) (Nat.le_refl _) ⟨t, by omega, rfl, hw3⟩
            · have hkv : k < 6 := by omega
              refine u_iload h dL_draw_76 2 rfl rfl ?_
              refine u_iload_n h dL_draw_78 rfl 6 rfl rfl ?_
              refine u_iload h dL_draw_79 0 rfl rfl ?_
              refine u_ishr (v := ((nI S) >>> ((nI k) &&& 31))) h dL_draw_81 rfl rfl ?_
              refine u_iconst (v := 1) h dL_draw_82 (by decide) rfl ?_
              refine u_iand (v := (bitM (nI S) k)) h dL_draw_83 rfl rfl ?_
              have J9 : ∀ x10 : Int32, x10 = (if bitM (nI S) k = 0 then (drZ z (nI S) n) (62 + k) else 0) → U G X 0 0 w2 98 [(7, .int (nI k)), (6, .int (nI t)), (5, .int ((nsM z (nI S) 6) - (nsM (drZ z (nI S) n) (nI S) k))), (4, .int (sumZ z 62 6)), (3, .int (sumZ z 74 6)), (0, .ref x0), (1, .int (nI S)), (2, .int (nI n))] [.int x10, .int ((nsM z (nI S) 6) - (nsM (drZ z (nI S) n) (nI S) k))] := by
                intro x10 e9
                subst e9
                refine u_isub (v := (((nsM z (nI S) 6) - (nsM (drZ z (nI S) n) (nI S) k)) - (if bitM (nI S) k = 0 then (drZ z (nI S) n) (62 + k) else 0))) h dL_draw_98 rfl rfl ?_
                refine u_top (y := ((nsM z (nI S) 6) - (nsM (drZ z (nI S) n) (nI S) (k + 1)))) (by simp only [nsM]; grind) ?_
                refine u_istore (lv' := [(5, .int ((nsM z (nI S) 6) - (nsM (drZ z (nI S) n) (nI S) (k + 1)))), (7, .int (nI k)), (6, .int (nI t)), (4, .int (sumZ z 62 6)), (3, .int (sumZ z 74 6)), (0, .ref x0), (1, .int (nI S)), (2, .int (nI n))]) h dL_draw_99 (by rw [hL]; decide) rfl rfl ?_
                refine u_iinc (k := 1) (v := (nI (k + 1))) (lv' := [(7, .int (nI (k + 1))), (5, .int ((nsM z (nI S) 6) - (nsM (drZ z (nI S) n) (nI S) (k + 1)))), (6, .int (nI t)), (4, .int (sumZ z 62 6)), (3, .int (sumZ z 74 6)), (0, .ref x0), (1, .int (nI S)), (2, .int (nI n))]) h dL_draw_101 rfl (nI_add k 1) (by rw [hL]; decide) rfl rfl ?_
                refine u_goto (tgt := 69) h dL_draw_104 (by decide) ?_
                refine u_lv (lv' := [(7, .int (nI (k + 1))), (6, .int (nI t)), (5, .int ((nsM z (nI S) 6) - (nsM (drZ z (nI S) n) (nI S) (k + 1)))), (4, .int (sumZ z 62 6)), (3, .int (sumZ z 74 6)), (0, .ref x0), (1, .int (nI S)), (2, .int (nI n))]) [0, 2, 1, 3, 4, 5, 6, 7] rfl ?_
                exact ihb _ (by omega) (k + 1) rfl (by omega)
              refine u_if_ne (tgt := 97) h dL_draw_84 (by decide) rfl (fun c11 => ?_) (fun c11 => ?_)
              · refine u_iconst (v := 0) h dL_draw_97 (by decide) rfl ?_
                exact J9 _ (by first | ((first | exact (if_pos (by assumption)).symm | exact (if_neg (by assumption)).symm); done) | (exfalso; first | exact absurd (c1.symm.trans c4) (by decide) | exact absurd (c1.symm.trans c11) (by decide) | exact absurd (c4.symm.trans c1) (by decide) | exact absurd (c4.symm.trans c11) (by decide) | exact absurd (c11.symm.trans c1) (by decide) | exact absurd (c11.symm.trans c4) (by decide)))
              · refine u_aload_n h dL_draw_87 rfl 5 rfl rfl ?_
                refine u_iload h dL_draw_88 0 rfl rfl ?_
                refine u_iconst (v := 1) h dL_draw_90 (by decide) rfl ?_
                refine r_visitor h hT hC hw3 (nI k) 1 dL_draw_91 rfl (Nat.le_of_ble_eq_true rfl) ?_
                refine u_top (y := ((drZ z (nI S) n) (62 + k))) (visA_1 (drZ z (nI S) n) hkv) ?_
                refine u_goto (tgt := 98) h dL_draw_94 (by decide) ?_
                exact J9 _ (by first | ((first | exact (if_pos (by assumption)).symm | exact (if_neg (by assumption)).symm); done) | (exfalso; first | exact absurd (c1.symm.trans c4) (by decide) | exact absurd (c1.symm.trans c11) (by decide) | exact absurd (c4.symm.trans c1) (by decide) | exact absurd (c4.symm.trans c11) (by decide) | exact absurd (c11.symm.trans c1) (by decide) | exact absurd (c11.symm.trans c4) (by decide)))
        exact Lb _ 0 rfl (by omega)
      · have hkv : k < 6 := by omega
        refine u_iload h dL_draw_27 1 rfl rfl ?_
        refine u_iload_n h dL_draw_29 rfl 5 rfl rfl ?_
        refine u_iload h dL_draw_30 0 rfl rfl ?_
        refine u_ishr (v := ((nI S) >>> ((nI k) &&& 31))) h dL_draw_32 rfl rfl ?_
        refine u_iconst (v := 1) h dL_draw_33 (by decide) rfl ?_
        refine u_iand (v := (bitM (nI S) k)) h dL_draw_34 rfl rfl ?_
        have J12 : ∀ x13 : Int32, x13 = (if bitM (nI S) k = 0 then z (62 + k) else 0) → U G X 0 0 w 49 [(6, .int (nI k)), (5, .int (nsM z (nI S) k)), (4, .int (sumZ z 62 6)), (3, .int (sumZ z 74 6)), (0, .ref x0), (1, .int (nI S)), (2, .int (nI n))] [.int x13, .int (nsM z (nI S) k)] := by
          intro x13 e9
          subst e9
          refine u_iadd (v := ((nsM z (nI S) k) + (if bitM (nI S) k = 0 then z (62 + k) else 0))) h dL_draw_49 rfl rfl ?_
          refine u_top (y := (nsM z (nI S) (k + 1))) rfl ?_
          refine u_istore (lv' := [(5, .int (nsM z (nI S) (k + 1))), (6, .int (nI k)), (4, .int (sumZ z 62 6)), (3, .int (sumZ z 74 6)), (0, .ref x0), (1, .int (nI S)), (2, .int (nI n))]) h dL_draw_50 (by rw [hL]; decide) rfl rfl ?_
          refine u_iinc (k := 1) (v := (nI (k + 1))) (lv' := [(6, .int (nI (k + 1))), (5, .int (nsM z (nI S) (k + 1))), (4, .int (sumZ z 62 6)), (3, .int (sumZ z 74 6)), (0, .ref x0), (1, .int (nI S)), (2, .int (nI n))]) h dL_draw_52 rfl (nI_add k 1) (by rw [hL]; decide) rfl rfl ?_
          refine u_goto (tgt := 20) h dL_draw_55 (by decide) ?_
          exact iha _ (by omega) (k + 1) rfl (by omega)
        refine u_if_ne (tgt := 48) h dL_draw_35 (by decide) rfl (fun c14 => ?_) (fun c14 => ?_)
        · refine u_iconst (v := 0) h dL_draw_48 (by decide) rfl ?_
          exact J12 _ (by first | ((first | exact (if_pos (by assumption)).symm | exact (if_neg (by assumption)).symm); done) | (exfalso; first | exact absurd (c1.symm.trans c14) (by decide) | exact absurd (c14.symm.trans c1) (by decide)))
        · refine u_aload_n h dL_draw_38 rfl 4 rfl rfl ?_
          refine u_iload h dL_draw_39 0 rfl rfl ?_
          refine u_iconst (v := 1) h dL_draw_41 (by decide) rfl ?_
          refine r_visitor h hT hC hw (nI k) 1 dL_draw_42 rfl (Nat.le_of_ble_eq_true rfl) ?_
          refine u_top (y := (z (62 + k))) (visA_1 z hkv) ?_
          refine u_goto (tgt := 49) h dL_draw_45 (by decide) ?_
          exact J12 _ (by first | ((first | exact (if_pos (by assumption)).symm | exact (if_neg (by assumption)).symm); done) | (exfalso; first | exact absurd (c1.symm.trans c14) (by decide) | exact absurd (c14.symm.trans c1) (by decide)))
  exact La _ 0 rfl (by omega)
