set_option maxHeartbeats 8000000 in
set_option maxRecDepth 100000 in
/-- seen -/
theorem lk_seen {G : Gx} {x0 : Nat} {z : Zf} {r : Nat} {hz : Nat → Zf} {kb : Bool} {zp : Zf} {w : va_W} (hw : IsO G x0 z r hz kb zp w) : MC G yL_seen sL_seen rA [.ref x0] w (fun v' u' => v' = some (.long (seenZ z)) ∧ u' = w) 0 0 := by
  refine mc_of (cc := cL_seen) (maxL := 4) (ret := (some .long)) (by decide) rfl (Nat.le_of_ble_eq_true rfl) (fun X h hR hL hRT => ?_)
  have hT : ∀ q ∈ gT, q ∈ sL_seen := fun q h9 => lwS_in h9
  have hC : LC X 0 0 := by unfold LC; rw [hR]; decide
  refine u_eql (lv' := [(0, .ref x0)]) rfl ?_
  refine u_ldc2 (v := 53) h dL_seen_0 (hT _ gk_wm_153) rfl ?_
  refine u_lstore_n (lv' := [(1, .long (53 : Int64)), (0, .ref x0)]) h dL_seen_3 rfl (by rw [hL]; decide) rfl rfl ?_
  refine u_iconst (v := 0) h dL_seen_4 (by decide) rfl ?_
  refine u_istore_n (lv' := [(3, .int 0), (1, .long (53 : Int64)), (0, .ref x0)]) h dL_seen_5 rfl (by rw [hL]; decide) rfl rfl ?_
  have La : ∀ (k9 : Nat) (k : Nat), 13 - k = k9 → (k ≤ 13) → U G X 0 0 w 6 [(3, .int (nI k)), (1, .long (sA z k)), (0, .ref x0)] [] := by
    intro k9
    induction k9 using Nat.strongRecOn with
    | _ k9 iha =>
      intro k hk9 hk
      subst hk9
      refine u_iload_n h dL_seen_6 rfl 0 rfl rfl ?_
      refine u_bipush (v := 13) h dL_seen_7 (by decide) rfl ?_
      refine u_icmp_ge_N (a := k) (b := 13) (tgt := 31) h dL_seen_9 (by decide) (by omega) (by omega) rfl (fun c1 => ?_) (fun c1 => ?_)
      · have ek : k = 13 := by omega
        subst ek
        refine u_eql (lv' := [(3, .int 13), (1, .long (sA z 13)), (0, .ref x0)]) rfl ?_
        refine u_iconst (v := 0) h dL_seen_31 (by decide) rfl ?_
        refine u_istore_n (lv' := [(3, .int 0), (1, .long (sA z 13)), (0, .ref x0)]) h dL_seen_32 rfl (by rw [hL]; decide) rfl rfl ?_
        have Lb : ∀ (k9 : Nat) (k : Nat), 66 - k = k9 → (k ≤ 66) → U G X 0 0 w 33 [(3, .int (nI k)), (1, .long (sB z k)), (0, .ref x0)] [] := by
          intro k9
          induction k9 using Nat.strongRecOn with
          | _ k9 ihb =>
            intro k hk9 hk
            subst hk9
            refine u_iload_n h dL_seen_33 rfl 0 rfl rfl ?_
            refine u_bipush (v := 66) h dL_seen_34 (by decide) rfl ?_
            refine u_icmp_ge_N (a := k) (b := 66) (tgt := 65) h dL_seen_36 (by decide) (by omega) (by omega) rfl (fun c2 => ?_) (fun c2 => ?_)
            · have ek : k = 66 := by omega
              subst ek
              refine u_eql (lv' := [(3, .int 66), (1, .long (sB z 66)), (0, .ref x0)]) rfl ?_
              refine u_iconst (v := 0) h dL_seen_65 (by decide) rfl ?_
              refine u_istore_n (lv' := [(3, .int 0), (1, .long (sB z 66)), (0, .ref x0)]) h dL_seen_66 rfl (by rw [hL]; decide) rfl rfl ?_
              have Lc : ∀ (k9 : Nat) (k : Nat), 7 - k = k9 → (k ≤ 7) → U G X 0 0 w 67 [(3, .int (nI k)), (1, .long (sC z k)), (0, .ref x0)] [] := by
                intro k9
                induction k9 using Nat.strongRecOn with
                | _ k9 ihc =>
                  intro k hk9 hk
                  subst hk9
                  refine u_iload_n h dL_seen_67 rfl 0 rfl rfl ?_
                  refine u_bipush (v := 7) h dL_seen_68 (by decide) rfl ?_
                  refine u_icmp_ge_N (a := k) (b := 7) (tgt := 103) h dL_seen_70 (by decide) (by omega) (by omega) rfl (fun c3 => ?_) (fun c3 => ?_)
                  · have ek : k = 7 := by omega
                    subst ek
                    refine u_eql (lv' := [(3, .int 7), (1, .long (sC z 7)), (0, .ref x0)]) rfl ?_
                    refine u_lload_n h dL_seen_103 rfl 1 rfl rfl ?_
                    exact u_lret h hRT dL_seen_104 (Nat.le_refl _) (Nat.le_refl _) ⟨rfl, rfl⟩
                  · refine u_ldc2 (v := 31) h dL_seen_73 (hT _ gk_wm_154) rfl ?_
                    refine u_ldc2 (v := 31) h dL_seen_76 (hT _ gk_wm_154) rfl ?_
                    refine u_lload_n h dL_seen_79 rfl 1 rfl rfl ?_
                    refine u_lmul h dL_seen_80 rfl rfl ?_
                    refine u_aload_n h dL_seen_81 rfl 2 rfl rfl ?_
                    refine u_iload_n h dL_seen_82 rfl 0 rfl rfl ?_
                    refine r_inLine h hT hC hw (nI k) dL_seen_83 rfl (Nat.le_of_ble_eq_true rfl) ?_
                    refine u_i2l h dL_seen_86 rfl rfl ?_
                    refine u_ladd h dL_seen_87 rfl rfl ?_
                    refine u_lmul h dL_seen_88 rfl rfl ?_
                    refine u_aload_n h dL_seen_89 rfl 2 rfl rfl ?_
                    refine u_iload_n h dL_seen_90 rfl 0 rfl rfl ?_
                    refine r_card h hT hC hw (nI k) dL_seen_91 rfl (Nat.le_of_ble_eq_true rfl) ?_
                    refine u_i2l h dL_seen_94 rfl rfl ?_
                    refine u_ladd h dL_seen_95 rfl rfl ?_
                    refine u_eqs (st' := [.long (sC z (k + 1))]) (by rfl) ?_
                    refine u_lstore_n (lv' := [(1, .long (sC z (k + 1))), (3, .int (nI k)), (0, .ref x0)]) h dL_seen_96 rfl (by rw [hL]; decide) rfl rfl ?_
                    refine u_iinc (k := 1) (v := (nI (k + 1))) (lv' := [(3, .int (nI (k + 1))), (1, .long (sC z (k + 1))), (0, .ref x0)]) h dL_seen_97 rfl (nI_add k 1) (by rw [hL]; decide) rfl rfl ?_
                    refine u_goto (tgt := 67) h dL_seen_100 (by decide) ?_
                    exact ihc _ (by omega) (k + 1) rfl (by omega)
              exact Lc _ 0 rfl (by omega)
            · refine u_ldc2 (v := 31) h dL_seen_39 (hT _ gk_wm_154) rfl ?_
              refine u_lload_n h dL_seen_42 rfl 1 rfl rfl ?_
              refine u_lmul h dL_seen_43 rfl rfl ?_
              refine u_aload_n h dL_seen_44 rfl 2 rfl rfl ?_
              refine u_iload_n h dL_seen_45 rfl 0 rfl rfl ?_
              refine u_bipush (v := 11) h dL_seen_46 (by decide) rfl ?_
              refine u_idiv (v := (nI (k / 11))) h dL_seen_48 (by decide) (pk_div (a := k) (d := 11) (by omega) (by omega) (by omega)) rfl ?_
              refine u_iload_n h dL_seen_49 rfl 0 rfl rfl ?_
              refine u_bipush (v := 11) h dL_seen_50 (by decide) rfl ?_
              refine u_irem (v := (nI (k % 11))) h dL_seen_52 (by decide) (pk_rem (a := k) (d := 11) (by omega) (by omega) (by omega)) rfl ?_
              refine r_visitor h hT hC hw (nI (k / 11)) (nI (k % 11)) dL_seen_53 rfl (Nat.le_of_ble_eq_true rfl) ?_
              refine u_i2l h dL_seen_56 rfl rfl ?_
              refine u_ladd h dL_seen_57 rfl rfl ?_
              refine u_eqs (st' := [.long (sB z (k + 1))]) (by rfl) ?_
              refine u_lstore_n (lv' := [(1, .long (sB z (k + 1))), (3, .int (nI k)), (0, .ref x0)]) h dL_seen_58 rfl (by rw [hL]; decide) rfl rfl ?_
              refine u_iinc (k := 1) (v := (nI (k + 1))) (lv' := [(3, .int (nI (k + 1))), (1, .long (sB z (k + 1))), (0, .ref x0)]) h dL_seen_59 rfl (nI_add k 1) (by rw [hL]; decide) rfl rfl ?_
              refine u_goto (tgt := 33) h dL_seen_62 (by decide) ?_
              exact ihb _ (by omega) (k + 1) rfl (by omega)
        exact Lb _ 0 rfl (by omega)
      · refine u_ldc2 (v := 31) h dL_seen_12 (hT _ gk_wm_154) rfl ?_
        refine u_lload_n h dL_seen_15 rfl 1 rfl rfl ?_
        refine u_lmul h dL_seen_16 rfl rfl ?_
        refine u_aload_n h dL_seen_17 rfl 2 rfl rfl ?_
        refine u_iload_n h dL_seen_18 rfl 0 rfl rfl ?_
        refine r_total h hT hC hw (nI k) dL_seen_19 rfl (Nat.le_of_ble_eq_true rfl) ?_
        refine u_i2l h dL_seen_22 rfl rfl ?_
        refine u_ladd h dL_seen_23 rfl rfl ?_
        refine u_eqs (st' := [.long (sA z (k + 1))]) (by rw [tot_r z r 0 k (by omega)]; rfl) ?_
        refine u_lstore_n (lv' := [(1, .long (sA z (k + 1))), (3, .int (nI k)), (0, .ref x0)]) h dL_seen_24 rfl (by rw [hL]; decide) rfl rfl ?_
        refine u_iinc (k := 1) (v := (nI (k + 1))) (lv' := [(3, .int (nI (k + 1))), (1, .long (sA z (k + 1))), (0, .ref x0)]) h dL_seen_25 rfl (nI_add k 1) (by rw [hL]; decide) rfl rfl ?_
        refine u_goto (tgt := 6) h dL_seen_28 (by decide) ?_
        exact iha _ (by omega) (k + 1) rfl (by omega)
  exact La _ 0 rfl (by omega)
