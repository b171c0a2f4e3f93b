set_option maxHeartbeats 16000000 in
set_option maxRecDepth 100000 in
/-- the law's loop, from i ints read -/
theorem lw_loop {G : Gx} {X : Cx} {b L : Nat} {xs : Nat → Int32} (h : CX G X cL_law RL wsL_law) (hR : gR X = room_1) (hLc : gL X = 4) (hLX : LX X b L xs) (hL : L < 2 ^ 20) (hLQ : LQ X b) {x0 m0 : Nat} : ∀ (k i : Nat), L - i = k → i ≤ L → Hd G X x0 m0 b i := by
  intro k
  induction k using Nat.strongRecOn with
  | _ k ih =>
    intro i ek hiL
    subst ek
    unfold Hd
    intro hh tx sc ex qp qs qr ql qb qt qw S T P q pl pc A z zt zp t fp sa ra bk w9 sp p kp su iT ti bb ll F hz Zp r n K kb p0 d0 x9 sT fm bo bt hIn
    obtain ⟨hI, hr, hn, hK, hH, hKp⟩ := id hIn
    refine u_iload_n h dL_law_18 rfl 3 rfl rfl ?_
    refine u_aload_n h dL_law_19 rfl 0 rfl rfl ?_
    refine u_sclen h hLX dL_law_20 rfl ?_
    refine u_iconst (v := 4) h dL_law_21 (by decide) rfl ?_
    refine u_isub (v := (nI L - 4)) h dL_law_22 rfl rfl ?_
    refine u_icmp_gt (tgt := 566) h dL_law_23 (by decide) rfl (fun c1 => ?_) (fun c1 => ?_)
    · refine u_iconst (v := 1) h dL_law_566 (by decide) rfl ?_
      exact u_lend h hLQ (by omega) (by omega) dL_law_567
    · have hi4 := lw_more (show i < 2 ^ 20 by omega) hL c1
      have hH4 : Hd G X x0 m0 b (i + 4) := ih _ (show L - (i + 4) < L - i by omega) (i + 4) rfl hi4
      refine u_aload_n h dL_law_26 rfl 0 rfl rfl ?_
      refine u_iload_n h dL_law_27 rfl 3 rfl rfl ?_
      refine u_scld h hLX (n := i) (by omega) hL dL_law_28 rfl ?_
      refine u_bipush (v := 31) h dL_law_29 (by decide) rfl ?_
      refine u_iand (v := ((xs i) &&& 31)) h dL_law_31 rfl rfl ?_
      by_cases k2 : ((xs i) &&& 31) = 0
      · refine u_tableIn (off := 96) (tgt := 128) h dL_law_32 (by rw [k2]; decide) (by rw [k2]; decide) (by rw [k2]; rfl) (by decide) ?_
        exact lw_build h hR hLc hLX hL hi4 hH4 hh tx sc ex qp qs qr ql qb qt qw S T P q pl pc A z zt zp t fp sa ra bk w9 sp p kp su iT ti bb ll F hz Zp r n K kb p0 d0 x9 sT fm bo bt hIn
      by_cases k3 : ((xs i) &&& 31) = 1
      · refine u_tableIn (off := 119) (tgt := 151) h dL_law_32 (by rw [k3]; decide) (by rw [k3]; decide) (by rw [k3]; rfl) (by decide) ?_
        exact lw_step h hR hLc hLX hL hi4 hH4 hh tx sc ex qp qs qr ql qb qt qw S T P q pl pc A z zt zp t fp sa ra bk w9 sp p kp su iT ti bb ll F hz Zp r n K kb p0 d0 x9 sT fm bo bt hIn
      by_cases k4 : ((xs i) &&& 31) = 2
      · refine u_tableIn (off := 142) (tgt := 174) h dL_law_32 (by rw [k4]; decide) (by rw [k4]; decide) (by rw [k4]; rfl) (by decide) ?_
        exact lw_go h hR hLc hLX hL hi4 hH4 hh tx sc ex qp qs qr ql qb qt qw S T P q pl pc A z zt zp t fp sa ra bk w9 sp p kp su iT ti bb ll F hz Zp r n K kb p0 d0 x9 sT fm bo bt hIn
      by_cases k5 : ((xs i) &&& 31) = 3
      · refine u_tableIn (off := 165) (tgt := 197) h dL_law_32 (by rw [k5]; decide) (by rw [k5]; decide) (by rw [k5]; rfl) (by decide) ?_
        exact lw_draw h hR hLc hLX hL hi4 hH4 hh tx sc ex qp qs qr ql qb qt qw S T P q pl pc A z zt zp t fp sa ra bk w9 sp p kp su iT ti bb ll F hz Zp r n K kb p0 d0 x9 sT fm bo bt hIn
      by_cases k6 : ((xs i) &&& 31) = 4
      · refine u_tableIn (off := 198) (tgt := 230) h dL_law_32 (by rw [k6]; decide) (by rw [k6]; decide) (by rw [k6]; rfl) (by decide) ?_
        exact lw_shuffle h hR hLc hLX hL hi4 hH4 hh tx sc ex qp qs qr ql qb qt qw S T P q pl pc A z zt zp t fp sa ra bk w9 sp p kp su iT ti bb ll F hz Zp r n K kb p0 d0 x9 sT fm bo bt hIn
      by_cases k7 : ((xs i) &&& 31) = 5
      · refine u_tableIn (off := 221) (tgt := 253) h dL_law_32 (by rw [k7]; decide) (by rw [k7]; decide) (by rw [k7]; rfl) (by decide) ?_
        exact lw_perform h hR hLc hLX hL hi4 hH4 hh tx sc ex qp qs qr ql qb qt qw S T P q pl pc A z zt zp t fp sa ra bk w9 sp p kp su iT ti bb ll F hz Zp r n K kb p0 d0 x9 sT fm bo bt hIn
      by_cases k8 : ((xs i) &&& 31) = 6
      · refine u_tableIn (off := 234) (tgt := 266) h dL_law_32 (by rw [k8]; decide) (by rw [k8]; decide) (by rw [k8]; rfl) (by decide) ?_
        exact lw_finish h hR hLc hLX hL hi4 hH4 hh tx sc ex qp qs qr ql qb qt qw S T P q pl pc A z zt zp t fp sa ra bk w9 sp p kp su iT ti bb ll F hz Zp r n K kb p0 d0 x9 sT fm bo bt hIn
      by_cases k9 : ((xs i) &&& 31) = 7
      · refine u_tableIn (off := 247) (tgt := 279) h dL_law_32 (by rw [k9]; decide) (by rw [k9]; decide) (by rw [k9]; rfl) (by decide) ?_
        exact lw_type h hR hLc hLX hL hi4 hH4 hh tx sc ex qp qs qr ql qb qt qw S T P q pl pc A z zt zp t fp sa ra bk w9 sp p kp su iT ti bb ll F hz Zp r n K kb p0 d0 x9 sT fm bo bt hIn
      by_cases k10 : ((xs i) &&& 31) = 8
      · refine u_tableIn (off := 272) (tgt := 304) h dL_law_32 (by rw [k10]; decide) (by rw [k10]; decide) (by rw [k10]; rfl) (by decide) ?_
        exact lw_clearText h hR hLc hLX hL hi4 hH4 hh tx sc ex qp qs qr ql qb qt qw S T P q pl pc A z zt zp t fp sa ra bk w9 sp p kp su iT ti bb ll F hz Zp r n K kb p0 d0 x9 sT fm bo bt hIn
      by_cases k11 : ((xs i) &&& 31) = 9
      · refine u_tableIn (off := 285) (tgt := 317) h dL_law_32 (by rw [k11]; decide) (by rw [k11]; decide) (by rw [k11]; rfl) (by decide) ?_
        exact lw_undo h hR hLc hLX hL hi4 hH4 hh tx sc ex qp qs qr ql qb qt qw S T P q pl pc A z zt zp t fp sa ra bk w9 sp p kp su iT ti bb ll F hz Zp r n K kb p0 d0 x9 sT fm bo bt hIn
      by_cases k12 : ((xs i) &&& 31) = 10
      · refine u_tableIn (off := 298) (tgt := 330) h dL_law_32 (by rw [k12]; decide) (by rw [k12]; decide) (by rw [k12]; rfl) (by decide) ?_
        exact lw_keep h hR hLc hLX hL hi4 hH4 hh tx sc ex qp qs qr ql qb qt qw S T P q pl pc A z zt zp t fp sa ra bk w9 sp p kp su iT ti bb ll F hz Zp r n K kb p0 d0 x9 sT fm bo bt hIn
      by_cases k13 : ((xs i) &&& 31) = 11
      · refine u_tableIn (off := 311) (tgt := 343) h dL_law_32 (by rw [k13]; decide) (by rw [k13]; decide) (by rw [k13]; rfl) (by decide) ?_
        exact lw_restore h hR hLc hLX hL hi4 hH4 hh tx sc ex qp qs qr ql qb qt qw S T P q pl pc A z zt zp t fp sa ra bk w9 sp p kp su iT ti bb ll F hz Zp r n K kb p0 d0 x9 sT fm bo bt hIn
      by_cases k14 : ((xs i) &&& 31) = 12
      · refine u_tableIn (off := 324) (tgt := 356) h dL_law_32 (by rw [k14]; decide) (by rw [k14]; decide) (by rw [k14]; rfl) (by decide) ?_
        exact lw_visitor h hR hLc hLX hL hi4 hH4 hh tx sc ex qp qs qr ql qb qt qw S T P q pl pc A z zt zp t fp sa ra bk w9 sp p kp su iT ti bb ll F hz Zp r n K kb p0 d0 x9 sT fm bo bt hIn
      by_cases k15 : ((xs i) &&& 31) = 13
      · refine u_tableIn (off := 357) (tgt := 389) h dL_law_32 (by rw [k15]; decide) (by rw [k15]; decide) (by rw [k15]; rfl) (by decide) ?_
        exact lw_inLine h hR hLc hLX hL hi4 hH4 hh tx sc ex qp qs qr ql qb qt qw S T P q pl pc A z zt zp t fp sa ra bk w9 sp p kp su iT ti bb ll F hz Zp r n K kb p0 d0 x9 sT fm bo bt hIn
      by_cases k16 : ((xs i) &&& 31) = 14
      · refine u_tableIn (off := 380) (tgt := 412) h dL_law_32 (by rw [k16]; decide) (by rw [k16]; decide) (by rw [k16]; rfl) (by decide) ?_
        exact lw_card h hR hLc hLX hL hi4 hH4 hh tx sc ex qp qs qr ql qb qt qw S T P q pl pc A z zt zp t fp sa ra bk w9 sp p kp su iT ti bb ll F hz Zp r n K kb p0 d0 x9 sT fm bo bt hIn
      by_cases k17 : ((xs i) &&& 31) = 15
      · refine u_tableIn (off := 403) (tgt := 435) h dL_law_32 (by rw [k17]; decide) (by rw [k17]; decide) (by rw [k17]; rfl) (by decide) ?_
        exact lw_total h hR hLc hLX hL hi4 hH4 hh tx sc ex qp qs qr ql qb qt qw S T P q pl pc A z zt zp t fp sa ra bk w9 sp p kp su iT ti bb ll F hz Zp r n K kb p0 d0 x9 sT fm bo bt hIn
      by_cases k18 : ((xs i) &&& 31) = 16
      · refine u_tableIn (off := 426) (tgt := 458) h dL_law_32 (by rw [k18]; decide) (by rw [k18]; decide) (by rw [k18]; rfl) (by decide) ?_
        exact lw_wouldLook h hR hLc hLX hL hi4 hH4 hh tx sc ex qp qs qr ql qb qt qw S T P q pl pc A z zt zp t fp sa ra bk w9 sp p kp su iT ti bb ll F hz Zp r n K kb p0 d0 x9 sT fm bo bt hIn
      by_cases k19 : ((xs i) &&& 31) = 17
      · refine u_tableIn (off := 449) (tgt := 481) h dL_law_32 (by rw [k19]; decide) (by rw [k19]; decide) (by rw [k19]; rfl) (by decide) ?_
        exact lw_wouldTouch h hR hLc hLX hL hi4 hH4 hh tx sc ex qp qs qr ql qb qt qw S T P q pl pc A z zt zp t fp sa ra bk w9 sp p kp su iT ti bb ll F hz Zp r n K kb p0 d0 x9 sT fm bo bt hIn
      by_cases k20 : ((xs i) &&& 31) = 18
      · refine u_tableIn (off := 472) (tgt := 504) h dL_law_32 (by rw [k20]; decide) (by rw [k20]; decide) (by rw [k20]; rfl) (by decide) ?_
        exact lw_stepsToFinish h hR hLc hLX hL hi4 hH4 hh tx sc ex qp qs qr ql qb qt qw S T P q pl pc A z zt zp t fp sa ra bk w9 sp p kp su iT ti bb ll F hz Zp r n K kb p0 d0 x9 sT fm bo bt hIn
      by_cases k21 : ((xs i) &&& 31) = 19
      · refine u_tableIn (off := 485) (tgt := 517) h dL_law_32 (by rw [k21]; decide) (by rw [k21]; decide) (by rw [k21]; rfl) (by decide) ?_
        exact lw_orders h hR hLc hLX hL hi4 hH4 hh tx sc ex qp qs qr ql qb qt qw S T P q pl pc A z zt zp t fp sa ra bk w9 sp p kp su iT ti bb ll F hz Zp r n K kb p0 d0 x9 sT fm bo bt hIn
      refine u_tableOut (tgt := 560) h dL_law_32 (ti_out (n := 20) (by decide) (fun k9 hk9 => by rcases (show k9 = 0 ∨ k9 = 1 ∨ k9 = 2 ∨ k9 = 3 ∨ k9 = 4 ∨ k9 = 5 ∨ k9 = 6 ∨ k9 = 7 ∨ k9 = 8 ∨ k9 = 9 ∨ k9 = 10 ∨ k9 = 11 ∨ k9 = 12 ∨ k9 = 13 ∨ k9 = 14 ∨ k9 = 15 ∨ k9 = 16 ∨ k9 = 17 ∨ k9 = 18 ∨ k9 = 19 by omega) with rfl | rfl | rfl | rfl | rfl | rfl | rfl | rfl | rfl | rfl | rfl | rfl | rfl | rfl | rfl | rfl | rfl | rfl | rfl | rfl <;> assumption)) (by decide) ?_
      refine u_iinc (k := 3) (v := (nI (i + 4))) (lv' := [(3, .int (nI (i + 4))), (0, .ref b), (1, .ref x0), (2, .ref m0)]) h dL_law_560 rfl (nI_add i 4) (by rw [hLc]; decide) rfl rfl ?_
      refine u_goto (tgt := 18) h dL_law_563 (by decide) ?_
      refine u_lv (lv' := [(0, .ref b), (1, .ref x0), (2, .ref m0), (3, .int (nI (i + 4)))]) [1, 2, 3, 0] rfl ?_
      exact hH4 hh tx sc ex qp qs qr ql qb qt qw S T P q pl pc A z zt zp t fp sa ra bk w9 sp p kp su iT ti bb ll F hz Zp r n K kb p0 d0 x9 sT fm bo bt hIn
