set_option maxHeartbeats 8000000 in
set_option maxRecDepth 100000 in
theorem kX5_in (G : Gx) (x a b : Int32) : MC G yX5_in wsX5_in ({ frames := 0, cells := 0, slots := 0, locals := 0 } : Room) [.int x, .int a, .int b] [] (fun v' u' => v' = some (.int (bI (inB x a b))) ∧ u' = []) 0 0 := by
  refine mc_of (cc := cX5_in) (maxL := 3) (ret := (some .boolean)) (by decide) rfl (Nat.le_of_ble_eq_true rfl) (fun X h hR hL hRT => ?_)
  refine u_eql (lv' := [(0, .int x), (1, .int a), (2, .int b)]) rfl ?_
  refine u_iload_n h dX5_in_0 rfl 0 rfl rfl ?_
  refine u_iload_n h dX5_in_1 rfl 1 rfl rfl ?_
  refine u_icmp_lt (tgt := 14) h dX5_in_2 (by decide) rfl (fun c1 => ?_) (fun c1 => ?_)
  · refine u_iconst (v := 0) h dX5_in_14 (by decide) rfl ?_
    exact u_zret h hRT dX5_in_15 rfl (by omega) (by omega) (by refine ⟨congrArg (fun b => some (Value.int b)) ?_, rfl⟩; simp [inB, bI, Int32.not_le.mpr c1])
  · refine u_iload_n h dX5_in_5 rfl 0 rfl rfl ?_
    refine u_iload_n h dX5_in_6 rfl 2 rfl rfl ?_
    refine u_icmp_gt (tgt := 14) h dX5_in_7 (by decide) rfl (fun c2 => ?_) (fun c2 => ?_)
    · refine u_iconst (v := 0) h dX5_in_14 (by decide) rfl ?_
      exact u_zret h hRT dX5_in_15 rfl (by omega) (by omega) (by refine ⟨congrArg (fun b => some (Value.int b)) ?_, rfl⟩; simp [inB, bI, Int32.not_lt.mp c1, Int32.not_le.mpr c2])
    · refine u_iconst (v := 1) h dX5_in_10 (by decide) rfl ?_
      refine u_goto (tgt := 15) h dX5_in_11 (by decide) ?_
      exact u_zret h hRT dX5_in_15 rfl (by omega) (by omega) (by refine ⟨congrArg (fun b => some (Value.int b)) ?_, rfl⟩; simp [inB, bI, Int32.not_lt.mp c1, Int32.not_lt.mp c2])

set_option maxRecDepth 20000 in
theorem cwX5_isVisitor_X5_in : CWd wsX5_isVisitor (wsS RX5 47 yX5_in wsX5_in) yX5_in wsX5_in cX5_in 3 (some .boolean) 3 := ⟨gX5_isVisitor_X5_in, ⟨_, rfl⟩, by decide +kernel, by decide, by decide⟩
set_option maxHeartbeats 8000000 in
set_option maxRecDepth 100000 in
theorem kX5_isVisitor (G : Gx) (x : Int32) : MC G yX5_isVisitor wsX5_isVisitor ({ frames := 1, cells := 0, slots := 0, locals := 22 } : Room) [.int x] [] (fun v' u' => v' = some (.int (bI (isV x))) ∧ u' = []) 0 0 := by
  refine mc_of (cc := cX5_isVisitor) (maxL := 1) (ret := (some .boolean)) (by decide) rfl (Nat.le_of_ble_eq_true rfl) (fun X h hR hL hRT => ?_)
  refine u_eql (lv' := [(0, .int x)]) rfl ?_
  refine u_iload_n h dX5_isVisitor_0 rfl 0 rfl rfl ?_
  refine u_iconst (v := 0) h dX5_isVisitor_1 (by decide) rfl ?_
  refine u_iconst (v := 5) h dX5_isVisitor_2 (by decide) rfl ?_
  refine u_callS h (As := [.int x, .int 0, .int 5]) (wc := []) (wr := []) (kX5_in G x 0 5) cwX5_isVisitor_X5_in rfl rfl hR ⟨⟨rfl, rfl⟩, by decide, by decide⟩ ⟨Nat.le_of_ble_eq_true rfl, Nat.le_of_ble_eq_true rfl⟩ [] [] rfl rfl rfl rfl (by decide) (Nat.le_of_ble_eq_true rfl) rfl dX5_isVisitor_3 rfl (fun v9 u9 hp9 => ?_)
  obtain ⟨rfl, rfl⟩ := hp9
  refine u_wp (ws' := []) [] rfl rfl ?_
  refine u_eqs (st' := [.int (bI (inB x 0 5))]) rfl ?_
  exact u_zret h hRT dX5_isVisitor_6 (bI_nar _) (by omega) (by omega) (by exact ⟨rfl, rfl⟩)

set_option maxHeartbeats 8000000 in
set_option maxRecDepth 100000 in
theorem kX5_copyRow (G : Gx) (qa qb la lb sp dp n : Nat) (f k : Nat → Int32) (ha : sp + n ≤ la) (hb : dp + n ≤ lb) (hla : la < 2 ^ 31) (hlb : lb < 2 ^ 31) : MC G yX5_copyRow wsX5_copyRow ({ frames := 0, cells := 0, slots := 0, locals := 0 } : Room) [.ref qa, .int (nI sp), .ref qb, .int (nI dp), .int (nI n)] [(qa, aI G la f), (qb, aI G lb k)] (fun v' u' => v' = none ∧ u' = [(qa, aI G la f), (qb, aI G lb (va_cpy f k sp dp n))]) 0 0 := by
  refine mc_of (cc := cX5_copyRow) (maxL := 6) (ret := none) (by decide) rfl (Nat.le_of_ble_eq_true rfl) (fun X h hR hL hRT => ?_)
  refine u_eql (lv' := [(0, .ref qa), (1, .int (nI sp)), (2, .ref qb), (3, .int (nI dp)), (4, .int (nI n))]) rfl ?_
  refine u_iconst (v := 0) h dX5_copyRow_0 (by decide) rfl ?_
  refine u_istore (lv' := [(5, .int 0), (0, .ref qa), (1, .int (nI sp)), (2, .ref qb), (3, .int (nI dp)), (4, .int (nI n))]) h dX5_copyRow_1 (by rw [hL]; decide) rfl rfl ?_
  have LL : ∀ (k9 : Nat) (i : Nat) (w : Nat → Int32), n - i = k9 → (i ≤ n) → (w = va_cpy f k sp dp i) → U G X 0 0 [(qa, aI G la f), (qb, aI G lb w)] 3 [(5, .int (nI i)), (0, .ref qa), (1, .int (nI sp)), (2, .ref qb), (3, .int (nI dp)), (4, .int (nI n))] [] := by
    intro k9
    induction k9 using Nat.strongRecOn with
    | _ k9 ihL =>
      intro i w hk9 hi hw
      subst hk9
      refine u_iload h dX5_copyRow_3 0 rfl rfl ?_
      refine u_iload h dX5_copyRow_5 5 rfl rfl ?_
      refine u_icmp_ge_N (a := i) (b := n) (tgt := 28) h dX5_copyRow_7 (by decide) (by omega) (by omega) rfl (fun c1 => ?_) (fun c1 => ?_)
      · exact u_vret h hRT dX5_copyRow_28 (by omega) (by omega) (by exact ⟨rfl, by rw [hw, show i = n from Nat.le_antisymm hi (by omega)]⟩)
      · refine u_aload_n h dX5_copyRow_10 rfl 3 rfl rfl ?_
        refine u_iload_n h dX5_copyRow_11 rfl 4 rfl rfl ?_
        refine u_iload h dX5_copyRow_12 0 rfl rfl ?_
        refine u_iadd (v := (nI (dp + i))) h dX5_copyRow_14 (nI_add dp i) rfl ?_
        refine u_aload_n h dX5_copyRow_15 rfl 1 rfl rfl ?_
        refine u_iload_n h dX5_copyRow_16 rfl 2 rfl rfl ?_
        refine u_iload h dX5_copyRow_17 0 rfl rfl ?_
        refine u_iadd (v := (nI (sp + i))) h dX5_copyRow_19 (nI_add sp i) rfl ?_
        refine u_iald h (n := (sp + i)) 0 rfl (by omega) (by omega) dX5_copyRow_20 rfl ?_
        refine u_iast h (n := (dp + i)) (v := (f (sp + i))) 1 rfl (by omega) (by omega) rfl (ws' := [(qa, aI G la f), (qb, aI G lb (upd w (dp + i) (f (sp + i))))]) rfl dX5_copyRow_21 rfl ?_
        refine u_iinc (k := 0) (v := (nI (i + 1))) (lv' := [(5, .int (nI (i + 1))), (0, .ref qa), (1, .int (nI sp)), (2, .ref qb), (3, .int (nI dp)), (4, .int (nI n))]) h dX5_copyRow_22 rfl (nI_add i 1) (by rw [hL]; decide) rfl rfl ?_
        refine u_goto (tgt := 3) h dX5_copyRow_25 (by decide) ?_
        exact ihL _ (by omega) (i + 1) (upd w (dp + i) (f (sp + i))) rfl (by omega) (by rw [hw]; exact cpy_succ _ _ _ _ _)
  exact LL _ 0 k rfl (Nat.zero_le _) (cpy_0 _ _ _ _).symm

theorem flX5_notAway_7 : FL wsX5_notAway RX5 7 5 0 := ⟨RX5, TX5, 18, rfl, by decide, by decide +kernel, by decide +kernel⟩
set_option maxHeartbeats 8000000 in
set_option maxRecDepth 100000 in
theorem kX5_notAway (G : Gx) (h0 qz : Nat) (fs : List Value) (hfz : fs[0]? = some (.ref qz)) (z : Zf) : MC G yX5_notAway wsX5_notAway ({ frames := 0, cells := 0, slots := 0, locals := 0 } : Room) [.ref h0] [(h0, .inr (5, fs)), (qz, aI G 86 z)] (fun v' u' => v' = some (.int (cntZ z 6)) ∧ u' = [(h0, .inr (5, fs)), (qz, aI G 86 z)]) 0 0 := by
  refine mc_of (cc := cX5_notAway) (maxL := 3) (ret := (some .int)) (by decide) rfl (Nat.le_of_ble_eq_true rfl) (fun X h hR hL hRT => ?_)
  refine u_eql (lv' := [(0, .ref h0)]) rfl ?_
  refine u_iconst (v := 0) h dX5_notAway_0 (by decide) rfl ?_
  refine u_istore_n (lv' := [(1, .int 0), (0, .ref h0)]) h dX5_notAway_1 rfl (by rw [hL]; decide) rfl rfl ?_
  refine u_iconst (v := 0) h dX5_notAway_2 (by decide) rfl ?_
  refine u_istore_n (lv' := [(2, .int 0), (1, .int 0), (0, .ref h0)]) h dX5_notAway_3 rfl (by rw [hL]; decide) rfl rfl ?_
  have LL : ∀ (k9 : Nat) (v : Nat) (n : Int32), 6 - v = k9 → (v ≤ 6) → (n = cntZ z v) → U G X 0 0 [(h0, .inr (5, fs)), (qz, aI G 86 z)] 4 [(2, .int (nI v)), (1, .int n), (0, .ref h0)] [] := by
    intro k9
    induction k9 using Nat.strongRecOn with
    | _ k9 ihL =>
      intro v n hk9 hi hn
      subst hk9
      refine u_iload_n h dX5_notAway_4 rfl 0 rfl rfl ?_
      refine u_bipush (v := 6) h dX5_notAway_5 (by decide) rfl ?_
      refine u_icmp_ge_N (a := v) (b := 6) (tgt := 35) h dX5_notAway_7 (by decide) (by omega) (by omega) rfl (fun c1 => ?_) (fun c1 => ?_)
      · refine u_iload_n h dX5_notAway_35 rfl 1 rfl rfl ?_
        exact u_iret h hRT dX5_notAway_36 (by omega) (by omega) (by exact ⟨by rw [hn, show v = 6 from Nat.le_antisymm hi (by omega)], rfl⟩)
      · refine u_iload_n h dX5_notAway_10 rfl 1 rfl rfl ?_
        refine u_aload_n h dX5_notAway_11 rfl 2 rfl rfl ?_
        refine u_get h flX5_notAway_7 0 (v := .ref qz) rfl hfz dX5_notAway_12 rfl ?_
        refine u_iconst (v := 0) h dX5_notAway_15 (by decide) rfl ?_
        refine u_iload_n h dX5_notAway_16 rfl 0 rfl rfl ?_
        refine u_iadd (v := (nI v)) h dX5_notAway_17 (by have h9 := nI_add 0 v; rw [Nat.zero_add] at h9; exact h9) rfl ?_
        refine u_iald h (n := v) 1 rfl (by omega) (by omega) dX5_notAway_18 rfl ?_
        refine u_if_ne (tgt := 26) h dX5_notAway_19 (by decide) rfl (fun c2 => ?_) (fun c2 => ?_)
        · refine u_iconst (v := 1) h dX5_notAway_26 (by decide) rfl ?_
          refine u_iadd (v := (n + 1)) h dX5_notAway_27 rfl rfl ?_
          refine u_istore_n (lv' := [(1, .int (n + 1)), (2, .int (nI v)), (0, .ref h0)]) h dX5_notAway_28 rfl (by rw [hL]; decide) rfl rfl ?_
          refine u_iinc (k := 1) (v := (nI (v + 1))) (lv' := [(2, .int (nI (v + 1))), (1, .int (n + 1)), (0, .ref h0)]) h dX5_notAway_29 rfl (nI_add v 1) (by rw [hL]; decide) rfl rfl ?_
          refine u_goto (tgt := 4) h dX5_notAway_32 (by decide) ?_
          exact ihL _ (by omega) (v + 1) (n + 1) rfl (by omega) (by rw [hn]; simp [cntZ, c1, c2])
        · refine u_iconst (v := 0) h dX5_notAway_22 (by decide) rfl ?_
          refine u_goto (tgt := 27) h dX5_notAway_23 (by decide) ?_
          refine u_iadd (v := (n + 0)) h dX5_notAway_27 rfl rfl ?_
          refine u_istore_n (lv' := [(1, .int (n + 0)), (2, .int (nI v)), (0, .ref h0)]) h dX5_notAway_28 rfl (by rw [hL]; decide) rfl rfl ?_
          refine u_iinc (k := 1) (v := (nI (v + 1))) (lv' := [(2, .int (nI (v + 1))), (1, .int (n + 0)), (0, .ref h0)]) h dX5_notAway_29 rfl (nI_add v 1) (by rw [hL]; decide) rfl rfl ?_
          refine u_goto (tgt := 4) h dX5_notAway_32 (by decide) ?_
          exact ihL _ (by omega) (v + 1) (n + 0) rfl (by omega) (by rw [hn]; simp [cntZ, c1, c2])
  exact LL _ 0 0 rfl (Nat.zero_le _) rfl

theorem flX5_isLook_7 : FL wsX5_isLook RX5 7 5 0 := ⟨RX5, TX5, 18, rfl, by decide, by decide +kernel, by decide +kernel⟩
set_option maxHeartbeats 8000000 in
set_option maxRecDepth 100000 in
theorem kX5_isLook (G : Gx) (h0 qz : Nat) (fs : List Value) (hfz : fs[0]? = some (.ref qz)) (z : Zf) (v : Nat) (hv : v < 6) (hW : Wf z) : MC G yX5_isLook wsX5_isLook ({ frames := 0, cells := 0, slots := 0, locals := 0 } : Room) [.ref h0, .int (nI v)] [(h0, .inr (5, fs)), (qz, aI G 86 z)] (fun v' u' => v' = some (.int (bI (isLook z v))) ∧ u' = [(h0, .inr (5, fs)), (qz, aI G 86 z)]) 0 0 := by
  refine mc_of (cc := cX5_isLook) (maxL := 3) (ret := (some .boolean)) (by decide) rfl (Nat.le_of_ble_eq_true rfl) (fun X h hR hL hRT => ?_)
  refine u_eql (lv' := [(0, .ref h0), (1, .int (nI v))]) rfl ?_
  refine u_aload_n h dX5_isLook_0 rfl 0 rfl rfl ?_
  refine u_get h flX5_isLook_7 0 (v := .ref qz) rfl hfz dX5_isLook_1 rfl ?_
  refine u_iconst (v := 0) h dX5_isLook_4 (by decide) rfl ?_
  refine u_iload_n h dX5_isLook_5 rfl 1 rfl rfl ?_
  refine u_iadd (v := (nI v)) h dX5_isLook_6 (by have h9 := nI_add 0 v; rw [Nat.zero_add] at h9; exact h9) rfl ?_
  refine u_iald h (n := v) 1 rfl (by omega) (by omega) dX5_isLook_7 rfl ?_
  refine u_istore_n (lv' := [(2, .int (z v)), (0, .ref h0), (1, .int (nI v))]) h dX5_isLook_8 rfl (by rw [hL]; decide) rfl rfl ?_
  refine u_aload_n h dX5_isLook_9 rfl 1 rfl rfl ?_
  refine u_get h flX5_isLook_7 0 (v := .ref qz) rfl hfz dX5_isLook_10 rfl ?_
  refine u_bipush (v := 60) h dX5_isLook_13 (by decide) rfl ?_
  refine u_iald h (n := 60) 1 rfl (by omega) (by omega) dX5_isLook_15 rfl ?_
  refine u_if_ne (tgt := 62) h dX5_isLook_16 (by decide) rfl (fun c1 => ?_) (fun c1 => ?_)
  · refine u_iload_n h dX5_isLook_62 rfl 0 rfl rfl ?_
    refine u_iconst (v := 3) h dX5_isLook_63 (by decide) rfl ?_
    refine u_icmp_eq (tgt := 69) h dX5_isLook_64 (by decide) rfl (fun c2 => ?_) (fun c2 => ?_)
    · refine u_aload_n h dX5_isLook_69 rfl 1 rfl rfl ?_
      refine u_get h flX5_isLook_7 0 (v := .ref qz) rfl hfz dX5_isLook_70 rfl ?_
      refine u_bipush (v := 60) h dX5_isLook_73 (by decide) rfl ?_
      refine u_iald h (n := 60) 1 rfl (by omega) (by omega) dX5_isLook_75 rfl ?_
      refine u_iconst (v := 1) h dX5_isLook_76 (by decide) rfl ?_
      refine u_icmp_ne (tgt := 109) h dX5_isLook_77 (by decide) rfl (fun c3 => ?_) (fun c3 => ?_)
      · refine u_aload_n h dX5_isLook_109 rfl 1 rfl rfl ?_
        refine u_get h flX5_isLook_7 0 (v := .ref qz) rfl hfz dX5_isLook_110 rfl ?_
        refine u_bipush (v := 60) h dX5_isLook_113 (by decide) rfl ?_
        refine u_iald h (n := 60) 1 rfl (by omega) (by omega) dX5_isLook_115 rfl ?_
        refine u_iconst (v := 2) h dX5_isLook_116 (by decide) rfl ?_
        refine u_icmp_ne (tgt := 147) h dX5_isLook_117 (by decide) rfl (fun c4 => ?_) (fun c4 => ?_)
        · refine u_aload_n h dX5_isLook_147 rfl 1 rfl rfl ?_
          refine u_get h flX5_isLook_7 0 (v := .ref qz) rfl hfz dX5_isLook_148 rfl ?_
          refine u_bipush (v := 52) h dX5_isLook_151 (by decide) rfl ?_
          refine u_iald h (n := 52) 1 rfl (by omega) (by omega) dX5_isLook_153 rfl ?_
          refine u_iconst (v := 1) h dX5_isLook_154 (by decide) rfl ?_
          refine u_icmp_ne (tgt := 162) h dX5_isLook_155 (by decide) rfl (fun c5 => ?_) (fun c5 => ?_)
          · refine u_iconst (v := 0) h dX5_isLook_162 (by decide) rfl ?_
            exact u_zret h hRT dX5_isLook_163 rfl (by omega) (by omega) (by refine ⟨congrArg (fun b => some (Value.int b)) ?_, rfl⟩; first | (simp [isLook, bI, c1, c2, c3, c4, c5]; done) | (exfalso; simp_all; done) | (simp_all [isLook, bI, c1, c2, c3, c4, c5]; done))
          · refine u_iconst (v := 1) h dX5_isLook_158 (by decide) rfl ?_
            refine u_goto (tgt := 163) h dX5_isLook_159 (by decide) ?_
            exact u_zret h hRT dX5_isLook_163 rfl (by omega) (by omega) (by refine ⟨congrArg (fun b => some (Value.int b)) ?_, rfl⟩; first | (simp [isLook, bI, c1, c2, c3, c4, c5]; done) | (exfalso; simp_all; done) | (simp_all [isLook, bI, c1, c2, c3, c4, c5]; done))
        · refine u_aload_n h dX5_isLook_120 rfl 1 rfl rfl ?_
          refine u_get h flX5_isLook_7 0 (v := .ref qz) rfl hfz dX5_isLook_121 rfl ?_
          refine u_bipush (v := 36) h dX5_isLook_124 (by decide) rfl ?_
          refine u_iload_n h dX5_isLook_126 rfl 2 rfl rfl ?_
          refine u_iadd (v := (nI (36 + v))) h dX5_isLook_127 (nI_add 36 v) rfl ?_
          refine u_iald h (n := (36 + v)) 1 rfl (by omega) (by omega) dX5_isLook_128 rfl ?_
          refine u_aload_n h dX5_isLook_129 rfl 1 rfl rfl ?_
          refine u_get h flX5_isLook_7 0 (v := .ref qz) rfl hfz dX5_isLook_130 rfl ?_
          refine u_bipush (v := 51) h dX5_isLook_133 (by decide) rfl ?_
          refine u_iald h (n := 51) 1 rfl (by omega) (by omega) dX5_isLook_135 rfl ?_
          refine u_icmp_eq (tgt := 143) h dX5_isLook_136 (by decide) rfl (fun c6 => ?_) (fun c6 => ?_)
          · refine u_iconst (v := 0) h dX5_isLook_143 (by decide) rfl ?_
            refine u_goto (tgt := 163) h dX5_isLook_144 (by decide) ?_
            exact u_zret h hRT dX5_isLook_163 rfl (by omega) (by omega) (by refine ⟨congrArg (fun b => some (Value.int b)) ?_, rfl⟩; first | (simp [isLook, bI, c1, c2, c3, c4, c6]; done) | (exfalso; simp_all; done) | (simp_all [isLook, bI, c1, c2, c3, c4, c6]; done))
          · refine u_iconst (v := 1) h dX5_isLook_139 (by decide) rfl ?_
            refine u_goto (tgt := 163) h dX5_isLook_140 (by decide) ?_
            exact u_zret h hRT dX5_isLook_163 rfl (by omega) (by omega) (by refine ⟨congrArg (fun b => some (Value.int b)) ?_, rfl⟩; first | (simp [isLook, bI, c1, c2, c3, c4, c6]; done) | (exfalso; simp_all; done) | (simp_all [isLook, bI, c1, c2, c3, c4, c6]; done))
      · refine u_aload_n h dX5_isLook_80 rfl 1 rfl rfl ?_
        refine u_get h flX5_isLook_7 0 (v := .ref qz) rfl hfz dX5_isLook_81 rfl ?_
        refine u_bipush (v := 42) h dX5_isLook_84 (by decide) rfl ?_
        refine u_aload_n h dX5_isLook_86 rfl 1 rfl rfl ?_
        refine u_get h flX5_isLook_7 0 (v := .ref qz) rfl hfz dX5_isLook_87 rfl ?_
        refine u_bipush (v := 30) h dX5_isLook_90 (by decide) rfl ?_
        refine u_iload_n h dX5_isLook_92 rfl 2 rfl rfl ?_
        refine u_iadd (v := (nI (30 + v))) h dX5_isLook_93 (nI_add 30 v) rfl ?_
        refine u_iald h (n := (30 + v)) 1 rfl (by omega) (by omega) dX5_isLook_94 rfl ?_
        obtain ⟨a7, ha7, ea7⟩ := hW.w c3 hv c2
        refine u_top (y := nI a7) ea7 ?_
        refine u_iadd (v := (nI (42 + a7))) h dX5_isLook_95 (nI_add 42 a7) rfl ?_
        refine u_iald h (n := (42 + a7)) 1 rfl (by omega) (by omega) dX5_isLook_96 rfl ?_
        refine u_iconst (v := 1) h dX5_isLook_97 (by decide) rfl ?_
        refine u_icmp_ne (tgt := 105) h dX5_isLook_98 (by decide) rfl (fun c8 => ?_) (fun c8 => ?_)
        · refine u_iconst (v := 0) h dX5_isLook_105 (by decide) rfl ?_
          refine u_goto (tgt := 163) h dX5_isLook_106 (by decide) ?_
          exact u_zret h hRT dX5_isLook_163 rfl (by omega) (by omega) (by refine ⟨congrArg (fun b => some (Value.int b)) ?_, rfl⟩; first | (simp [isLook, bI, c1, c2, c3, ea7, c8, ix_nI (show a7 < 2 ^ 31 by omega)]; done) | (exfalso; simp_all; done) | (simp_all [isLook, bI, c1, c2, c3, ea7, c8, ix_nI (show a7 < 2 ^ 31 by omega)]; done))
        · refine u_iconst (v := 1) h dX5_isLook_101 (by decide) rfl ?_
          refine u_goto (tgt := 163) h dX5_isLook_102 (by decide) ?_
          exact u_zret h hRT dX5_isLook_163 rfl (by omega) (by omega) (by refine ⟨congrArg (fun b => some (Value.int b)) ?_, rfl⟩; first | (simp [isLook, bI, c1, c2, c3, ea7, c8, ix_nI (show a7 < 2 ^ 31 by omega)]; done) | (exfalso; simp_all; done) | (simp_all [isLook, bI, c1, c2, c3, ea7, c8, ix_nI (show a7 < 2 ^ 31 by omega)]; done))
    · refine u_iconst (v := 0) h dX5_isLook_67 (by decide) rfl ?_
      exact u_zret h hRT dX5_isLook_68 rfl (by omega) (by omega) (by refine ⟨congrArg (fun b => some (Value.int b)) ?_, rfl⟩; first | (simp [isLook, bI, c1, c2]; done) | (exfalso; simp_all; done) | (simp_all [isLook, bI, c1, c2]; done))
  · refine u_iload_n h dX5_isLook_19 rfl 0 rfl rfl ?_
    refine u_iconst (v := 3) h dX5_isLook_20 (by decide) rfl ?_
    refine u_icmp_ne (tgt := 37) h dX5_isLook_21 (by decide) rfl (fun c9 => ?_) (fun c9 => ?_)
    · refine u_iload_n h dX5_isLook_37 rfl 0 rfl rfl ?_
      refine u_bipush (v := 6) h dX5_isLook_38 (by decide) rfl ?_
      refine u_icmp_ne (tgt := 60) h dX5_isLook_40 (by decide) rfl (fun c10 => ?_) (fun c10 => ?_)
      · refine u_iconst (v := 0) h dX5_isLook_60 (by decide) rfl ?_
        exact u_zret h hRT dX5_isLook_61 rfl (by omega) (by omega) (by refine ⟨congrArg (fun b => some (Value.int b)) ?_, rfl⟩; first | (simp [isLook, bI, c1, c9, c10]; done) | (exfalso; simp_all; done) | (simp_all [isLook, bI, c1, c9, c10]; done))
      · refine u_aload_n h dX5_isLook_43 rfl 1 rfl rfl ?_
        refine u_get h flX5_isLook_7 0 (v := .ref qz) rfl hfz dX5_isLook_44 rfl ?_
        refine u_bipush (v := 6) h dX5_isLook_47 (by decide) rfl ?_
        refine u_iload_n h dX5_isLook_49 rfl 2 rfl rfl ?_
        refine u_iadd (v := (nI (6 + v))) h dX5_isLook_50 (nI_add 6 v) rfl ?_
        refine u_iald h (n := (6 + v)) 1 rfl (by omega) (by omega) dX5_isLook_51 rfl ?_
        refine u_iconst (v := (-1)) h dX5_isLook_52 (by decide) rfl ?_
        refine u_icmp_ne (tgt := 60) h dX5_isLook_53 (by decide) rfl (fun c11 => ?_) (fun c11 => ?_)
        · refine u_iconst (v := 0) h dX5_isLook_60 (by decide) rfl ?_
          exact u_zret h hRT dX5_isLook_61 rfl (by omega) (by omega) (by refine ⟨congrArg (fun b => some (Value.int b)) ?_, rfl⟩; first | (simp [isLook, bI, c1, c9, c10, c11]; done) | (exfalso; simp_all; done) | (simp_all [isLook, bI, c1, c9, c10, c11]; done))
        · refine u_iconst (v := 1) h dX5_isLook_56 (by decide) rfl ?_
          refine u_goto (tgt := 61) h dX5_isLook_57 (by decide) ?_
          exact u_zret h hRT dX5_isLook_61 rfl (by omega) (by omega) (by refine ⟨congrArg (fun b => some (Value.int b)) ?_, rfl⟩; first | (simp [isLook, bI, c1, c9, c10, c11]; done) | (exfalso; simp_all; done) | (simp_all [isLook, bI, c1, c9, c10, c11]; done))
    · refine u_aload_n h dX5_isLook_24 rfl 1 rfl rfl ?_
      refine u_get h flX5_isLook_7 0 (v := .ref qz) rfl hfz dX5_isLook_25 rfl ?_
      refine u_bipush (v := 12) h dX5_isLook_28 (by decide) rfl ?_
      refine u_iload_n h dX5_isLook_30 rfl 2 rfl rfl ?_
      refine u_iadd (v := (nI (12 + v))) h dX5_isLook_31 (nI_add 12 v) rfl ?_
      refine u_iald h (n := (12 + v)) 1 rfl (by omega) (by omega) dX5_isLook_32 rfl ?_
      refine u_iconst (v := 1) h dX5_isLook_33 (by decide) rfl ?_
      refine u_icmp_eq (tgt := 56) h dX5_isLook_34 (by decide) rfl (fun c12 => ?_) (fun c12 => ?_)
      · refine u_iconst (v := 1) h dX5_isLook_56 (by decide) rfl ?_
        refine u_goto (tgt := 61) h dX5_isLook_57 (by decide) ?_
        exact u_zret h hRT dX5_isLook_61 rfl (by omega) (by omega) (by refine ⟨congrArg (fun b => some (Value.int b)) ?_, rfl⟩; first | (simp [isLook, bI, c1, c9, c12]; done) | (exfalso; simp_all; done) | (simp_all [isLook, bI, c1, c9, c12]; done))
      · refine u_iload_n h dX5_isLook_37 rfl 0 rfl rfl ?_
        refine u_bipush (v := 6) h dX5_isLook_38 (by decide) rfl ?_
        refine u_icmp_ne (tgt := 60) h dX5_isLook_40 (by decide) rfl (fun c13 => ?_) (fun c13 => ?_)
        · refine u_iconst (v := 0) h dX5_isLook_60 (by decide) rfl ?_
          exact u_zret h hRT dX5_isLook_61 rfl (by omega) (by omega) (by refine ⟨congrArg (fun b => some (Value.int b)) ?_, rfl⟩; first | (simp [isLook, bI, c1, c9, c12, c13]; done) | (exfalso; simp_all; done) | (simp_all [isLook, bI, c1, c9, c12, c13]; done))
        · refine u_aload_n h dX5_isLook_43 rfl 1 rfl rfl ?_
          refine u_get h flX5_isLook_7 0 (v := .ref qz) rfl hfz dX5_isLook_44 rfl ?_
          refine u_bipush (v := 6) h dX5_isLook_47 (by decide) rfl ?_
          refine u_iload_n h dX5_isLook_49 rfl 2 rfl rfl ?_
          refine u_iadd (v := (nI (6 + v))) h dX5_isLook_50 (nI_add 6 v) rfl ?_
          refine u_iald h (n := (6 + v)) 1 rfl (by omega) (by omega) dX5_isLook_51 rfl ?_
          refine u_iconst (v := (-1)) h dX5_isLook_52 (by decide) rfl ?_
          refine u_icmp_ne (tgt := 60) h dX5_isLook_53 (by decide) rfl (fun c14 => ?_) (fun c14 => ?_)
          · refine u_iconst (v := 0) h dX5_isLook_60 (by decide) rfl ?_
            exact u_zret h hRT dX5_isLook_61 rfl (by omega) (by omega) (by refine ⟨congrArg (fun b => some (Value.int b)) ?_, rfl⟩; first | (simp [isLook, bI, c1, c9, c12, c13, c14]; done) | (exfalso; simp_all; done) | (simp_all [isLook, bI, c1, c9, c12, c13, c14]; done))
          · refine u_iconst (v := 1) h dX5_isLook_56 (by decide) rfl ?_
            refine u_goto (tgt := 61) h dX5_isLook_57 (by decide) ?_
            exact u_zret h hRT dX5_isLook_61 rfl (by omega) (by omega) (by refine ⟨congrArg (fun b => some (Value.int b)) ?_, rfl⟩; first | (simp [isLook, bI, c1, c9, c12, c13, c14]; done) | (exfalso; simp_all; done) | (simp_all [isLook, bI, c1, c9, c12, c13, c14]; done))

set_option maxHeartbeats 8000000 in
set_option maxRecDepth 100000 in
theorem kX5_cost (G : Gx) (k s : Int32) : MC G yX5_cost wsX5_cost ({ frames := 0, cells := 0, slots := 0, locals := 0 } : Room) [.int k, .int s] [] (fun v' u' => v' = some (.int (costM k s)) ∧ u' = []) 0 0 := by
  refine mc_of (cc := cX5_cost) (maxL := 2) (ret := (some .int)) (by decide) rfl (Nat.le_of_ble_eq_true rfl) (fun X h hR hL hRT => ?_)
  refine u_eql (lv' := [(0, .int k), (1, .int s)]) rfl ?_
  refine u_iload_n h dX5_cost_0 rfl 0 rfl rfl ?_
  by_cases k1 : k = 0
  · refine u_tableIn (off := 27) (tgt := 28) h dX5_cost_1 (by rw [k1]; decide) (by rw [k1]; decide) (by rw [k1]; rfl) (by decide) ?_
    refine u_iload_n h dX5_cost_28 rfl 1 rfl rfl ?_
    refine u_iconst (v := 1) h dX5_cost_29 (by decide) rfl ?_
    refine u_icmp_eq (tgt := 49) h dX5_cost_30 (by decide) rfl (fun c2 => ?_) (fun c2 => ?_)
    · refine u_iconst (v := 1) h dX5_cost_49 (by decide) rfl ?_
      refine u_goto (tgt := 54) h dX5_cost_50 (by decide) ?_
      exact u_iret h hRT dX5_cost_54 (by omega) (by omega) (by refine ⟨congrArg (fun b => some (Value.int b)) ?_, rfl⟩; first | (simp [costM, k1, c2]; done) | (exfalso; simp_all; done) | (simp_all [costM, k1, c2]; done))
    · refine u_iload_n h dX5_cost_33 rfl 1 rfl rfl ?_
      refine u_iconst (v := 2) h dX5_cost_34 (by decide) rfl ?_
      refine u_icmp_eq (tgt := 49) h dX5_cost_35 (by decide) rfl (fun c3 => ?_) (fun c3 => ?_)
      · refine u_iconst (v := 1) h dX5_cost_49 (by decide) rfl ?_
        refine u_goto (tgt := 54) h dX5_cost_50 (by decide) ?_
        exact u_iret h hRT dX5_cost_54 (by omega) (by omega) (by refine ⟨congrArg (fun b => some (Value.int b)) ?_, rfl⟩; first | (simp [costM, k1, c2, c3]; done) | (exfalso; simp_all; done) | (simp_all [costM, k1, c2, c3]; done))
      · refine u_iload_n h dX5_cost_38 rfl 1 rfl rfl ?_
        refine u_iconst (v := 5) h dX5_cost_39 (by decide) rfl ?_
        refine u_icmp_eq (tgt := 49) h dX5_cost_40 (by decide) rfl (fun c4 => ?_) (fun c4 => ?_)
        · refine u_iconst (v := 1) h dX5_cost_49 (by decide) rfl ?_
          refine u_goto (tgt := 54) h dX5_cost_50 (by decide) ?_
          exact u_iret h hRT dX5_cost_54 (by omega) (by omega) (by refine ⟨congrArg (fun b => some (Value.int b)) ?_, rfl⟩; first | (simp [costM, k1, c2, c3, c4]; done) | (exfalso; simp_all; done) | (simp_all [costM, k1, c2, c3, c4]; done))
        · refine u_iload_n h dX5_cost_43 rfl 1 rfl rfl ?_
          refine u_bipush (v := 7) h dX5_cost_44 (by decide) rfl ?_
          refine u_icmp_ne (tgt := 53) h dX5_cost_46 (by decide) rfl (fun c5 => ?_) (fun c5 => ?_)
          · refine u_iconst (v := 0) h dX5_cost_53 (by decide) rfl ?_
            exact u_iret h hRT dX5_cost_54 (by omega) (by omega) (by refine ⟨congrArg (fun b => some (Value.int b)) ?_, rfl⟩; first | (simp [costM, k1, c2, c3, c4, c5]; done) | (exfalso; simp_all; done) | (simp_all [costM, k1, c2, c3, c4, c5]; done))
          · refine u_iconst (v := 1) h dX5_cost_49 (by decide) rfl ?_
            refine u_goto (tgt := 54) h dX5_cost_50 (by decide) ?_
            exact u_iret h hRT dX5_cost_54 (by omega) (by omega) (by refine ⟨congrArg (fun b => some (Value.int b)) ?_, rfl⟩; first | (simp [costM, k1, c2, c3, c4, c5]; done) | (exfalso; simp_all; done) | (simp_all [costM, k1, c2, c3, c4, c5]; done))
  by_cases k6 : k = 1
  · refine u_tableIn (off := 54) (tgt := 55) h dX5_cost_1 (by rw [k6]; decide) (by rw [k6]; decide) (by rw [k6]; rfl) (by decide) ?_
    refine u_iload_n h dX5_cost_55 rfl 1 rfl rfl ?_
    refine u_iconst (v := 1) h dX5_cost_56 (by decide) rfl ?_
    refine u_icmp_eq (tgt := 65) h dX5_cost_57 (by decide) rfl (fun c7 => ?_) (fun c7 => ?_)
    · refine u_iconst (v := 1) h dX5_cost_65 (by decide) rfl ?_
      refine u_goto (tgt := 70) h dX5_cost_66 (by decide) ?_
      exact u_iret h hRT dX5_cost_70 (by omega) (by omega) (by refine ⟨congrArg (fun b => some (Value.int b)) ?_, rfl⟩; first | (simp [costM, k6, c7]; done) | (exfalso; simp_all; done) | (simp_all [costM, k6, c7]; done))
    · refine u_iload_n h dX5_cost_60 rfl 1 rfl rfl ?_
      refine u_iconst (v := 3) h dX5_cost_61 (by decide) rfl ?_
      refine u_icmp_ne (tgt := 69) h dX5_cost_62 (by decide) rfl (fun c8 => ?_) (fun c8 => ?_)
      · refine u_iconst (v := 0) h dX5_cost_69 (by decide) rfl ?_
        exact u_iret h hRT dX5_cost_70 (by omega) (by omega) (by refine ⟨congrArg (fun b => some (Value.int b)) ?_, rfl⟩; first | (simp [costM, k6, c7, c8]; done) | (exfalso; simp_all; done) | (simp_all [costM, k6, c7, c8]; done))
      · refine u_iconst (v := 1) h dX5_cost_65 (by decide) rfl ?_
        refine u_goto (tgt := 70) h dX5_cost_66 (by decide) ?_
        exact u_iret h hRT dX5_cost_70 (by omega) (by omega) (by refine ⟨congrArg (fun b => some (Value.int b)) ?_, rfl⟩; first | (simp [costM, k6, c7, c8]; done) | (exfalso; simp_all; done) | (simp_all [costM, k6, c7, c8]; done))
  by_cases k9 : k = 2
  · refine u_tableIn (off := 70) (tgt := 71) h dX5_cost_1 (by rw [k9]; decide) (by rw [k9]; decide) (by rw [k9]; rfl) (by decide) ?_
    refine u_iconst (v := 1) h dX5_cost_71 (by decide) rfl ?_
    exact u_iret h hRT dX5_cost_72 (by omega) (by omega) (by refine ⟨congrArg (fun b => some (Value.int b)) ?_, rfl⟩; first | (simp [costM, k9]; done) | (exfalso; simp_all; done) | (simp_all [costM, k9]; done))
  refine u_tableOut (tgt := 73) h dX5_cost_1 (ti_out (n := 3) (by decide) (fun k9 hk9 => by rcases (show k9 = 0 ∨ k9 = 1 ∨ k9 = 2 by omega) with rfl | rfl | rfl <;> assumption)) (by decide) ?_
  refine u_iload_n h dX5_cost_73 rfl 1 rfl rfl ?_
  refine u_if_ne (tgt := 81) h dX5_cost_74 (by decide) rfl (fun c10 => ?_) (fun c10 => ?_)
  · refine u_iconst (v := 1) h dX5_cost_81 (by decide) rfl ?_
    exact u_iret h hRT dX5_cost_82 (by omega) (by omega) (by refine ⟨congrArg (fun b => some (Value.int b)) ?_, rfl⟩; first | (simp [costM, c10, k1, k6, k9]; done) | (exfalso; simp_all; done) | (simp_all [costM, c10, k1, k6, k9]; done))
  · refine u_iconst (v := 0) h dX5_cost_77 (by decide) rfl ?_
    refine u_goto (tgt := 82) h dX5_cost_78 (by decide) ?_
    exact u_iret h hRT dX5_cost_82 (by omega) (by omega) (by refine ⟨congrArg (fun b => some (Value.int b)) ?_, rfl⟩; first | (simp [costM, c10, k1, k6, k9]; done) | (exfalso; simp_all; done) | (simp_all [costM, c10, k1, k6, k9]; done))

theorem flX5_changeNudges_7 : FL wsX5_changeNudges RX5 7 5 0 := ⟨RX5, TX5, 18, rfl, by decide, by decide +kernel, by decide +kernel⟩
set_option maxHeartbeats 8000000 in
set_option maxRecDepth 100000 in
theorem kX5_changeNudges (G : Gx) (h0 qz : Nat) (fs : List Value) (hfz : fs[0]? = some (.ref qz)) (z : Zf) (v : Nat) (hv : v < 6) (hW : Wf z) (hk : z 60 = 0) : MC G yX5_changeNudges wsX5_changeNudges ({ frames := 0, cells := 0, slots := 0, locals := 0 } : Room) [.ref h0, .int (nI v)] [(h0, .inr (5, fs)), (qz, aI G 86 z)] (fun v' u' => v' = none ∧ u' = [(h0, .inr (5, fs)), (qz, aI G 86 (chN z v))]) 0 0 := by
  refine mc_of (cc := cX5_changeNudges) (maxL := 4) (ret := none) (by decide) rfl (Nat.le_of_ble_eq_true rfl) (fun X h hR hL hRT => ?_)
  refine u_eql (lv' := [(0, .ref h0), (1, .int (nI v))]) rfl ?_
  refine u_aload_n h dX5_changeNudges_0 rfl 0 rfl rfl ?_
  refine u_get h flX5_changeNudges_7 0 (v := .ref qz) rfl hfz dX5_changeNudges_1 rfl ?_
  refine u_iconst (v := 0) h dX5_changeNudges_4 (by decide) rfl ?_
  refine u_iload_n h dX5_changeNudges_5 rfl 1 rfl rfl ?_
  refine u_iadd (v := (nI v)) h dX5_changeNudges_6 (by have h9 := nI_add 0 v; rw [Nat.zero_add] at h9; exact h9) rfl ?_
  refine u_iald h (n := v) 1 rfl (by omega) (by omega) dX5_changeNudges_7 rfl ?_
  refine u_istore_n (lv' := [(2, .int (z v)), (0, .ref h0), (1, .int (nI v))]) h dX5_changeNudges_8 rfl (by rw [hL]; decide) rfl rfl ?_
  refine u_aload_n h dX5_changeNudges_9 rfl 1 rfl rfl ?_
  refine u_get h flX5_changeNudges_7 0 (v := .ref qz) rfl hfz dX5_changeNudges_10 rfl ?_
  refine u_bipush (v := 6) h dX5_changeNudges_13 (by decide) rfl ?_
  refine u_iload_n h dX5_changeNudges_15 rfl 2 rfl rfl ?_
  refine u_iadd (v := (nI (6 + v))) h dX5_changeNudges_16 (nI_add 6 v) rfl ?_
  refine u_iald h (n := (6 + v)) 1 rfl (by omega) (by omega) dX5_changeNudges_17 rfl ?_
  refine u_istore_n (lv' := [(3, .int (z (6 + v))), (2, .int (z v)), (0, .ref h0), (1, .int (nI v))]) h dX5_changeNudges_18 rfl (by rw [hL]; decide) rfl rfl ?_
  refine u_iload_n h dX5_changeNudges_19 rfl 1 rfl rfl ?_
  by_cases k1 : (z v) = 0
  · refine u_tableIn (off := 44) (tgt := 64) h dX5_changeNudges_20 (by rw [k1]; decide) (by rw [k1]; decide) (by rw [k1]; rfl) (by decide) ?_
    refine u_aload_n h dX5_changeNudges_64 rfl 2 rfl rfl ?_
    refine u_get h flX5_changeNudges_7 0 (v := .ref qz) rfl hfz dX5_changeNudges_65 rfl ?_
    refine u_bipush (v := 6) h dX5_changeNudges_68 (by decide) rfl ?_
    refine u_iload_n h dX5_changeNudges_70 rfl 3 rfl rfl ?_
    refine u_iadd (v := (nI (6 + v))) h dX5_changeNudges_71 (nI_add 6 v) rfl ?_
    refine u_iconst (v := (-1)) h dX5_changeNudges_72 (by decide) rfl ?_
    refine u_iast h (n := (6 + v)) (v := (-1)) 1 rfl (by omega) (by omega) rfl (ws' := [(h0, .inr (5, fs)), (qz, aI G 86 (upd z (6 + v) (-1)))]) rfl dX5_changeNudges_73 rfl ?_
    refine u_aload_n h dX5_changeNudges_74 rfl 2 rfl rfl ?_
    refine u_get h flX5_changeNudges_7 0 (v := .ref qz) rfl hfz dX5_changeNudges_75 rfl ?_
    refine u_bipush (v := 12) h dX5_changeNudges_78 (by decide) rfl ?_
    refine u_iload_n h dX5_changeNudges_80 rfl 3 rfl rfl ?_
    refine u_iadd (v := (nI (12 + v))) h dX5_changeNudges_81 (nI_add 12 v) rfl ?_
    refine u_iconst (v := 1) h dX5_changeNudges_82 (by decide) rfl ?_
    refine u_iast h (n := (12 + v)) (v := 1) 1 rfl (by omega) (by omega) rfl (ws' := [(h0, .inr (5, fs)), (qz, aI G 86 (upd (upd z (6 + v) (-1)) (12 + v) 1))]) rfl dX5_changeNudges_83 rfl ?_
    refine u_aload_n h dX5_changeNudges_84 rfl 2 rfl rfl ?_
    refine u_get h flX5_changeNudges_7 0 (v := .ref qz) rfl hfz dX5_changeNudges_85 rfl ?_
    refine u_iconst (v := 0) h dX5_changeNudges_88 (by decide) rfl ?_
    refine u_iload_n h dX5_changeNudges_89 rfl 3 rfl rfl ?_
    refine u_iadd (v := (nI v)) h dX5_changeNudges_90 (by have h9 := nI_add 0 v; rw [Nat.zero_add] at h9; exact h9) rfl ?_
    refine u_iconst (v := 1) h dX5_changeNudges_91 (by decide) rfl ?_
    refine u_iast h (n := v) (v := 1) 1 rfl (by omega) (by omega) rfl (ws' := [(h0, .inr (5, fs)), (qz, aI G 86 (upd (upd (upd z (6 + v) (-1)) (12 + v) 1) v 1))]) rfl dX5_changeNudges_92 rfl ?_
    refine u_goto (tgt := 310) h dX5_changeNudges_93 (by decide) ?_
    exact u_vret h hRT dX5_changeNudges_310 (by omega) (by omega) (by refine ⟨rfl, ?_⟩; first | (simp [chN, k1]; done) | (exfalso; simp_all; done) | (simp_all [chN, k1]; done))
  by_cases k2 : (z v) = 1
  · refine u_tableIn (off := 76) (tgt := 96) h dX5_changeNudges_20 (by rw [k2]; decide) (by rw [k2]; decide) (by rw [k2]; rfl) (by decide) ?_
    refine u_aload_n h dX5_changeNudges_96 rfl 2 rfl rfl ?_
    refine u_get h flX5_changeNudges_7 0 (v := .ref qz) rfl hfz dX5_changeNudges_97 rfl ?_
    refine u_bipush (v := 18) h dX5_changeNudges_100 (by decide) rfl ?_
    refine u_iload_n h dX5_changeNudges_102 rfl 3 rfl rfl ?_
    refine u_iadd (v := (nI (18 + v))) h dX5_changeNudges_103 (nI_add 18 v) rfl ?_
    refine u_aload_n h dX5_changeNudges_104 rfl 2 rfl rfl ?_
    refine u_get h flX5_changeNudges_7 0 (v := .ref qz) rfl hfz dX5_changeNudges_105 rfl ?_
    refine u_bipush (v := 49) h dX5_changeNudges_108 (by decide) rfl ?_
    refine u_iald h (n := 49) 1 rfl (by omega) (by omega) dX5_changeNudges_110 rfl ?_
    refine u_iast h (n := (18 + v)) (v := (z 49)) 1 rfl (by omega) (by omega) rfl (ws' := [(h0, .inr (5, fs)), (qz, aI G 86 (upd z (18 + v) (z 49)))]) rfl dX5_changeNudges_111 rfl ?_
    refine u_aload_n h dX5_changeNudges_112 rfl 2 rfl rfl ?_
    refine u_get h flX5_changeNudges_7 0 (v := .ref qz) rfl hfz dX5_changeNudges_113 rfl ?_
    refine u_iconst (v := 0) h dX5_changeNudges_116 (by decide) rfl ?_
    refine u_iload_n h dX5_changeNudges_117 rfl 3 rfl rfl ?_
    refine u_iadd (v := (nI v)) h dX5_changeNudges_118 (by have h9 := nI_add 0 v; rw [Nat.zero_add] at h9; exact h9) rfl ?_
    refine u_aload_n h dX5_changeNudges_119 rfl 2 rfl rfl ?_
    refine u_get h flX5_changeNudges_7 0 (v := .ref qz) rfl hfz dX5_changeNudges_120 rfl ?_
    refine u_bipush (v := 49) h dX5_changeNudges_123 (by decide) rfl ?_
    refine u_iald h (n := 49) 1 rfl (by omega) (by omega) dX5_changeNudges_125 rfl ?_
    refine u_top (y := (z 49)) (by rw [pk_un (by omega)]) ?_
    refine u_iconst (v := (-1)) h dX5_changeNudges_126 (by decide) rfl ?_
    refine u_icmp_ne (tgt := 134) h dX5_changeNudges_127 (by decide) rfl (fun c3 => ?_) (fun c3 => ?_)
    · refine u_iconst (v := 2) h dX5_changeNudges_134 (by decide) rfl ?_
      refine u_iast h (n := v) (v := 2) 1 rfl (by omega) (by omega) rfl (ws' := [(h0, .inr (5, fs)), (qz, aI G 86 (upd (upd z (18 + v) (z 49)) v 2))]) rfl dX5_changeNudges_135 rfl ?_
      refine u_aload_n h dX5_changeNudges_136 rfl 2 rfl rfl ?_
      refine u_get h flX5_changeNudges_7 0 (v := .ref qz) rfl hfz dX5_changeNudges_137 rfl ?_
      refine u_bipush (v := 49) h dX5_changeNudges_140 (by decide) rfl ?_
      refine u_iload_n h dX5_changeNudges_142 rfl 3 rfl rfl ?_
      refine u_iast h (n := 49) (v := (nI v)) 1 rfl (by omega) (by omega) rfl (ws' := [(h0, .inr (5, fs)), (qz, aI G 86 (upd (upd (upd z (18 + v) (z 49)) v 2) 49 (nI v)))]) rfl dX5_changeNudges_143 rfl ?_
      refine u_goto (tgt := 310) h dX5_changeNudges_144 (by decide) ?_
      exact u_vret h hRT dX5_changeNudges_310 (by omega) (by omega) (by refine ⟨rfl, ?_⟩; first | (simp [chN, k2, c3]; done) | (exfalso; simp_all; done) | (simp_all [chN, k2, c3]; done))
    · refine u_iconst (v := 4) h dX5_changeNudges_130 (by decide) rfl ?_
      refine u_goto (tgt := 135) h dX5_changeNudges_131 (by decide) ?_
      refine u_iast h (n := v) (v := 4) 1 rfl (by omega) (by omega) rfl (ws' := [(h0, .inr (5, fs)), (qz, aI G 86 (upd (upd z (18 + v) (z 49)) v 4))]) rfl dX5_changeNudges_135 rfl ?_
      refine u_aload_n h dX5_changeNudges_136 rfl 2 rfl rfl ?_
      refine u_get h flX5_changeNudges_7 0 (v := .ref qz) rfl hfz dX5_changeNudges_137 rfl ?_
      refine u_bipush (v := 49) h dX5_changeNudges_140 (by decide) rfl ?_
      refine u_iload_n h dX5_changeNudges_142 rfl 3 rfl rfl ?_
      refine u_iast h (n := 49) (v := (nI v)) 1 rfl (by omega) (by omega) rfl (ws' := [(h0, .inr (5, fs)), (qz, aI G 86 (upd (upd (upd z (18 + v) (z 49)) v 4) 49 (nI v)))]) rfl dX5_changeNudges_143 rfl ?_
      refine u_goto (tgt := 310) h dX5_changeNudges_144 (by decide) ?_
      exact u_vret h hRT dX5_changeNudges_310 (by omega) (by omega) (by refine ⟨rfl, ?_⟩; first | (simp [chN, k2, c3]; done) | (exfalso; simp_all; done) | (simp_all [chN, k2, c3]; done))
  by_cases k4 : (z v) = 2
  · refine u_tableIn (off := 127) (tgt := 147) h dX5_changeNudges_20 (by rw [k4]; decide) (by rw [k4]; decide) (by rw [k4]; rfl) (by decide) ?_
    refine u_aload_n h dX5_changeNudges_147 rfl 2 rfl rfl ?_
    refine u_get h flX5_changeNudges_7 0 (v := .ref qz) rfl hfz dX5_changeNudges_148 rfl ?_
    refine u_bipush (v := 6) h dX5_changeNudges_151 (by decide) rfl ?_
    refine u_aload_n h dX5_changeNudges_153 rfl 2 rfl rfl ?_
    refine u_get h flX5_changeNudges_7 0 (v := .ref qz) rfl hfz dX5_changeNudges_154 rfl ?_
    refine u_bipush (v := 18) h dX5_changeNudges_157 (by decide) rfl ?_
    refine u_iload_n h dX5_changeNudges_159 rfl 3 rfl rfl ?_
    refine u_iadd (v := (nI (18 + v))) h dX5_changeNudges_160 (nI_add 18 v) rfl ?_
    refine u_iald h (n := (18 + v)) 1 rfl (by omega) (by omega) dX5_changeNudges_161 rfl ?_
    obtain ⟨a5, ha5, ea5⟩ := hW.a hk hv k4
    refine u_top (y := nI a5) ea5 ?_
    refine u_iadd (v := (nI (6 + a5))) h dX5_changeNudges_162 (nI_add 6 a5) rfl ?_
    refine u_iload_n h dX5_changeNudges_163 rfl 3 rfl rfl ?_
    refine u_iast h (n := (6 + a5)) (v := (nI v)) 1 rfl (by omega) (by omega) rfl (ws' := [(h0, .inr (5, fs)), (qz, aI G 86 (upd z (6 + a5) (nI v)))]) rfl dX5_changeNudges_164 rfl ?_
    refine u_aload_n h dX5_changeNudges_165 rfl 2 rfl rfl ?_
    refine u_get h flX5_changeNudges_7 0 (v := .ref qz) rfl hfz dX5_changeNudges_166 rfl ?_
    refine u_iconst (v := 0) h dX5_changeNudges_169 (by decide) rfl ?_
    refine u_iload_n h dX5_changeNudges_170 rfl 3 rfl rfl ?_
    refine u_iadd (v := (nI v)) h dX5_changeNudges_171 (by have h9 := nI_add 0 v; rw [Nat.zero_add] at h9; exact h9) rfl ?_
    refine u_iconst (v := 3) h dX5_changeNudges_172 (by decide) rfl ?_
    refine u_iast h (n := v) (v := 3) 1 rfl (by omega) (by omega) rfl (ws' := [(h0, .inr (5, fs)), (qz, aI G 86 (upd (upd z (6 + a5) (nI v)) v 3))]) rfl dX5_changeNudges_173 rfl ?_
    refine u_goto (tgt := 310) h dX5_changeNudges_174 (by decide) ?_
    exact u_vret h hRT dX5_changeNudges_310 (by omega) (by omega) (by refine ⟨rfl, ?_⟩; first | (simp [chN, k4, ea5, ix_nI (show a5 < 2 ^ 31 by omega)]; done) | (exfalso; simp_all; done) | (simp_all [chN, k4, ea5, ix_nI (show a5 < 2 ^ 31 by omega)]; done))
  by_cases k6 : (z v) = 3
  · refine u_tableIn (off := 157) (tgt := 177) h dX5_changeNudges_20 (by rw [k6]; decide) (by rw [k6]; decide) (by rw [k6]; rfl) (by decide) ?_
    refine u_aload_n h dX5_changeNudges_177 rfl 2 rfl rfl ?_
    refine u_get h flX5_changeNudges_7 0 (v := .ref qz) rfl hfz dX5_changeNudges_178 rfl ?_
    refine u_bipush (v := 18) h dX5_changeNudges_181 (by decide) rfl ?_
    refine u_iload_n h dX5_changeNudges_183 rfl 3 rfl rfl ?_
    refine u_iadd (v := (nI (18 + v))) h dX5_changeNudges_184 (nI_add 18 v) rfl ?_
    refine u_iconst (v := (-1)) h dX5_changeNudges_185 (by decide) rfl ?_
    refine u_iast h (n := (18 + v)) (v := (-1)) 1 rfl (by omega) (by omega) rfl (ws' := [(h0, .inr (5, fs)), (qz, aI G 86 (upd z (18 + v) (-1)))]) rfl dX5_changeNudges_186 rfl ?_
    refine u_aload_n h dX5_changeNudges_187 rfl 2 rfl rfl ?_
    refine u_get h flX5_changeNudges_7 0 (v := .ref qz) rfl hfz dX5_changeNudges_188 rfl ?_
    refine u_iconst (v := 0) h dX5_changeNudges_191 (by decide) rfl ?_
    refine u_iload_n h dX5_changeNudges_192 rfl 3 rfl rfl ?_
    refine u_iadd (v := (nI v)) h dX5_changeNudges_193 (by have h9 := nI_add 0 v; rw [Nat.zero_add] at h9; exact h9) rfl ?_
    refine u_iconst (v := 4) h dX5_changeNudges_194 (by decide) rfl ?_
    refine u_iast h (n := v) (v := 4) 1 rfl (by omega) (by omega) rfl (ws' := [(h0, .inr (5, fs)), (qz, aI G 86 (upd (upd z (18 + v) (-1)) v 4))]) rfl dX5_changeNudges_195 rfl ?_
    refine u_goto (tgt := 310) h dX5_changeNudges_196 (by decide) ?_
    exact u_vret h hRT dX5_changeNudges_310 (by omega) (by omega) (by refine ⟨rfl, ?_⟩; first | (simp [chN, k6]; done) | (exfalso; simp_all; done) | (simp_all [chN, k6]; done))
  by_cases k7 : (z v) = 4
  · refine u_tableIn (off := 179) (tgt := 199) h dX5_changeNudges_20 (by rw [k7]; decide) (by rw [k7]; decide) (by rw [k7]; rfl) (by decide) ?_
    refine u_aload_n h dX5_changeNudges_199 rfl 2 rfl rfl ?_
    refine u_get h flX5_changeNudges_7 0 (v := .ref qz) rfl hfz dX5_changeNudges_200 rfl ?_
    refine u_iconst (v := 0) h dX5_changeNudges_203 (by decide) rfl ?_
    refine u_iload_n h dX5_changeNudges_204 rfl 3 rfl rfl ?_
    refine u_iadd (v := (nI v)) h dX5_changeNudges_205 (by have h9 := nI_add 0 v; rw [Nat.zero_add] at h9; exact h9) rfl ?_
    refine u_iload_n h dX5_changeNudges_206 rfl 0 rfl rfl ?_
    refine u_iconst (v := (-1)) h dX5_changeNudges_207 (by decide) rfl ?_
    refine u_icmp_ne (tgt := 215) h dX5_changeNudges_208 (by decide) rfl (fun c8 => ?_) (fun c8 => ?_)
    · refine u_bipush (v := 7) h dX5_changeNudges_215 (by decide) rfl ?_
      refine u_iast h (n := v) (v := 7) 1 rfl (by omega) (by omega) rfl (ws' := [(h0, .inr (5, fs)), (qz, aI G 86 (upd z v 7))]) rfl dX5_changeNudges_217 rfl ?_
      refine u_goto (tgt := 310) h dX5_changeNudges_218 (by decide) ?_
      exact u_vret h hRT dX5_changeNudges_310 (by omega) (by omega) (by refine ⟨rfl, ?_⟩; first | (simp [chN, k7, c8]; done) | (exfalso; simp_all; done) | (simp_all [chN, k7, c8]; done))
    · refine u_iconst (v := 5) h dX5_changeNudges_211 (by decide) rfl ?_
      refine u_goto (tgt := 217) h dX5_changeNudges_212 (by decide) ?_
      refine u_iast h (n := v) (v := 5) 1 rfl (by omega) (by omega) rfl (ws' := [(h0, .inr (5, fs)), (qz, aI G 86 (upd z v 5))]) rfl dX5_changeNudges_217 rfl ?_
      refine u_goto (tgt := 310) h dX5_changeNudges_218 (by decide) ?_
      exact u_vret h hRT dX5_changeNudges_310 (by omega) (by omega) (by refine ⟨rfl, ?_⟩; first | (simp [chN, k7, c8]; done) | (exfalso; simp_all; done) | (simp_all [chN, k7, c8]; done))
  by_cases k9 : (z v) = 5
  · refine u_tableIn (off := 201) (tgt := 221) h dX5_changeNudges_20 (by rw [k9]; decide) (by rw [k9]; decide) (by rw [k9]; rfl) (by decide) ?_
    refine u_aload_n h dX5_changeNudges_221 rfl 2 rfl rfl ?_
    refine u_get h flX5_changeNudges_7 0 (v := .ref qz) rfl hfz dX5_changeNudges_222 rfl ?_
    refine u_iconst (v := 0) h dX5_changeNudges_225 (by decide) rfl ?_
    refine u_iload_n h dX5_changeNudges_226 rfl 3 rfl rfl ?_
    refine u_iadd (v := (nI v)) h dX5_changeNudges_227 (by have h9 := nI_add 0 v; rw [Nat.zero_add] at h9; exact h9) rfl ?_
    refine u_aload_n h dX5_changeNudges_228 rfl 2 rfl rfl ?_
    refine u_get h flX5_changeNudges_7 0 (v := .ref qz) rfl hfz dX5_changeNudges_229 rfl ?_
    refine u_bipush (v := 49) h dX5_changeNudges_232 (by decide) rfl ?_
    refine u_iald h (n := 49) 1 rfl (by omega) (by omega) dX5_changeNudges_234 rfl ?_
    refine u_iload_n h dX5_changeNudges_235 rfl 3 rfl rfl ?_
    refine u_icmp_ne (tgt := 243) h dX5_changeNudges_236 (by decide) rfl (fun c10 => ?_) (fun c10 => ?_)
    · refine u_bipush (v := 6) h dX5_changeNudges_243 (by decide) rfl ?_
      refine u_iast h (n := v) (v := 6) 1 rfl (by omega) (by omega) rfl (ws' := [(h0, .inr (5, fs)), (qz, aI G 86 (upd z v 6))]) rfl dX5_changeNudges_245 rfl ?_
      refine u_aload_n h dX5_changeNudges_246 rfl 2 rfl rfl ?_
      refine u_get h flX5_changeNudges_7 0 (v := .ref qz) rfl hfz dX5_changeNudges_247 rfl ?_
      refine u_bipush (v := 49) h dX5_changeNudges_250 (by decide) rfl ?_
      refine u_aload_n h dX5_changeNudges_252 rfl 2 rfl rfl ?_
      refine u_get h flX5_changeNudges_7 0 (v := .ref qz) rfl hfz dX5_changeNudges_253 rfl ?_
      refine u_bipush (v := 49) h dX5_changeNudges_256 (by decide) rfl ?_
      refine u_iald h (n := 49) 1 rfl (by omega) (by omega) dX5_changeNudges_258 rfl ?_
      refine u_top (y := (z 49)) (by rw [pk_un (by omega)]) ?_
      refine u_iload_n h dX5_changeNudges_259 rfl 3 rfl rfl ?_
      refine u_icmp_ne (tgt := 267) h dX5_changeNudges_260 (by decide) rfl (fun c11 => ?_) (fun c11 => ?_)
      · refine u_aload_n h dX5_changeNudges_267 rfl 2 rfl rfl ?_
        refine u_get h flX5_changeNudges_7 0 (v := .ref qz) rfl hfz dX5_changeNudges_268 rfl ?_
        refine u_bipush (v := 49) h dX5_changeNudges_271 (by decide) rfl ?_
        refine u_iald h (n := 49) 1 rfl (by omega) (by omega) dX5_changeNudges_273 rfl ?_
        refine u_top (y := (z 49)) (by rw [pk_un (by omega)]) ?_
        refine u_iast h (n := 49) (v := (z 49)) 1 rfl (by omega) (by omega) rfl (ws' := [(h0, .inr (5, fs)), (qz, aI G 86 (upd (upd z v 6) 49 (z 49)))]) rfl dX5_changeNudges_274 rfl ?_
        refine u_goto (tgt := 310) h dX5_changeNudges_275 (by decide) ?_
        exact u_vret h hRT dX5_changeNudges_310 (by omega) (by omega) (by refine ⟨rfl, ?_⟩; first | (simp [chN, k9, c10, c11]; done) | (exfalso; simp_all; done) | (simp_all [chN, k9, c10, c11]; done))
      · refine u_iconst (v := (-1)) h dX5_changeNudges_263 (by decide) rfl ?_
        refine u_goto (tgt := 274) h dX5_changeNudges_264 (by decide) ?_
        refine u_iast h (n := 49) (v := (-1)) 1 rfl (by omega) (by omega) rfl (ws' := [(h0, .inr (5, fs)), (qz, aI G 86 (upd (upd z v 6) 49 (-1)))]) rfl dX5_changeNudges_274 rfl ?_
        refine u_goto (tgt := 310) h dX5_changeNudges_275 (by decide) ?_
        exact u_vret h hRT dX5_changeNudges_310 (by omega) (by omega) (by refine ⟨rfl, ?_⟩; first | (simp [chN, k9, c10, c11]; done) | (exfalso; simp_all; done) | (simp_all [chN, k9, c10, c11]; done))
    · refine u_iconst (v := 0) h dX5_changeNudges_239 (by decide) rfl ?_
      refine u_goto (tgt := 245) h dX5_changeNudges_240 (by decide) ?_
      refine u_iast h (n := v) (v := 0) 1 rfl (by omega) (by omega) rfl (ws' := [(h0, .inr (5, fs)), (qz, aI G 86 (upd z v 0))]) rfl dX5_changeNudges_245 rfl ?_
      refine u_aload_n h dX5_changeNudges_246 rfl 2 rfl rfl ?_
      refine u_get h flX5_changeNudges_7 0 (v := .ref qz) rfl hfz dX5_changeNudges_247 rfl ?_
      refine u_bipush (v := 49) h dX5_changeNudges_250 (by decide) rfl ?_
      refine u_aload_n h dX5_changeNudges_252 rfl 2 rfl rfl ?_
      refine u_get h flX5_changeNudges_7 0 (v := .ref qz) rfl hfz dX5_changeNudges_253 rfl ?_
      refine u_bipush (v := 49) h dX5_changeNudges_256 (by decide) rfl ?_
      refine u_iald h (n := 49) 1 rfl (by omega) (by omega) dX5_changeNudges_258 rfl ?_
      refine u_top (y := (z 49)) (by rw [pk_un (by omega)]) ?_
      refine u_iload_n h dX5_changeNudges_259 rfl 3 rfl rfl ?_
      refine u_icmp_ne (tgt := 267) h dX5_changeNudges_260 (by decide) rfl (fun c12 => ?_) (fun c12 => ?_)
      · refine u_aload_n h dX5_changeNudges_267 rfl 2 rfl rfl ?_
        refine u_get h flX5_changeNudges_7 0 (v := .ref qz) rfl hfz dX5_changeNudges_268 rfl ?_
        refine u_bipush (v := 49) h dX5_changeNudges_271 (by decide) rfl ?_
        refine u_iald h (n := 49) 1 rfl (by omega) (by omega) dX5_changeNudges_273 rfl ?_
        refine u_top (y := (z 49)) (by rw [pk_un (by omega)]) ?_
        refine u_iast h (n := 49) (v := (z 49)) 1 rfl (by omega) (by omega) rfl (ws' := [(h0, .inr (5, fs)), (qz, aI G 86 (upd (upd z v 0) 49 (z 49)))]) rfl dX5_changeNudges_274 rfl ?_
        refine u_goto (tgt := 310) h dX5_changeNudges_275 (by decide) ?_
        exact u_vret h hRT dX5_changeNudges_310 (by omega) (by omega) (by refine ⟨rfl, ?_⟩; first | (simp [chN, k9, c10, c12]; done) | (exfalso; simp_all; done) | (simp_all [chN, k9, c10, c12]; done))
      · refine u_iconst (v := (-1)) h dX5_changeNudges_263 (by decide) rfl ?_
        refine u_goto (tgt := 274) h dX5_changeNudges_264 (by decide) ?_
        refine u_iast h (n := 49) (v := (-1)) 1 rfl (by omega) (by omega) rfl (ws' := [(h0, .inr (5, fs)), (qz, aI G 86 (upd (upd z v 0) 49 (-1)))]) rfl dX5_changeNudges_274 rfl ?_
        refine u_goto (tgt := 310) h dX5_changeNudges_275 (by decide) ?_
        exact u_vret h hRT dX5_changeNudges_310 (by omega) (by omega) (by refine ⟨rfl, ?_⟩; first | (simp [chN, k9, c10, c12]; done) | (exfalso; simp_all; done) | (simp_all [chN, k9, c10, c12]; done))
  by_cases k13 : (z v) = 6
  · refine u_tableIn (off := 258) (tgt := 278) h dX5_changeNudges_20 (by rw [k13]; decide) (by rw [k13]; decide) (by rw [k13]; rfl) (by decide) ?_
    refine u_aload_n h dX5_changeNudges_278 rfl 2 rfl rfl ?_
    refine u_get h flX5_changeNudges_7 0 (v := .ref qz) rfl hfz dX5_changeNudges_279 rfl ?_
    refine u_iconst (v := 0) h dX5_changeNudges_282 (by decide) rfl ?_
    refine u_iload_n h dX5_changeNudges_283 rfl 3 rfl rfl ?_
    refine u_iadd (v := (nI v)) h dX5_changeNudges_284 (by have h9 := nI_add 0 v; rw [Nat.zero_add] at h9; exact h9) rfl ?_
    refine u_bipush (v := 7) h dX5_changeNudges_285 (by decide) rfl ?_
    refine u_iast h (n := v) (v := 7) 1 rfl (by omega) (by omega) rfl (ws' := [(h0, .inr (5, fs)), (qz, aI G 86 (upd z v 7))]) rfl dX5_changeNudges_287 rfl ?_
    refine u_goto (tgt := 310) h dX5_changeNudges_288 (by decide) ?_
    exact u_vret h hRT dX5_changeNudges_310 (by omega) (by omega) (by refine ⟨rfl, ?_⟩; first | (simp [chN, k13]; done) | (exfalso; simp_all; done) | (simp_all [chN, k13]; done))
  refine u_tableOut (tgt := 291) h dX5_changeNudges_20 (ti_out (n := 7) (by decide) (fun k9 hk9 => by rcases (show k9 = 0 ∨ k9 = 1 ∨ k9 = 2 ∨ k9 = 3 ∨ k9 = 4 ∨ k9 = 5 ∨ k9 = 6 by omega) with rfl | rfl | rfl | rfl | rfl | rfl | rfl <;> assumption)) (by decide) ?_
  refine u_aload_n h dX5_changeNudges_291 rfl 2 rfl rfl ?_
  refine u_get h flX5_changeNudges_7 0 (v := .ref qz) rfl hfz dX5_changeNudges_292 rfl ?_
  refine u_bipush (v := 12) h dX5_changeNudges_295 (by decide) rfl ?_
  refine u_iload_n h dX5_changeNudges_297 rfl 0 rfl rfl ?_
  obtain ⟨a14, ha14, ea14⟩ := hW.n hk hv k1 k2 k4 k6 k7 k9 k13
  refine u_top (y := nI a14) ea14 ?_
  refine u_iadd (v := (nI (12 + a14))) h dX5_changeNudges_298 (nI_add 12 a14) rfl ?_
  refine u_iconst (v := 0) h dX5_changeNudges_299 (by decide) rfl ?_
  refine u_iast h (n := (12 + a14)) (v := 0) 1 rfl (by omega) (by omega) rfl (ws' := [(h0, .inr (5, fs)), (qz, aI G 86 (upd z (12 + a14) 0))]) rfl dX5_changeNudges_300 rfl ?_
  refine u_aload_n h dX5_changeNudges_301 rfl 2 rfl rfl ?_
  refine u_get h flX5_changeNudges_7 0 (v := .ref qz) rfl hfz dX5_changeNudges_302 rfl ?_
  refine u_iconst (v := 0) h dX5_changeNudges_305 (by decide) rfl ?_
  refine u_iload_n h dX5_changeNudges_306 rfl 3 rfl rfl ?_
  refine u_iadd (v := (nI v)) h dX5_changeNudges_307 (by have h9 := nI_add 0 v; rw [Nat.zero_add] at h9; exact h9) rfl ?_
  refine u_iconst (v := 0) h dX5_changeNudges_308 (by decide) rfl ?_
  refine u_iast h (n := v) (v := 0) 1 rfl (by omega) (by omega) rfl (ws' := [(h0, .inr (5, fs)), (qz, aI G 86 (upd (upd z (12 + a14) 0) v 0))]) rfl dX5_changeNudges_309 rfl ?_
  exact u_vret h hRT dX5_changeNudges_310 (by omega) (by omega) (by refine ⟨rfl, ?_⟩; first | (simp [chN, ea14, k1, k2, k4, k6, k7, k9, k13, ix_nI (show a14 < 2 ^ 31 by omega)]; done) | (exfalso; simp_all; done) | (simp_all [chN, ea14, k1, k2, k4, k6, k7, k9, k13, ix_nI (show a14 < 2 ^ 31 by omega)]; done))

theorem flX5_changeWatching_7 : FL wsX5_changeWatching RX5 7 5 0 := ⟨RX5, TX5, 18, rfl, by decide, by decide +kernel, by decide +kernel⟩
set_option maxHeartbeats 8000000 in
set_option maxRecDepth 100000 in
theorem kX5_changeWatching (G : Gx) (h0 qz : Nat) (fs : List Value) (hfz : fs[0]? = some (.ref qz)) (z : Zf) (v : Nat) (hv : v < 6) (hW : Wf z) (hk : z 60 = 1) : MC G yX5_changeWatching wsX5_changeWatching ({ frames := 0, cells := 0, slots := 0, locals := 0 } : Room) [.ref h0, .int (nI v)] [(h0, .inr (5, fs)), (qz, aI G 86 z)] (fun v' u' => v' = none ∧ u' = [(h0, .inr (5, fs)), (qz, aI G 86 (chW z v))]) 0 0 := by
  refine mc_of (cc := cX5_changeWatching) (maxL := 2) (ret := none) (by decide) rfl (Nat.le_of_ble_eq_true rfl) (fun X h hR hL hRT => ?_)
  refine u_eql (lv' := [(0, .ref h0), (1, .int (nI v))]) rfl ?_
  refine u_aload_n h dX5_changeWatching_0 rfl 0 rfl rfl ?_
  refine u_get h flX5_changeWatching_7 0 (v := .ref qz) rfl hfz dX5_changeWatching_1 rfl ?_
  refine u_iconst (v := 0) h dX5_changeWatching_4 (by decide) rfl ?_
  refine u_iload_n h dX5_changeWatching_5 rfl 1 rfl rfl ?_
  refine u_iadd (v := (nI v)) h dX5_changeWatching_6 (by have h9 := nI_add 0 v; rw [Nat.zero_add] at h9; exact h9) rfl ?_
  refine u_iald h (n := v) 1 rfl (by omega) (by omega) dX5_changeWatching_7 rfl ?_
  by_cases k1 : (z v) = 0
  · refine u_tableIn (off := 32) (tgt := 40) h dX5_changeWatching_8 (by rw [k1]; decide) (by rw [k1]; decide) (by rw [k1]; rfl) (by decide) ?_
    refine u_aload_n h dX5_changeWatching_40 rfl 0 rfl rfl ?_
    refine u_get h flX5_changeWatching_7 0 (v := .ref qz) rfl hfz dX5_changeWatching_41 rfl ?_
    refine u_bipush (v := 42) h dX5_changeWatching_44 (by decide) rfl ?_
    refine u_aload_n h dX5_changeWatching_46 rfl 0 rfl rfl ?_
    refine u_get h flX5_changeWatching_7 0 (v := .ref qz) rfl hfz dX5_changeWatching_47 rfl ?_
    refine u_bipush (v := 24) h dX5_changeWatching_50 (by decide) rfl ?_
    refine u_iload_n h dX5_changeWatching_52 rfl 1 rfl rfl ?_
    refine u_iadd (v := (nI (24 + v))) h dX5_changeWatching_53 (nI_add 24 v) rfl ?_
    refine u_iald h (n := (24 + v)) 1 rfl (by omega) (by omega) dX5_changeWatching_54 rfl ?_
    obtain ⟨a2, ha2, ea2⟩ := hW.o hk hv
    refine u_top (y := nI a2) ea2 ?_
    refine u_iadd (v := (nI (42 + a2))) h dX5_changeWatching_55 (nI_add 42 a2) rfl ?_
    refine u_iconst (v := 1) h dX5_changeWatching_56 (by decide) rfl ?_
    refine u_iast h (n := (42 + a2)) (v := 1) 1 rfl (by omega) (by omega) rfl (ws' := [(h0, .inr (5, fs)), (qz, aI G 86 (upd z (42 + a2) 1))]) rfl dX5_changeWatching_57 rfl ?_
    refine u_aload_n h dX5_changeWatching_58 rfl 0 rfl rfl ?_
    refine u_get h flX5_changeWatching_7 0 (v := .ref qz) rfl hfz dX5_changeWatching_59 rfl ?_
    refine u_iconst (v := 0) h dX5_changeWatching_62 (by decide) rfl ?_
    refine u_iload_n h dX5_changeWatching_63 rfl 1 rfl rfl ?_
    refine u_iadd (v := (nI v)) h dX5_changeWatching_64 (by have h9 := nI_add 0 v; rw [Nat.zero_add] at h9; exact h9) rfl ?_
    refine u_iconst (v := 1) h dX5_changeWatching_65 (by decide) rfl ?_
    refine u_iast h (n := v) (v := 1) 1 rfl (by omega) (by omega) rfl (ws' := [(h0, .inr (5, fs)), (qz, aI G 86 (upd (upd z (42 + a2) 1) v 1))]) rfl dX5_changeWatching_66 rfl ?_
    refine u_goto (tgt := 181) h dX5_changeWatching_67 (by decide) ?_
    exact u_vret h hRT dX5_changeWatching_181 (by omega) (by omega) (by refine ⟨rfl, ?_⟩; first | (simp [chW, k1, ea2, ix_nI (show a2 < 2 ^ 31 by omega)]; done) | (exfalso; simp_all; done) | (simp_all [chW, k1, ea2, ix_nI (show a2 < 2 ^ 31 by omega)]; done))
  by_cases k3 : (z v) = 1
  · refine u_tableIn (off := 62) (tgt := 70) h dX5_changeWatching_8 (by rw [k3]; decide) (by rw [k3]; decide) (by rw [k3]; rfl) (by decide) ?_
    refine u_aload_n h dX5_changeWatching_70 rfl 0 rfl rfl ?_
    refine u_get h flX5_changeWatching_7 0 (v := .ref qz) rfl hfz dX5_changeWatching_71 rfl ?_
    refine u_bipush (v := 30) h dX5_changeWatching_74 (by decide) rfl ?_
    refine u_iload_n h dX5_changeWatching_76 rfl 1 rfl rfl ?_
    refine u_iadd (v := (nI (30 + v))) h dX5_changeWatching_77 (nI_add 30 v) rfl ?_
    refine u_aload_n h dX5_changeWatching_78 rfl 0 rfl rfl ?_
    refine u_get h flX5_changeWatching_7 0 (v := .ref qz) rfl hfz dX5_changeWatching_79 rfl ?_
    refine u_bipush (v := 49) h dX5_changeWatching_82 (by decide) rfl ?_
    refine u_iald h (n := 49) 1 rfl (by omega) (by omega) dX5_changeWatching_84 rfl ?_
    refine u_iast h (n := (30 + v)) (v := (z 49)) 1 rfl (by omega) (by omega) rfl (ws' := [(h0, .inr (5, fs)), (qz, aI G 86 (upd z (30 + v) (z 49)))]) rfl dX5_changeWatching_85 rfl ?_
    refine u_aload_n h dX5_changeWatching_86 rfl 0 rfl rfl ?_
    refine u_get h flX5_changeWatching_7 0 (v := .ref qz) rfl hfz dX5_changeWatching_87 rfl ?_
    refine u_bipush (v := 49) h dX5_changeWatching_90 (by decide) rfl ?_
    refine u_aload_n h dX5_changeWatching_92 rfl 0 rfl rfl ?_
    refine u_get h flX5_changeWatching_7 0 (v := .ref qz) rfl hfz dX5_changeWatching_93 rfl ?_
    refine u_bipush (v := 24) h dX5_changeWatching_96 (by decide) rfl ?_
    refine u_iload_n h dX5_changeWatching_98 rfl 1 rfl rfl ?_
    refine u_iadd (v := (nI (24 + v))) h dX5_changeWatching_99 (nI_add 24 v) rfl ?_
    refine u_iald h (n := (24 + v)) 1 rfl (by omega) (by omega) dX5_changeWatching_100 rfl ?_
    refine u_top (y := (z (24 + v))) (by rw [pk_un (by omega)]) ?_
    refine u_iast h (n := 49) (v := (z (24 + v))) 1 rfl (by omega) (by omega) rfl (ws' := [(h0, .inr (5, fs)), (qz, aI G 86 (upd (upd z (30 + v) (z 49)) 49 (z (24 + v))))]) rfl dX5_changeWatching_101 rfl ?_
    refine u_aload_n h dX5_changeWatching_102 rfl 0 rfl rfl ?_
    refine u_get h flX5_changeWatching_7 0 (v := .ref qz) rfl hfz dX5_changeWatching_103 rfl ?_
    refine u_iconst (v := 0) h dX5_changeWatching_106 (by decide) rfl ?_
    refine u_iload_n h dX5_changeWatching_107 rfl 1 rfl rfl ?_
    refine u_iadd (v := (nI v)) h dX5_changeWatching_108 (by have h9 := nI_add 0 v; rw [Nat.zero_add] at h9; exact h9) rfl ?_
    refine u_iconst (v := 3) h dX5_changeWatching_109 (by decide) rfl ?_
    refine u_iast h (n := v) (v := 3) 1 rfl (by omega) (by omega) rfl (ws' := [(h0, .inr (5, fs)), (qz, aI G 86 (upd (upd (upd z (30 + v) (z 49)) 49 (z (24 + v))) v 3))]) rfl dX5_changeWatching_110 rfl ?_
    refine u_goto (tgt := 181) h dX5_changeWatching_111 (by decide) ?_
    exact u_vret h hRT dX5_changeWatching_181 (by omega) (by omega) (by refine ⟨rfl, ?_⟩; first | (simp [chW, k3]; done) | (exfalso; simp_all; done) | (simp_all [chW, k3]; done))
  by_cases k4 : (z v) = 2
  · refine u_tableIn (off := 118) (tgt := 126) h dX5_changeWatching_8 (by rw [k4]; decide) (by rw [k4]; decide) (by rw [k4]; rfl) (by decide) ?_
    refine u_aload_n h dX5_changeWatching_126 rfl 0 rfl rfl ?_
    refine u_get h flX5_changeWatching_7 0 (v := .ref qz) rfl hfz dX5_changeWatching_127 rfl ?_
    refine u_bipush (v := 42) h dX5_changeWatching_130 (by decide) rfl ?_
    refine u_aload_n h dX5_changeWatching_132 rfl 0 rfl rfl ?_
    refine u_get h flX5_changeWatching_7 0 (v := .ref qz) rfl hfz dX5_changeWatching_133 rfl ?_
    refine u_bipush (v := 24) h dX5_changeWatching_136 (by decide) rfl ?_
    refine u_iload_n h dX5_changeWatching_138 rfl 1 rfl rfl ?_
    refine u_iadd (v := (nI (24 + v))) h dX5_changeWatching_139 (nI_add 24 v) rfl ?_
    refine u_iald h (n := (24 + v)) 1 rfl (by omega) (by omega) dX5_changeWatching_140 rfl ?_
    obtain ⟨a5, ha5, ea5⟩ := hW.o hk hv
    refine u_top (y := nI a5) ea5 ?_
    refine u_iadd (v := (nI (42 + a5))) h dX5_changeWatching_141 (nI_add 42 a5) rfl ?_
    refine u_iconst (v := 0) h dX5_changeWatching_142 (by decide) rfl ?_
    refine u_iast h (n := (42 + a5)) (v := 0) 1 rfl (by omega) (by omega) rfl (ws' := [(h0, .inr (5, fs)), (qz, aI G 86 (upd z (42 + a5) 0))]) rfl dX5_changeWatching_143 rfl ?_
    refine u_aload_n h dX5_changeWatching_144 rfl 0 rfl rfl ?_
    refine u_get h flX5_changeWatching_7 0 (v := .ref qz) rfl hfz dX5_changeWatching_145 rfl ?_
    refine u_bipush (v := 24) h dX5_changeWatching_148 (by decide) rfl ?_
    refine u_iload_n h dX5_changeWatching_150 rfl 1 rfl rfl ?_
    refine u_iadd (v := (nI (24 + v))) h dX5_changeWatching_151 (nI_add 24 v) rfl ?_
    refine u_aload_n h dX5_changeWatching_152 rfl 0 rfl rfl ?_
    refine u_get h flX5_changeWatching_7 0 (v := .ref qz) rfl hfz dX5_changeWatching_153 rfl ?_
    refine u_bipush (v := 30) h dX5_changeWatching_156 (by decide) rfl ?_
    refine u_iload_n h dX5_changeWatching_158 rfl 1 rfl rfl ?_
    refine u_iadd (v := (nI (30 + v))) h dX5_changeWatching_159 (nI_add 30 v) rfl ?_
    refine u_iald h (n := (30 + v)) 1 rfl (by omega) (by omega) dX5_changeWatching_160 rfl ?_
    refine u_top (y := (z (30 + v))) (by rw [pk_un (by omega)]) ?_
    refine u_iast h (n := (24 + v)) (v := (z (30 + v))) 1 rfl (by omega) (by omega) rfl (ws' := [(h0, .inr (5, fs)), (qz, aI G 86 (upd (upd z (42 + a5) 0) (24 + v) (z (30 + v))))]) rfl dX5_changeWatching_161 rfl ?_
    refine u_aload_n h dX5_changeWatching_162 rfl 0 rfl rfl ?_
    refine u_get h flX5_changeWatching_7 0 (v := .ref qz) rfl hfz dX5_changeWatching_163 rfl ?_
    refine u_bipush (v := 30) h dX5_changeWatching_166 (by decide) rfl ?_
    refine u_iload_n h dX5_changeWatching_168 rfl 1 rfl rfl ?_
    refine u_iadd (v := (nI (30 + v))) h dX5_changeWatching_169 (nI_add 30 v) rfl ?_
    refine u_iconst (v := (-1)) h dX5_changeWatching_170 (by decide) rfl ?_
    refine u_iast h (n := (30 + v)) (v := (-1)) 1 rfl (by omega) (by omega) rfl (ws' := [(h0, .inr (5, fs)), (qz, aI G 86 (upd (upd (upd z (42 + a5) 0) (24 + v) (z (30 + v))) (30 + v) (-1)))]) rfl dX5_changeWatching_171 rfl ?_
    refine u_aload_n h dX5_changeWatching_172 rfl 0 rfl rfl ?_
    refine u_get h flX5_changeWatching_7 0 (v := .ref qz) rfl hfz dX5_changeWatching_173 rfl ?_
    refine u_iconst (v := 0) h dX5_changeWatching_176 (by decide) rfl ?_
    refine u_iload_n h dX5_changeWatching_177 rfl 1 rfl rfl ?_
    refine u_iadd (v := (nI v)) h dX5_changeWatching_178 (by have h9 := nI_add 0 v; rw [Nat.zero_add] at h9; exact h9) rfl ?_
    refine u_iconst (v := 0) h dX5_changeWatching_179 (by decide) rfl ?_
    refine u_iast h (n := v) (v := 0) 1 rfl (by omega) (by omega) rfl (ws' := [(h0, .inr (5, fs)), (qz, aI G 86 (upd (upd (upd (upd z (42 + a5) 0) (24 + v) (z (30 + v))) (30 + v) (-1)) v 0))]) rfl dX5_changeWatching_180 rfl ?_
    exact u_vret h hRT dX5_changeWatching_181 (by omega) (by omega) (by refine ⟨rfl, ?_⟩; first | (simp [chW, k4, ea5, ix_nI (show a5 < 2 ^ 31 by omega)]; done) | (exfalso; simp_all; done) | (simp_all [chW, k4, ea5, ix_nI (show a5 < 2 ^ 31 by omega)]; done))
  by_cases k6 : (z v) = 3
  · refine u_tableIn (off := 106) (tgt := 114) h dX5_changeWatching_8 (by rw [k6]; decide) (by rw [k6]; decide) (by rw [k6]; rfl) (by decide) ?_
    refine u_aload_n h dX5_changeWatching_114 rfl 0 rfl rfl ?_
    refine u_get h flX5_changeWatching_7 0 (v := .ref qz) rfl hfz dX5_changeWatching_115 rfl ?_
    refine u_iconst (v := 0) h dX5_changeWatching_118 (by decide) rfl ?_
    refine u_iload_n h dX5_changeWatching_119 rfl 1 rfl rfl ?_
    refine u_iadd (v := (nI v)) h dX5_changeWatching_120 (by have h9 := nI_add 0 v; rw [Nat.zero_add] at h9; exact h9) rfl ?_
    refine u_iconst (v := 4) h dX5_changeWatching_121 (by decide) rfl ?_
    refine u_iast h (n := v) (v := 4) 1 rfl (by omega) (by omega) rfl (ws' := [(h0, .inr (5, fs)), (qz, aI G 86 (upd z v 4))]) rfl dX5_changeWatching_122 rfl ?_
    refine u_goto (tgt := 181) h dX5_changeWatching_123 (by decide) ?_
    exact u_vret h hRT dX5_changeWatching_181 (by omega) (by omega) (by refine ⟨rfl, ?_⟩; first | (simp [chW, k6]; done) | (exfalso; simp_all; done) | (simp_all [chW, k6]; done))
  refine u_tableOut (tgt := 126) h dX5_changeWatching_8 (ti_out (n := 4) (by decide) (fun k9 hk9 => by rcases (show k9 = 0 ∨ k9 = 1 ∨ k9 = 2 ∨ k9 = 3 by omega) with rfl | rfl | rfl | rfl <;> assumption)) (by decide) ?_
  refine u_aload_n h dX5_changeWatching_126 rfl 0 rfl rfl ?_
  refine u_get h flX5_changeWatching_7 0 (v := .ref qz) rfl hfz dX5_changeWatching_127 rfl ?_
  refine u_bipush (v := 42) h dX5_changeWatching_130 (by decide) rfl ?_
  refine u_aload_n h dX5_changeWatching_132 rfl 0 rfl rfl ?_
  refine u_get h flX5_changeWatching_7 0 (v := .ref qz) rfl hfz dX5_changeWatching_133 rfl ?_
  refine u_bipush (v := 24) h dX5_changeWatching_136 (by decide) rfl ?_
  refine u_iload_n h dX5_changeWatching_138 rfl 1 rfl rfl ?_
  refine u_iadd (v := (nI (24 + v))) h dX5_changeWatching_139 (nI_add 24 v) rfl ?_
  refine u_iald h (n := (24 + v)) 1 rfl (by omega) (by omega) dX5_changeWatching_140 rfl ?_
  obtain ⟨a7, ha7, ea7⟩ := hW.o hk hv
  refine u_top (y := nI a7) ea7 ?_
  refine u_iadd (v := (nI (42 + a7))) h dX5_changeWatching_141 (nI_add 42 a7) rfl ?_
  refine u_iconst (v := 0) h dX5_changeWatching_142 (by decide) rfl ?_
  refine u_iast h (n := (42 + a7)) (v := 0) 1 rfl (by omega) (by omega) rfl (ws' := [(h0, .inr (5, fs)), (qz, aI G 86 (upd z (42 + a7) 0))]) rfl dX5_changeWatching_143 rfl ?_
  refine u_aload_n h dX5_changeWatching_144 rfl 0 rfl rfl ?_
  refine u_get h flX5_changeWatching_7 0 (v := .ref qz) rfl hfz dX5_changeWatching_145 rfl ?_
  refine u_bipush (v := 24) h dX5_changeWatching_148 (by decide) rfl ?_
  refine u_iload_n h dX5_changeWatching_150 rfl 1 rfl rfl ?_
  refine u_iadd (v := (nI (24 + v))) h dX5_changeWatching_151 (nI_add 24 v) rfl ?_
  refine u_aload_n h dX5_changeWatching_152 rfl 0 rfl rfl ?_
  refine u_get h flX5_changeWatching_7 0 (v := .ref qz) rfl hfz dX5_changeWatching_153 rfl ?_
  refine u_bipush (v := 30) h dX5_changeWatching_156 (by decide) rfl ?_
  refine u_iload_n h dX5_changeWatching_158 rfl 1 rfl rfl ?_
  refine u_iadd (v := (nI (30 + v))) h dX5_changeWatching_159 (nI_add 30 v) rfl ?_
  refine u_iald h (n := (30 + v)) 1 rfl (by omega) (by omega) dX5_changeWatching_160 rfl ?_
  refine u_top (y := (z (30 + v))) (by rw [pk_un (by omega)]) ?_
  refine u_iast h (n := (24 + v)) (v := (z (30 + v))) 1 rfl (by omega) (by omega) rfl (ws' := [(h0, .inr (5, fs)), (qz, aI G 86 (upd (upd z (42 + a7) 0) (24 + v) (z (30 + v))))]) rfl dX5_changeWatching_161 rfl ?_
  refine u_aload_n h dX5_changeWatching_162 rfl 0 rfl rfl ?_
  refine u_get h flX5_changeWatching_7 0 (v := .ref qz) rfl hfz dX5_changeWatching_163 rfl ?_
  refine u_bipush (v := 30) h dX5_changeWatching_166 (by decide) rfl ?_
  refine u_iload_n h dX5_changeWatching_168 rfl 1 rfl rfl ?_
  refine u_iadd (v := (nI (30 + v))) h dX5_changeWatching_169 (nI_add 30 v) rfl ?_
  refine u_iconst (v := (-1)) h dX5_changeWatching_170 (by decide) rfl ?_
  refine u_iast h (n := (30 + v)) (v := (-1)) 1 rfl (by omega) (by omega) rfl (ws' := [(h0, .inr (5, fs)), (qz, aI G 86 (upd (upd (upd z (42 + a7) 0) (24 + v) (z (30 + v))) (30 + v) (-1)))]) rfl dX5_changeWatching_171 rfl ?_
  refine u_aload_n h dX5_changeWatching_172 rfl 0 rfl rfl ?_
  refine u_get h flX5_changeWatching_7 0 (v := .ref qz) rfl hfz dX5_changeWatching_173 rfl ?_
  refine u_iconst (v := 0) h dX5_changeWatching_176 (by decide) rfl ?_
  refine u_iload_n h dX5_changeWatching_177 rfl 1 rfl rfl ?_
  refine u_iadd (v := (nI v)) h dX5_changeWatching_178 (by have h9 := nI_add 0 v; rw [Nat.zero_add] at h9; exact h9) rfl ?_
  refine u_iconst (v := 0) h dX5_changeWatching_179 (by decide) rfl ?_
  refine u_iast h (n := v) (v := 0) 1 rfl (by omega) (by omega) rfl (ws' := [(h0, .inr (5, fs)), (qz, aI G 86 (upd (upd (upd (upd z (42 + a7) 0) (24 + v) (z (30 + v))) (30 + v) (-1)) v 0))]) rfl dX5_changeWatching_180 rfl ?_
  exact u_vret h hRT dX5_changeWatching_181 (by omega) (by omega) (by refine ⟨rfl, ?_⟩; first | (simp [chW, ea7, k1, k3, k4, k6, ix_nI (show a7 < 2 ^ 31 by omega)]; done) | (exfalso; simp_all; done) | (simp_all [chW, ea7, k1, k3, k4, k6, ix_nI (show a7 < 2 ^ 31 by omega)]; done))

theorem flX5_changeTickets_7 : FL wsX5_changeTickets RX5 7 5 0 := ⟨RX5, TX5, 18, rfl, by decide, by decide +kernel, by decide +kernel⟩
set_option maxHeartbeats 8000000 in
set_option maxRecDepth 100000 in
theorem kX5_changeTickets (G : Gx) (h0 qz : Nat) (fs : List Value) (hfz : fs[0]? = some (.ref qz)) (z : Zf) (v : Nat) (hv : v < 6) : MC G yX5_changeTickets wsX5_changeTickets ({ frames := 0, cells := 0, slots := 0, locals := 0 } : Room) [.ref h0, .int (nI v)] [(h0, .inr (5, fs)), (qz, aI G 86 z)] (fun v' u' => v' = none ∧ u' = [(h0, .inr (5, fs)), (qz, aI G 86 (chT z v))]) 0 0 := by
  refine mc_of (cc := cX5_changeTickets) (maxL := 2) (ret := none) (by decide) rfl (Nat.le_of_ble_eq_true rfl) (fun X h hR hL hRT => ?_)
  refine u_eql (lv' := [(0, .ref h0), (1, .int (nI v))]) rfl ?_
  refine u_aload_n h dX5_changeTickets_0 rfl 0 rfl rfl ?_
  refine u_get h flX5_changeTickets_7 0 (v := .ref qz) rfl hfz dX5_changeTickets_1 rfl ?_
  refine u_iconst (v := 0) h dX5_changeTickets_4 (by decide) rfl ?_
  refine u_iload_n h dX5_changeTickets_5 rfl 1 rfl rfl ?_
  refine u_iadd (v := (nI v)) h dX5_changeTickets_6 (by have h9 := nI_add 0 v; rw [Nat.zero_add] at h9; exact h9) rfl ?_
  refine u_iald h (n := v) 1 rfl (by omega) (by omega) dX5_changeTickets_7 rfl ?_
  by_cases k1 : (z v) = 0
  · refine u_lookup (off := 28) (tgt := 36) h dX5_changeTickets_8 (by decide) (by rw [k1]; rfl) (by decide) ?_
    refine u_aload_n h dX5_changeTickets_36 rfl 0 rfl rfl ?_
    refine u_get h flX5_changeTickets_7 0 (v := .ref qz) rfl hfz dX5_changeTickets_37 rfl ?_
    refine u_bipush (v := 36) h dX5_changeTickets_40 (by decide) rfl ?_
    refine u_iload_n h dX5_changeTickets_42 rfl 1 rfl rfl ?_
    refine u_iadd (v := (nI (36 + v))) h dX5_changeTickets_43 (nI_add 36 v) rfl ?_
    refine u_aload_n h dX5_changeTickets_44 rfl 0 rfl rfl ?_
    refine u_get h flX5_changeTickets_7 0 (v := .ref qz) rfl hfz dX5_changeTickets_45 rfl ?_
    refine u_bipush (v := 50) h dX5_changeTickets_48 (by decide) rfl ?_
    refine u_iald h (n := 50) 1 rfl (by omega) (by omega) dX5_changeTickets_50 rfl ?_
    refine u_iast h (n := (36 + v)) (v := (z 50)) 1 rfl (by omega) (by omega) rfl (ws' := [(h0, .inr (5, fs)), (qz, aI G 86 (upd z (36 + v) (z 50)))]) rfl dX5_changeTickets_51 rfl ?_
    refine u_aload_n h dX5_changeTickets_52 rfl 0 rfl rfl ?_
    refine u_get h flX5_changeTickets_7 0 (v := .ref qz) rfl hfz dX5_changeTickets_53 rfl ?_
    refine u_bipush (v := 50) h dX5_changeTickets_56 (by decide) rfl ?_
    refine u_dup2 h dX5_changeTickets_58 rfl rfl rfl ?_
    refine u_iald h (n := 50) 1 rfl (by omega) (by omega) dX5_changeTickets_59 rfl ?_
    refine u_top (y := (z 50)) (by rw [pk_un (by omega)]) ?_
    refine u_iconst (v := 1) h dX5_changeTickets_60 (by decide) rfl ?_
    refine u_iadd (v := ((z 50) + 1)) h dX5_changeTickets_61 rfl rfl ?_
    refine u_iast h (n := 50) (v := ((z 50) + 1)) 1 rfl (by omega) (by omega) rfl (ws' := [(h0, .inr (5, fs)), (qz, aI G 86 (upd (upd z (36 + v) (z 50)) 50 ((z 50) + 1)))]) rfl dX5_changeTickets_62 rfl ?_
    refine u_aload_n h dX5_changeTickets_63 rfl 0 rfl rfl ?_
    refine u_get h flX5_changeTickets_7 0 (v := .ref qz) rfl hfz dX5_changeTickets_64 rfl ?_
    refine u_iconst (v := 0) h dX5_changeTickets_67 (by decide) rfl ?_
    refine u_iload_n h dX5_changeTickets_68 rfl 1 rfl rfl ?_
    refine u_iadd (v := (nI v)) h dX5_changeTickets_69 (by have h9 := nI_add 0 v; rw [Nat.zero_add] at h9; exact h9) rfl ?_
    refine u_iconst (v := 3) h dX5_changeTickets_70 (by decide) rfl ?_
    refine u_iast h (n := v) (v := 3) 1 rfl (by omega) (by omega) rfl (ws' := [(h0, .inr (5, fs)), (qz, aI G 86 (upd (upd (upd z (36 + v) (z 50)) 50 ((z 50) + 1)) v 3))]) rfl dX5_changeTickets_71 rfl ?_
    refine u_goto (tgt := 117) h dX5_changeTickets_72 (by decide) ?_
    exact u_vret h hRT dX5_changeTickets_117 (by omega) (by omega) (by refine ⟨rfl, ?_⟩; first | (simp [chT, k1]; done) | (exfalso; simp_all; done) | (simp_all [chT, k1]; done))
  by_cases k2 : (z v) = 3
  · refine u_lookup (off := 67) (tgt := 75) h dX5_changeTickets_8 (by decide) (by rw [k2]; rfl) (by decide) ?_
    refine u_aload_n h dX5_changeTickets_75 rfl 0 rfl rfl ?_
    refine u_get h flX5_changeTickets_7 0 (v := .ref qz) rfl hfz dX5_changeTickets_76 rfl ?_
    refine u_iconst (v := 0) h dX5_changeTickets_79 (by decide) rfl ?_
    refine u_iload_n h dX5_changeTickets_80 rfl 1 rfl rfl ?_
    refine u_iadd (v := (nI v)) h dX5_changeTickets_81 (by have h9 := nI_add 0 v; rw [Nat.zero_add] at h9; exact h9) rfl ?_
    refine u_iconst (v := 4) h dX5_changeTickets_82 (by decide) rfl ?_
    refine u_iast h (n := v) (v := 4) 1 rfl (by omega) (by omega) rfl (ws' := [(h0, .inr (5, fs)), (qz, aI G 86 (upd z v 4))]) rfl dX5_changeTickets_83 rfl ?_
    refine u_goto (tgt := 117) h dX5_changeTickets_84 (by decide) ?_
    exact u_vret h hRT dX5_changeTickets_117 (by omega) (by omega) (by refine ⟨rfl, ?_⟩; first | (simp [chT, k2]; done) | (exfalso; simp_all; done) | (simp_all [chT, k2]; done))
  refine u_lookup (off := 79) (tgt := 87) h dX5_changeTickets_8 (by decide) ((lv_osw (k := 0) k1 (by decide)).trans ((lv_osw (k := 3) k2 (by decide)).trans (rfl))) (by decide) ?_
  refine u_aload_n h dX5_changeTickets_87 rfl 0 rfl rfl ?_
  refine u_get h flX5_changeTickets_7 0 (v := .ref qz) rfl hfz dX5_changeTickets_88 rfl ?_
  refine u_bipush (v := 51) h dX5_changeTickets_91 (by decide) rfl ?_
  refine u_dup2 h dX5_changeTickets_93 rfl rfl rfl ?_
  refine u_iald h (n := 51) 1 rfl (by omega) (by omega) dX5_changeTickets_94 rfl ?_
  refine u_iconst (v := 1) h dX5_changeTickets_95 (by decide) rfl ?_
  refine u_iadd (v := ((z 51) + 1)) h dX5_changeTickets_96 rfl rfl ?_
  refine u_iast h (n := 51) (v := ((z 51) + 1)) 1 rfl (by omega) (by omega) rfl (ws' := [(h0, .inr (5, fs)), (qz, aI G 86 (upd z 51 ((z 51) + 1)))]) rfl dX5_changeTickets_97 rfl ?_
  refine u_aload_n h dX5_changeTickets_98 rfl 0 rfl rfl ?_
  refine u_get h flX5_changeTickets_7 0 (v := .ref qz) rfl hfz dX5_changeTickets_99 rfl ?_
  refine u_bipush (v := 36) h dX5_changeTickets_102 (by decide) rfl ?_
  refine u_iload_n h dX5_changeTickets_104 rfl 1 rfl rfl ?_
  refine u_iadd (v := (nI (36 + v))) h dX5_changeTickets_105 (nI_add 36 v) rfl ?_
  refine u_iconst (v := (-1)) h dX5_changeTickets_106 (by decide) rfl ?_
  refine u_iast h (n := (36 + v)) (v := (-1)) 1 rfl (by omega) (by omega) rfl (ws' := [(h0, .inr (5, fs)), (qz, aI G 86 (upd (upd z 51 ((z 51) + 1)) (36 + v) (-1)))]) rfl dX5_changeTickets_107 rfl ?_
  refine u_aload_n h dX5_changeTickets_108 rfl 0 rfl rfl ?_
  refine u_get h flX5_changeTickets_7 0 (v := .ref qz) rfl hfz dX5_changeTickets_109 rfl ?_
  refine u_iconst (v := 0) h dX5_changeTickets_112 (by decide) rfl ?_
  refine u_iload_n h dX5_changeTickets_113 rfl 1 rfl rfl ?_
  refine u_iadd (v := (nI v)) h dX5_changeTickets_114 (by have h9 := nI_add 0 v; rw [Nat.zero_add] at h9; exact h9) rfl ?_
  refine u_iconst (v := 0) h dX5_changeTickets_115 (by decide) rfl ?_
  refine u_iast h (n := v) (v := 0) 1 rfl (by omega) (by omega) rfl (ws' := [(h0, .inr (5, fs)), (qz, aI G 86 (upd (upd (upd z 51 ((z 51) + 1)) (36 + v) (-1)) v 0))]) rfl dX5_changeTickets_116 rfl ?_
  exact u_vret h hRT dX5_changeTickets_117 (by omega) (by omega) (by refine ⟨rfl, ?_⟩; first | (simp [chT, k1, k2]; done) | (exfalso; simp_all; done) | (simp_all [chT, k1, k2]; done))

theorem flX5_changeGrabbing_7 : FL wsX5_changeGrabbing RX5 7 5 0 := ⟨RX5, TX5, 18, rfl, by decide, by decide +kernel, by decide +kernel⟩
set_option maxHeartbeats 8000000 in
set_option maxRecDepth 100000 in
theorem kX5_changeGrabbing (G : Gx) (h0 qz : Nat) (fs : List Value) (hfz : fs[0]? = some (.ref qz)) (z : Zf) (v : Nat) (hv : v < 6) : MC G yX5_changeGrabbing wsX5_changeGrabbing ({ frames := 0, cells := 0, slots := 0, locals := 0 } : Room) [.ref h0, .int (nI v)] [(h0, .inr (5, fs)), (qz, aI G 86 z)] (fun v' u' => v' = none ∧ u' = [(h0, .inr (5, fs)), (qz, aI G 86 (chG z v))]) 0 0 := by
  refine mc_of (cc := cX5_changeGrabbing) (maxL := 3) (ret := none) (by decide) rfl (Nat.le_of_ble_eq_true rfl) (fun X h hR hL hRT => ?_)
  refine u_eql (lv' := [(0, .ref h0), (1, .int (nI v))]) rfl ?_
  refine u_aload_n h dX5_changeGrabbing_0 rfl 0 rfl rfl ?_
  refine u_get h flX5_changeGrabbing_7 0 (v := .ref qz) rfl hfz dX5_changeGrabbing_1 rfl ?_
  refine u_iconst (v := 0) h dX5_changeGrabbing_4 (by decide) rfl ?_
  refine u_iload_n h dX5_changeGrabbing_5 rfl 1 rfl rfl ?_
  refine u_iadd (v := (nI v)) h dX5_changeGrabbing_6 (by have h9 := nI_add 0 v; rw [Nat.zero_add] at h9; exact h9) rfl ?_
  refine u_iald h (n := v) 1 rfl (by omega) (by omega) dX5_changeGrabbing_7 rfl ?_
  refine u_istore_n (lv' := [(2, .int (z v)), (0, .ref h0), (1, .int (nI v))]) h dX5_changeGrabbing_8 rfl (by rw [hL]; decide) rfl rfl ?_
  refine u_aload_n h dX5_changeGrabbing_9 rfl 1 rfl rfl ?_
  refine u_get h flX5_changeGrabbing_7 0 (v := .ref qz) rfl hfz dX5_changeGrabbing_10 rfl ?_
  refine u_bipush (v := 52) h dX5_changeGrabbing_13 (by decide) rfl ?_
  refine u_iload_n h dX5_changeGrabbing_15 rfl 0 rfl rfl ?_
  refine u_if_ne (tgt := 29) h dX5_changeGrabbing_16 (by decide) rfl (fun c1 => ?_) (fun c1 => ?_)
  · refine u_iload_n h dX5_changeGrabbing_29 rfl 0 rfl rfl ?_
    refine u_iconst (v := 3) h dX5_changeGrabbing_30 (by decide) rfl ?_
    refine u_icmp_ne (tgt := 38) h dX5_changeGrabbing_31 (by decide) rfl (fun c2 => ?_) (fun c2 => ?_)
    · refine u_iconst (v := 0) h dX5_changeGrabbing_38 (by decide) rfl ?_
      refine u_iast h (n := 52) (v := 0) 1 rfl (by omega) (by omega) rfl (ws' := [(h0, .inr (5, fs)), (qz, aI G 86 (upd z 52 0))]) rfl dX5_changeGrabbing_39 rfl ?_
      refine u_aload_n h dX5_changeGrabbing_40 rfl 1 rfl rfl ?_
      refine u_get h flX5_changeGrabbing_7 0 (v := .ref qz) rfl hfz dX5_changeGrabbing_41 rfl ?_
      refine u_iconst (v := 0) h dX5_changeGrabbing_44 (by decide) rfl ?_
      refine u_iload_n h dX5_changeGrabbing_45 rfl 2 rfl rfl ?_
      refine u_iadd (v := (nI v)) h dX5_changeGrabbing_46 (by have h9 := nI_add 0 v; rw [Nat.zero_add] at h9; exact h9) rfl ?_
      refine u_iload_n h dX5_changeGrabbing_47 rfl 0 rfl rfl ?_
      refine u_if_ne (tgt := 55) h dX5_changeGrabbing_48 (by decide) rfl (fun c3 => ?_) (fun c3 => ?_)
      · refine u_iload_n h dX5_changeGrabbing_55 rfl 0 rfl rfl ?_
        refine u_iconst (v := 3) h dX5_changeGrabbing_56 (by decide) rfl ?_
        refine u_icmp_ne (tgt := 64) h dX5_changeGrabbing_57 (by decide) rfl (fun c4 => ?_) (fun c4 => ?_)
        · refine u_iconst (v := 0) h dX5_changeGrabbing_64 (by decide) rfl ?_
          refine u_iast h (n := v) (v := 0) 1 rfl (by omega) (by omega) rfl (ws' := [(h0, .inr (5, fs)), (qz, aI G 86 (upd (upd z 52 0) v 0))]) rfl dX5_changeGrabbing_65 rfl ?_
          exact u_vret h hRT dX5_changeGrabbing_66 (by omega) (by omega) (by refine ⟨rfl, ?_⟩; first | (simp [chG, c1, c2, c3, c4]; done) | (exfalso; simp_all; done) | (simp_all [chG, c1, c2, c3, c4]; done))
        · refine u_iconst (v := 4) h dX5_changeGrabbing_60 (by decide) rfl ?_
          refine u_goto (tgt := 65) h dX5_changeGrabbing_61 (by decide) ?_
          refine u_iast h (n := v) (v := 4) 1 rfl (by omega) (by omega) rfl (ws' := [(h0, .inr (5, fs)), (qz, aI G 86 (upd (upd z 52 0) v 4))]) rfl dX5_changeGrabbing_65 rfl ?_
          exact u_vret h hRT dX5_changeGrabbing_66 (by omega) (by omega) (by refine ⟨rfl, ?_⟩; first | (simp [chG, c1, c2, c3, c4]; done) | (exfalso; simp_all; done) | (simp_all [chG, c1, c2, c3, c4]; done))
      · refine u_iconst (v := 3) h dX5_changeGrabbing_51 (by decide) rfl ?_
        refine u_goto (tgt := 65) h dX5_changeGrabbing_52 (by decide) ?_
        refine u_iast h (n := v) (v := 3) 1 rfl (by omega) (by omega) rfl (ws' := [(h0, .inr (5, fs)), (qz, aI G 86 (upd (upd z 52 0) v 3))]) rfl dX5_changeGrabbing_65 rfl ?_
        exact u_vret h hRT dX5_changeGrabbing_66 (by omega) (by omega) (by refine ⟨rfl, ?_⟩; first | (simp [chG, c1, c2, c3]; done) | (exfalso; simp_all; done) | (simp_all [chG, c1, c2, c3]; done))
    · refine u_iconst (v := 1) h dX5_changeGrabbing_34 (by decide) rfl ?_
      refine u_goto (tgt := 39) h dX5_changeGrabbing_35 (by decide) ?_
      refine u_iast h (n := 52) (v := 1) 1 rfl (by omega) (by omega) rfl (ws' := [(h0, .inr (5, fs)), (qz, aI G 86 (upd z 52 1))]) rfl dX5_changeGrabbing_39 rfl ?_
      refine u_aload_n h dX5_changeGrabbing_40 rfl 1 rfl rfl ?_
      refine u_get h flX5_changeGrabbing_7 0 (v := .ref qz) rfl hfz dX5_changeGrabbing_41 rfl ?_
      refine u_iconst (v := 0) h dX5_changeGrabbing_44 (by decide) rfl ?_
      refine u_iload_n h dX5_changeGrabbing_45 rfl 2 rfl rfl ?_
      refine u_iadd (v := (nI v)) h dX5_changeGrabbing_46 (by have h9 := nI_add 0 v; rw [Nat.zero_add] at h9; exact h9) rfl ?_
      refine u_iload_n h dX5_changeGrabbing_47 rfl 0 rfl rfl ?_
      refine u_if_ne (tgt := 55) h dX5_changeGrabbing_48 (by decide) rfl (fun c5 => ?_) (fun c5 => ?_)
      · refine u_iload_n h dX5_changeGrabbing_55 rfl 0 rfl rfl ?_
        refine u_iconst (v := 3) h dX5_changeGrabbing_56 (by decide) rfl ?_
        refine u_icmp_ne (tgt := 64) h dX5_changeGrabbing_57 (by decide) rfl (fun c6 => ?_) (fun c6 => ?_)
        · refine u_iconst (v := 0) h dX5_changeGrabbing_64 (by decide) rfl ?_
          refine u_iast h (n := v) (v := 0) 1 rfl (by omega) (by omega) rfl (ws' := [(h0, .inr (5, fs)), (qz, aI G 86 (upd (upd z 52 1) v 0))]) rfl dX5_changeGrabbing_65 rfl ?_
          exact u_vret h hRT dX5_changeGrabbing_66 (by omega) (by omega) (by refine ⟨rfl, ?_⟩; first | (simp [chG, c1, c2, c5, c6]; done) | (exfalso; simp_all; done) | (simp_all [chG, c1, c2, c5, c6]; done))
        · refine u_iconst (v := 4) h dX5_changeGrabbing_60 (by decide) rfl ?_
          refine u_goto (tgt := 65) h dX5_changeGrabbing_61 (by decide) ?_
          refine u_iast h (n := v) (v := 4) 1 rfl (by omega) (by omega) rfl (ws' := [(h0, .inr (5, fs)), (qz, aI G 86 (upd (upd z 52 1) v 4))]) rfl dX5_changeGrabbing_65 rfl ?_
          exact u_vret h hRT dX5_changeGrabbing_66 (by omega) (by omega) (by refine ⟨rfl, ?_⟩; first | (simp [chG, c1, c2, c5, c6]; done) | (exfalso; simp_all; done) | (simp_all [chG, c1, c2, c5, c6]; done))
      · refine u_iconst (v := 3) h dX5_changeGrabbing_51 (by decide) rfl ?_
        refine u_goto (tgt := 65) h dX5_changeGrabbing_52 (by decide) ?_
        refine u_iast h (n := v) (v := 3) 1 rfl (by omega) (by omega) rfl (ws' := [(h0, .inr (5, fs)), (qz, aI G 86 (upd (upd z 52 1) v 3))]) rfl dX5_changeGrabbing_65 rfl ?_
        exact u_vret h hRT dX5_changeGrabbing_66 (by omega) (by omega) (by refine ⟨rfl, ?_⟩; first | (simp [chG, c1, c2, c5]; done) | (exfalso; simp_all; done) | (simp_all [chG, c1, c2, c5]; done))
  · refine u_aload_n h dX5_changeGrabbing_19 rfl 1 rfl rfl ?_
    refine u_get h flX5_changeGrabbing_7 0 (v := .ref qz) rfl hfz dX5_changeGrabbing_20 rfl ?_
    refine u_bipush (v := 52) h dX5_changeGrabbing_23 (by decide) rfl ?_
    refine u_iald h (n := 52) 1 rfl (by omega) (by omega) dX5_changeGrabbing_25 rfl ?_
    refine u_goto (tgt := 39) h dX5_changeGrabbing_26 (by decide) ?_
    refine u_iast h (n := 52) (v := (z 52)) 1 rfl (by omega) (by omega) rfl (ws' := [(h0, .inr (5, fs)), (qz, aI G 86 (upd z 52 (z 52)))]) rfl dX5_changeGrabbing_39 rfl ?_
    refine u_aload_n h dX5_changeGrabbing_40 rfl 1 rfl rfl ?_
    refine u_get h flX5_changeGrabbing_7 0 (v := .ref qz) rfl hfz dX5_changeGrabbing_41 rfl ?_
    refine u_iconst (v := 0) h dX5_changeGrabbing_44 (by decide) rfl ?_
    refine u_iload_n h dX5_changeGrabbing_45 rfl 2 rfl rfl ?_
    refine u_iadd (v := (nI v)) h dX5_changeGrabbing_46 (by have h9 := nI_add 0 v; rw [Nat.zero_add] at h9; exact h9) rfl ?_
    refine u_iload_n h dX5_changeGrabbing_47 rfl 0 rfl rfl ?_
    refine u_if_ne (tgt := 55) h dX5_changeGrabbing_48 (by decide) rfl (fun c7 => ?_) (fun c7 => ?_)
    · refine u_iload_n h dX5_changeGrabbing_55 rfl 0 rfl rfl ?_
      refine u_iconst (v := 3) h dX5_changeGrabbing_56 (by decide) rfl ?_
      refine u_icmp_ne (tgt := 64) h dX5_changeGrabbing_57 (by decide) rfl (fun c8 => ?_) (fun c8 => ?_)
      · refine u_iconst (v := 0) h dX5_changeGrabbing_64 (by decide) rfl ?_
        refine u_iast h (n := v) (v := 0) 1 rfl (by omega) (by omega) rfl (ws' := [(h0, .inr (5, fs)), (qz, aI G 86 (upd (upd z 52 (z 52)) v 0))]) rfl dX5_changeGrabbing_65 rfl ?_
        exact u_vret h hRT dX5_changeGrabbing_66 (by omega) (by omega) (by refine ⟨rfl, ?_⟩; first | (simp [chG, c1, c7, c8]; done) | (exfalso; simp_all; done) | (simp_all [chG, c1, c7, c8]; done))
      · refine u_iconst (v := 4) h dX5_changeGrabbing_60 (by decide) rfl ?_
        refine u_goto (tgt := 65) h dX5_changeGrabbing_61 (by decide) ?_
        refine u_iast h (n := v) (v := 4) 1 rfl (by omega) (by omega) rfl (ws' := [(h0, .inr (5, fs)), (qz, aI G 86 (upd (upd z 52 (z 52)) v 4))]) rfl dX5_changeGrabbing_65 rfl ?_
        exact u_vret h hRT dX5_changeGrabbing_66 (by omega) (by omega) (by refine ⟨rfl, ?_⟩; first | (simp [chG, c1, c7, c8]; done) | (exfalso; simp_all; done) | (simp_all [chG, c1, c7, c8]; done))
    · refine u_iconst (v := 3) h dX5_changeGrabbing_51 (by decide) rfl ?_
      refine u_goto (tgt := 65) h dX5_changeGrabbing_52 (by decide) ?_
      refine u_iast h (n := v) (v := 3) 1 rfl (by omega) (by omega) rfl (ws' := [(h0, .inr (5, fs)), (qz, aI G 86 (upd (upd z 52 (z 52)) v 3))]) rfl dX5_changeGrabbing_65 rfl ?_
      exact u_vret h hRT dX5_changeGrabbing_66 (by omega) (by omega) (by refine ⟨rfl, ?_⟩; first | (simp [chG, c1, c7]; done) | (exfalso; simp_all; done) | (simp_all [chG, c1, c7]; done))

theorem flX5_change_7 : FL wsX5_change RX5 7 5 0 := ⟨RX5, TX5, 18, rfl, by decide, by decide +kernel, by decide +kernel⟩
set_option maxRecDepth 20000 in
theorem cwX5_change_X5_changeNudges : CWd wsX5_change (wsV RX5 70 RX5 yX5_changeNudges wsX5_changeNudges) yX5_changeNudges wsX5_changeNudges cX5_changeNudges 4 none 1 := ⟨gX5_change_X5_changeNudges, ⟨_, rfl⟩, by decide +kernel, by decide, by decide⟩
set_option maxRecDepth 20000 in
theorem cwX5_change_X5_changeWatching : CWd wsX5_change (wsV RX5 73 RX5 yX5_changeWatching wsX5_changeWatching) yX5_changeWatching wsX5_changeWatching cX5_changeWatching 2 none 1 := ⟨gX5_change_X5_changeWatching, ⟨_, rfl⟩, by decide +kernel, by decide, by decide⟩
set_option maxRecDepth 20000 in
theorem cwX5_change_X5_changeTickets : CWd wsX5_change (wsV RX5 76 RX5 yX5_changeTickets wsX5_changeTickets) yX5_changeTickets wsX5_changeTickets cX5_changeTickets 2 none 1 := ⟨gX5_change_X5_changeTickets, ⟨_, rfl⟩, by decide +kernel, by decide, by decide⟩
set_option maxRecDepth 20000 in
theorem cwX5_change_X5_changeGrabbing : CWd wsX5_change (wsV RX5 79 RX5 yX5_changeGrabbing wsX5_changeGrabbing) yX5_changeGrabbing wsX5_changeGrabbing cX5_changeGrabbing 3 none 1 := ⟨gX5_change_X5_changeGrabbing, ⟨_, rfl⟩, by decide +kernel, by decide, by decide⟩
set_option maxHeartbeats 8000000 in
set_option maxRecDepth 100000 in
theorem kX5_change (G : Gx) (h0 qz : Nat) (fs : List Value) (hfz : fs[0]? = some (.ref qz)) (z : Zf) (v : Nat) (hv : v < 6) (hW : Wf z) : MC G yX5_change wsX5_change ({ frames := 1, cells := 0, slots := 0, locals := 23 } : Room) [.ref h0, .int (nI v)] [(h0, .inr (5, fs)), (qz, aI G 86 z)] (fun v' u' => v' = none ∧ u' = [(h0, .inr (5, fs)), (qz, aI G 86 (chM z v))]) 0 0 := by
  refine mc_of (cc := cX5_change) (maxL := 2) (ret := none) (by decide) rfl (Nat.le_of_ble_eq_true rfl) (fun X h hR hL hRT => ?_)
  refine u_eql (lv' := [(0, .ref h0), (1, .int (nI v))]) rfl ?_
  refine u_aload_n h dX5_change_0 rfl 0 rfl rfl ?_
  refine u_get h flX5_change_7 0 (v := .ref qz) rfl hfz dX5_change_1 rfl ?_
  refine u_bipush (v := 60) h dX5_change_4 (by decide) rfl ?_
  refine u_iald h (n := 60) 1 rfl (by omega) (by omega) dX5_change_6 rfl ?_
  by_cases k1 : (z 60) = 0
  · refine u_tableIn (off := 25) (tgt := 32) h dX5_change_7 (by rw [k1]; decide) (by rw [k1]; decide) (by rw [k1]; rfl) (by decide) ?_
    refine u_aload_n h dX5_change_32 rfl 0 rfl rfl ?_
    refine u_iload_n h dX5_change_33 rfl 1 rfl rfl ?_
    refine u_callV h (As := [.int (nI v)]) (wc := [(h0, .inr (5, fs)), (qz, aI G 86 z)]) (wr := []) (kX5_changeNudges G h0 qz fs hfz z v hv hW k1) cwX5_change_X5_changeNudges rfl rfl hR ⟨⟨rfl, rfl⟩, by decide, by decide⟩ ⟨Nat.le_of_ble_eq_true rfl, Nat.le_of_ble_eq_true rfl⟩ (ci := 5) (qr := 0) rfl rfl [0, 1] [] rfl rfl rfl rfl (by decide) (Nat.le_of_ble_eq_true rfl) rfl dX5_change_34 rfl (fun v9 u9 hp9 => ?_)
    obtain ⟨rfl, rfl⟩ := hp9
    refine u_wp (ws' := [(h0, .inr (5, fs)), (qz, aI G 86 (chN z v))]) [0, 1] rfl rfl ?_
    refine u_eqs (st' := []) rfl ?_
    refine u_goto (tgt := 61) h dX5_change_37 (by decide) ?_
    exact u_vret h hRT dX5_change_61 (by omega) (by omega) (by refine ⟨rfl, ?_⟩; first | (simp [chM, k1]; done) | (exfalso; simp_all; done) | (simp_all [chM, k1]; done))
  by_cases k2 : (z 60) = 1
  · refine u_tableIn (off := 33) (tgt := 40) h dX5_change_7 (by rw [k2]; decide) (by rw [k2]; decide) (by rw [k2]; rfl) (by decide) ?_
    refine u_aload_n h dX5_change_40 rfl 0 rfl rfl ?_
    refine u_iload_n h dX5_change_41 rfl 1 rfl rfl ?_
    refine u_callV h (As := [.int (nI v)]) (wc := [(h0, .inr (5, fs)), (qz, aI G 86 z)]) (wr := []) (kX5_changeWatching G h0 qz fs hfz z v hv hW k2) cwX5_change_X5_changeWatching rfl rfl hR ⟨⟨rfl, rfl⟩, by decide, by decide⟩ ⟨Nat.le_of_ble_eq_true rfl, Nat.le_of_ble_eq_true rfl⟩ (ci := 5) (qr := 0) rfl rfl [0, 1] [] rfl rfl rfl rfl (by decide) (Nat.le_of_ble_eq_true rfl) rfl dX5_change_42 rfl (fun v9 u9 hp9 => ?_)
    obtain ⟨rfl, rfl⟩ := hp9
    refine u_wp (ws' := [(h0, .inr (5, fs)), (qz, aI G 86 (chW z v))]) [0, 1] rfl rfl ?_
    refine u_eqs (st' := []) rfl ?_
    refine u_goto (tgt := 61) h dX5_change_45 (by decide) ?_
    exact u_vret h hRT dX5_change_61 (by omega) (by omega) (by refine ⟨rfl, ?_⟩; first | (simp [chM, k2]; done) | (exfalso; simp_all; done) | (simp_all [chM, k2]; done))
  by_cases k3 : (z 60) = 2
  · refine u_tableIn (off := 41) (tgt := 48) h dX5_change_7 (by rw [k3]; decide) (by rw [k3]; decide) (by rw [k3]; rfl) (by decide) ?_
    refine u_aload_n h dX5_change_48 rfl 0 rfl rfl ?_
    refine u_iload_n h dX5_change_49 rfl 1 rfl rfl ?_
    refine u_callV h (As := [.int (nI v)]) (wc := [(h0, .inr (5, fs)), (qz, aI G 86 z)]) (wr := []) (kX5_changeTickets G h0 qz fs hfz z v hv) cwX5_change_X5_changeTickets rfl rfl hR ⟨⟨rfl, rfl⟩, by decide, by decide⟩ ⟨Nat.le_of_ble_eq_true rfl, Nat.le_of_ble_eq_true rfl⟩ (ci := 5) (qr := 0) rfl rfl [0, 1] [] rfl rfl rfl rfl (by decide) (Nat.le_of_ble_eq_true rfl) rfl dX5_change_50 rfl (fun v9 u9 hp9 => ?_)
    obtain ⟨rfl, rfl⟩ := hp9
    refine u_wp (ws' := [(h0, .inr (5, fs)), (qz, aI G 86 (chT z v))]) [0, 1] rfl rfl ?_
    refine u_eqs (st' := []) rfl ?_
    refine u_goto (tgt := 61) h dX5_change_53 (by decide) ?_
    exact u_vret h hRT dX5_change_61 (by omega) (by omega) (by refine ⟨rfl, ?_⟩; first | (simp [chM, k3]; done) | (exfalso; simp_all; done) | (simp_all [chM, k3]; done))
  refine u_tableOut (tgt := 56) h dX5_change_7 (ti_out (n := 3) (by decide) (fun k9 hk9 => by rcases (show k9 = 0 ∨ k9 = 1 ∨ k9 = 2 by omega) with rfl | rfl | rfl <;> assumption)) (by decide) ?_
  refine u_aload_n h dX5_change_56 rfl 0 rfl rfl ?_
  refine u_iload_n h dX5_change_57 rfl 1 rfl rfl ?_
  refine u_callV h (As := [.int (nI v)]) (wc := [(h0, .inr (5, fs)), (qz, aI G 86 z)]) (wr := []) (kX5_changeGrabbing G h0 qz fs hfz z v hv) cwX5_change_X5_changeGrabbing rfl rfl hR ⟨⟨rfl, rfl⟩, by decide, by decide⟩ ⟨Nat.le_of_ble_eq_true rfl, Nat.le_of_ble_eq_true rfl⟩ (ci := 5) (qr := 0) rfl rfl [0, 1] [] rfl rfl rfl rfl (by decide) (Nat.le_of_ble_eq_true rfl) rfl dX5_change_58 rfl (fun v9 u9 hp9 => ?_)
  obtain ⟨rfl, rfl⟩ := hp9
  refine u_wp (ws' := [(h0, .inr (5, fs)), (qz, aI G 86 (chG z v))]) [0, 1] rfl rfl ?_
  refine u_eqs (st' := []) rfl ?_
  exact u_vret h hRT dX5_change_61 (by omega) (by omega) (by refine ⟨rfl, ?_⟩; first | (simp [chM, k1, k2, k3]; done) | (exfalso; simp_all; done) | (simp_all [chM, k1, k2, k3]; done))
