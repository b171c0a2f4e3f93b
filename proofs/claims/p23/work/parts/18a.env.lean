/-! what the tables and the start give: the environment of every walk -/
theorem far_el {args : Array Value} {s : State} (hs : ∀ c ∈ flatC (Jvm.Cond.and given_1 narrow_1), c.before args s = true) : ∀ j : Nat, j < 32 → (Term.elem (.static "NudgeLocks$Lock" "FAR_TOUCHES" "[I") (.int (Int32.ofNat j))).eval args s none [] s = some (.int (farT j))
  | 0, _ => va_eqt (t := .elem (.static "NudgeLocks$Lock" "FAR_TOUCHES" "[I") (.int 0)) (z := 0) (hs _ (by decide +kernel))
  | 1, _ => va_eqt (t := .elem (.static "NudgeLocks$Lock" "FAR_TOUCHES" "[I") (.int 1)) (z := 1) (hs _ (by decide +kernel))
  | 2, _ => va_eqt (t := .elem (.static "NudgeLocks$Lock" "FAR_TOUCHES" "[I") (.int 2)) (z := 1) (hs _ (by decide +kernel))
  | 3, _ => va_eqt (t := .elem (.static "NudgeLocks$Lock" "FAR_TOUCHES" "[I") (.int 3)) (z := 0) (hs _ (by decide +kernel))
  | 4, _ => va_eqt (t := .elem (.static "NudgeLocks$Lock" "FAR_TOUCHES" "[I") (.int 4)) (z := 0) (hs _ (by decide +kernel))
  | 5, _ => va_eqt (t := .elem (.static "NudgeLocks$Lock" "FAR_TOUCHES" "[I") (.int 5)) (z := 1) (hs _ (by decide +kernel))
  | 6, _ => va_eqt (t := .elem (.static "NudgeLocks$Lock" "FAR_TOUCHES" "[I") (.int 6)) (z := 0) (hs _ (by decide +kernel))
  | 7, _ => va_eqt (t := .elem (.static "NudgeLocks$Lock" "FAR_TOUCHES" "[I") (.int 7)) (z := 1) (hs _ (by decide +kernel))
  | 8, _ => va_eqt (t := .elem (.static "NudgeLocks$Lock" "FAR_TOUCHES" "[I") (.int 8)) (z := 0) (hs _ (by decide +kernel))
  | 9, _ => va_eqt (t := .elem (.static "NudgeLocks$Lock" "FAR_TOUCHES" "[I") (.int 9)) (z := 1) (hs _ (by decide +kernel))
  | 10, _ => va_eqt (t := .elem (.static "NudgeLocks$Lock" "FAR_TOUCHES" "[I") (.int 10)) (z := 0) (hs _ (by decide +kernel))
  | 11, _ => va_eqt (t := .elem (.static "NudgeLocks$Lock" "FAR_TOUCHES" "[I") (.int 11)) (z := 1) (hs _ (by decide +kernel))
  | 12, _ => va_eqt (t := .elem (.static "NudgeLocks$Lock" "FAR_TOUCHES" "[I") (.int 12)) (z := 0) (hs _ (by decide +kernel))
  | 13, _ => va_eqt (t := .elem (.static "NudgeLocks$Lock" "FAR_TOUCHES" "[I") (.int 13)) (z := 0) (hs _ (by decide +kernel))
  | 14, _ => va_eqt (t := .elem (.static "NudgeLocks$Lock" "FAR_TOUCHES" "[I") (.int 14)) (z := 0) (hs _ (by decide +kernel))
  | 15, _ => va_eqt (t := .elem (.static "NudgeLocks$Lock" "FAR_TOUCHES" "[I") (.int 15)) (z := 0) (hs _ (by decide +kernel))
  | 16, _ => va_eqt (t := .elem (.static "NudgeLocks$Lock" "FAR_TOUCHES" "[I") (.int 16)) (z := 1) (hs _ (by decide +kernel))
  | 17, _ => va_eqt (t := .elem (.static "NudgeLocks$Lock" "FAR_TOUCHES" "[I") (.int 17)) (z := 0) (hs _ (by decide +kernel))
  | 18, _ => va_eqt (t := .elem (.static "NudgeLocks$Lock" "FAR_TOUCHES" "[I") (.int 18)) (z := 0) (hs _ (by decide +kernel))
  | 19, _ => va_eqt (t := .elem (.static "NudgeLocks$Lock" "FAR_TOUCHES" "[I") (.int 19)) (z := 1) (hs _ (by decide +kernel))
  | 20, _ => va_eqt (t := .elem (.static "NudgeLocks$Lock" "FAR_TOUCHES" "[I") (.int 20)) (z := 1) (hs _ (by decide +kernel))
  | 21, _ => va_eqt (t := .elem (.static "NudgeLocks$Lock" "FAR_TOUCHES" "[I") (.int 21)) (z := 0) (hs _ (by decide +kernel))
  | 22, _ => va_eqt (t := .elem (.static "NudgeLocks$Lock" "FAR_TOUCHES" "[I") (.int 22)) (z := 0) (hs _ (by decide +kernel))
  | 23, _ => va_eqt (t := .elem (.static "NudgeLocks$Lock" "FAR_TOUCHES" "[I") (.int 23)) (z := 0) (hs _ (by decide +kernel))
  | 24, _ => va_eqt (t := .elem (.static "NudgeLocks$Lock" "FAR_TOUCHES" "[I") (.int 24)) (z := 0) (hs _ (by decide +kernel))
  | 25, _ => va_eqt (t := .elem (.static "NudgeLocks$Lock" "FAR_TOUCHES" "[I") (.int 25)) (z := 0) (hs _ (by decide +kernel))
  | 26, _ => va_eqt (t := .elem (.static "NudgeLocks$Lock" "FAR_TOUCHES" "[I") (.int 26)) (z := 0) (hs _ (by decide +kernel))
  | 27, _ => va_eqt (t := .elem (.static "NudgeLocks$Lock" "FAR_TOUCHES" "[I") (.int 27)) (z := 1) (hs _ (by decide +kernel))
  | 28, _ => va_eqt (t := .elem (.static "NudgeLocks$Lock" "FAR_TOUCHES" "[I") (.int 28)) (z := 1) (hs _ (by decide +kernel))
  | 29, _ => va_eqt (t := .elem (.static "NudgeLocks$Lock" "FAR_TOUCHES" "[I") (.int 29)) (z := 0) (hs _ (by decide +kernel))
  | 30, _ => va_eqt (t := .elem (.static "NudgeLocks$Lock" "FAR_TOUCHES" "[I") (.int 30)) (z := 0) (hs _ (by decide +kernel))
  | 31, _ => va_eqt (t := .elem (.static "NudgeLocks$Lock" "FAR_TOUCHES" "[I") (.int 31)) (z := 0) (hs _ (by decide +kernel))
  | j + 32, h9 => absurd h9 (by omega)
theorem env_arr {args : Array Value} {s : State} {ty : FieldType} (h9 : (Cond.arrayClass ty).before args s = true) : ∃ c9 : ClassId, ArrOfT s c9 ty ∧ s.vm.findClass ("[" ++ ty.toString) = some c9 := by
  obtain ⟨c9, k9, comp9, e1, e2, e3⟩ := Cond.arrayClass_spec h9
  exact ⟨c9, fun n9 z9 => ⟨fun k8 h8 => (by cases h8), k9, e2, comp9, e3⟩, e1⟩
theorem env_obj {args : Array Value} {s : State} {C : String} (h9 : (Cond.arrayOver (.object C)).before args s = true) : ∃ c9 : ClassId, ArrOfT s c9 (.object C) ∧ va_RA s c9 (.object C) := by
  obtain ⟨comp9, c9, k9, e1, -, e3, e4, e5⟩ := Cond.arrayOver_spec h9
  exact ⟨c9, fun n9 z9 => ⟨(fun k8 h8 => by cases h8), k9, e3, comp9, e4⟩, k9, comp9, e3, e4, e1, e5⟩
set_option maxHeartbeats 4000000 in
theorem env_of {s : State} {b : Nat} (hts : ∀ w ∈ lw_tbl, w.before #[Value.ref b] s = true) (hgv : (Jvm.Cond.and given_1 narrow_1).before #[Value.ref b] s = true) : ∃ G0 : va_G × (Nat → ClassId) × Nat, ∀ l : Launch, Env1 (l, G0) (fun q : Nat => s.heap.size ≤ q) s := by
  have hs := flat_of_before _ hgv
  obtain ⟨c0, i0, hK0⟩ := u_known (C := RX0) (T := TX0) (N := 4) (n := 4) hts inX0 (hts (.instantiable RX0 4) (by decide +kernel))
  obtain ⟨c1, i1, hK1⟩ := u_known (C := RX1) (T := TX1) (N := 1) (n := 1) hts inX1 (hts (.instantiable RX1 1) (by decide +kernel))
  obtain ⟨c2, i2, hK2⟩ := u_known (C := RX2) (T := TX2) (N := 5) (n := 5) hts inX2 (hts (.instantiable RX2 5) (by decide +kernel))
  obtain ⟨c3, i3, hK3⟩ := u_known (C := RX3) (T := TX3) (N := 5) (n := 5) hts inX3 (hts (.instantiable RX3 5) (by decide +kernel))
  obtain ⟨c4, i4, hK4⟩ := u_known (C := RX4) (T := TX4) (N := 10) (n := 10) hts inX4 (hts (.instantiable RX4 10) (by decide +kernel))
  obtain ⟨aI9, tI1, tI2⟩ := env_arr (hts (.arrayClass .int) (by decide +kernel))
  obtain ⟨aB9, tB1, tB2⟩ := env_arr (hts (.arrayClass .byte) (by decide +kernel))
  obtain ⟨aC9, tC1, tC2⟩ := env_arr (hts (.arrayClass .char) (by decide +kernel))
  obtain ⟨aL9, tL1, tL2⟩ := env_obj (hts (.arrayOver (.object "NudgeLocks$Lock")) (by decide +kernel))
  obtain ⟨aS9, tS1, tS2⟩ := env_obj (hts (.arrayOver (.object "NudgeLocks$State")) (by decide +kernel))
  obtain ⟨t9, ht9, hT9⟩ := va_Tof (tm := .static "NudgeLocks$Lock" "FAR_TOUCHES" "[I") (ty := .int) (N := 32) (f := fun j => .int (farT j)) (A := fun q : Nat => s.heap.size ≤ q) (by decide) (hs _ (by decide +kernel)) (va_eqt (t := .length (.static "NudgeLocks$Lock" "FAR_TOUCHES" "[I")) (z := 32) (hs _ (by decide +kernel))) (far_el hs) (fun a9 h9 => Nat.not_le.mpr h9)
  have hZ9 := va_Zref (t := t9) (A := fun q : Nat => s.heap.size ≤ q) (hts (.laysStatic "NudgeLocks$Lock" "FAR_TOUCHES" "[I") (by decide +kernel)) (hts (.initialized "NudgeLocks$Lock") (by decide +kernel)) ht9 (fun a9 h9 => Nat.not_le.mpr h9)
  refine ⟨((fun k => if k = 0 then c0 else if k = 1 then c1 else if k = 2 then c2 else if k = 3 then c3 else c4, fun k => if k = 0 then i0 else if k = 1 then i1 else if k = 2 then i2 else if k = 3 then i3 else i4), (fun k => if k = 0 then aI9 else if k = 1 then aB9 else if k = 2 then aC9 else if k = 3 then aL9 else aS9), t9), fun l => ⟨⟨?_, ?_⟩, ⟨?_, ?_, ?_, ?_⟩, hZ9, hT9, ?_, ?_⟩⟩
  · intro k q hq
    match k, hq with
    | 0, hq => cases hq; exact hK0
    | 1, hq => cases hq; exact hK1
    | 2, hq => cases hq; exact hK2
    | 3, hq => cases hq; exact hK3
    | 4, hq => cases hq; exact hK4
    | k + 5, hq => simp [vwCl] at hq
  · intro k q hq
    match k, hq with
    | 0, hq => cases hq; exact ⟨tI1, tI2⟩
    | 1, hq => cases hq; exact ⟨tB1, tB2⟩
    | 2, hq => cases hq; exact ⟨tC1, tC2⟩
    | 3, hq => cases hq; exact ⟨tL1, tL2⟩
    | 4, hq => cases hq; exact ⟨tS1, tS2⟩
    | k + 5, hq => simp [tysOf] at hq
  · exact va_Nw.of (by decide) (hts nw0 (by decide +kernel))
  · exact va_Nw.of (by decide) (hts nw1 (by decide +kernel))
  · exact va_Nw.of (by decide) (hts nw2 (by decide +kernel))
  · exact va_Nw.of (by decide) (hts nw3 (by decide +kernel))
  · exact va_AO.of (hts (.arrayOver (.object "NudgeLocks$Lock")) (by decide +kernel))
  · exact va_AO.of (hts (.arrayOver (.object "NudgeLocks$State")) (by decide +kernel))
