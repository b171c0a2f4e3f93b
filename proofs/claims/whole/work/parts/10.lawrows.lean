/-! the law's own end, and the rows that read its script -/
def R_law : String := "NudgeLocksLaw"
def lw_P (b : Addr) (xs : List Int32) (args : Array Value) (s : State) : Prop := args = #[.ref b] ∧ s.IntsAt b xs ∧ xs.length ≤ 2048 ∧ (Jvm.Cond.and given_1 narrow_1).before args s = true
def lw_Q (_ : Array Value) (s : State) (o : Outcome) (t : State) : Prop := o = .returned (some (.int 1)) ∧ Framed s o t [] 600000 7302250
def lw_Z (below : List Frame) (a : Array Value) (s : State) : State → Prop := fun t => ∃ o, t.status = .running ∧ Ended t below o ∧ lw_Q a s o t
/-- the law's own end, with 1 on the stack, nothing written that was there before, its room as the claim has it -/
theorem lw_ret {p : Program} {l : Launch} {e : Env} {s : State} {m : MethodId} {below : List Frame} {meth : Method} {c : Code} {b : Nat} (hx : p.tables.exec = Jvm.exec) (hb : c.code = code) (hr : meth.sig.returnType = ret) (hlocks : meth.locks = false) {pc : Nat} {H : Heap} {ls : Array Slot} (hdg : decode code pc = .ok (.ireturn, 1)) : W p l e room_1 s m #[Value.ref b] below meth c H [] 600000 7302250 (lw_Z below #[Value.ref b] s) (F0 m pc ls [.int 1]) := by
  intro T hT X
  obtain ⟨fs, hret, hrun, hended, hW, hframe⟩ := X.leave (v := some (.int 1)) (hlocks := hlocks) (fun h => by rw [hr] at h; cases h)
  have hmeth' : T.vm.method? m = some meth := X.method'
  refine ⟨T.setFrames fs, ?_, .returned (some (.int 1)), hrun, hended, rfl, ⟨_, rfl⟩, hW, hframe⟩
  jvm_step X.here [X.here.top, hx, hb, hdg, hmeth', hr, ret, narrow_b1]
  (try refine ⟨rfl, ?_⟩); (try refine ⟨rfl, ?_⟩)
  first | (intro acts; rw [hret _ acts rfl rfl rfl]) | rw [hret _ _ rfl rfl rfl]
  exact Steps.refl _
/-- what holds at the law's entry: the machine, the code, the tables' words (any of lw_tbl by 'hts w (by decide +kernel)'), the script of L ints xs at the cell b, what the Statement gives of the start (any of its parts by flat_of_before) -/
def lw_At (p : Program) (s : State) (m : MethodId) (meth : Method) (c : Code) (b L : Nat) (xs : Nat → Int32) : Prop :=
  p.tables.exec = Jvm.exec ∧ c.code = code ∧ meth.sig.returnType = ret ∧ c.maxLocals = 4 ∧ s.vm.findClass R_law = some m.cls ∧ (∀ w ∈ lw_tbl, w.before #[Value.ref b] s = true) ∧ va_X b L xs s s.heap ∧ b < s.heap.size ∧ meth.locks = false ∧ (Jvm.Cond.and given_1 narrow_1).before #[Value.ref b] s = true
def LX (X : Cx) (b L : Nat) (xs : Nat → Int32) : Prop :=
  match X with
  | (_, _, _, s, _, _, _, _, _, A, _, _) => va_X b L xs s s.heap ∧ b < s.heap.size ∧ ¬ A b
def LQ (X : Cx) (b : Nat) : Prop :=
  match X with
  | (_, _, R, s, _, args, below, meth, _, A, _, Q) => R = room_1 ∧ args = #[Value.ref b] ∧ Q = lw_Z below #[Value.ref b] s ∧ A = (fun q : Nat => s.heap.size ≤ q) ∧ meth.sig.returnType = ret
section
variable {G : Gx} {X : Cx} {cc : ByteArray} {own : String} {Ts : List Cond} {cells slots : Nat} {ws : va_W} {pc pc' : Nat} {lv : List (Nat × Value)} {st : List Value}
set_option maxHeartbeats 1000000 in
theorem u_sclen (h : CX G X cc own Ts) {b L : Nat} {xs : Nat → Int32} (hLX : LX X b L xs) (hdg : decode cc pc = .ok (.arraylength, 1)) (hpc : pc + 1 = pc') (kk : U G X cells slots ws pc' lv (.int (nI L) :: st)) : U G X cells slots ws pc lv (.ref b :: st) := by
  obtain ⟨p, e, R, s, m, args, below, meth, c, A, nL, Q⟩ := X
  obtain ⟨⟨hx, hb, hml, hown, hts⟩, hE, hA, hlk⟩ := h
  obtain ⟨h1, h2, h3⟩ := hLX
  subst hpc
  intro H locs ls hP hD hS hl
  exact va_slen hx hb h1 h2 h3 hS hdg (kk H locs ls hP hD hS hl)
set_option maxHeartbeats 1000000 in
theorem u_scld (h : CX G X cc own Ts) {b L n : Nat} {xs : Nat → Int32} (hLX : LX X b L xs) (hin : n < L) (hL : L < 2 ^ 20) (hdg : decode cc pc = .ok (.iaload, 1)) (hpc : pc + 1 = pc') (kk : U G X cells slots ws pc' lv (.int (xs n) :: st)) : U G X cells slots ws pc lv (.int (nI n) :: .ref b :: st) := by
  obtain ⟨p, e, R, s, m, args, below, meth, c, A, nL, Q⟩ := X
  obtain ⟨⟨hx, hb, hml, hown, hts⟩, hE, hA, hlk⟩ := h
  obtain ⟨h1, h2, h3⟩ := hLX
  subst hpc
  intro H locs ls hP hD hS hl
  have t := kk H locs ls hP hD hS hl
  refine va_sld hx hb h1 h2 h3 hS (vp_in_nI hin (by omega)) hdg ?_
  rw [nI_clamp (show n < 2 ^ 31 by omega)]
  exact t
set_option maxHeartbeats 1000000 in
theorem u_lend {b : Nat} (h : CX G X cL_law own Ts) (hq : LQ X b) (h1 : cells ≤ 600000) (h2 : slots ≤ 7302250) (hdg : decode cL_law pc = .ok (.ireturn, 1)) : U G X cells slots ws pc lv [.int 1] := by
  obtain ⟨p, e, R, s, m, args, below, meth, c, A, nL, Q⟩ := X
  obtain ⟨⟨hx, hb, hml, hown, hts⟩, hE, hA, hlk⟩ := h
  obtain ⟨rfl, rfl, rfl, rfl, hr⟩ := hq
  intro H locs ls hP hD hS hl
  refine va_forget (fun q hq => hS.2.2 q hq) ?_
  refine W.widen h1 h2 ?_
  exact lw_ret hx hb hr hlk hdg
end
theorem ch_nar (x : Int32) : vp_nar .char ((x.toUInt32 % 65536).toInt32) = (x.toUInt32 % 65536).toInt32 := by
  have e : (x.toUInt32 % 65536) % 65536 = x.toUInt32 % 65536 := UInt32.toNat_inj.mp (by rw [UInt32.toNat_mod, UInt32.toNat_mod]; exact Nat.mod_mod _ _)
  rw [vp_nar_char]
  show ((x.toUInt32 % 65536) % 65536).toInt32 = _
  rw [e]
/-- the loop's end: i + 4 is not above L -/
theorem lw_more {i L : Nat} (hi : i < 2 ^ 20) (hL : L < 2 ^ 20) (h : ¬ nI L - 4 < nI i) : i + 4 ≤ L := by
  have e : (nI L - nI 4).toInt = (L : Int) - 4 := pk_sub_toInt (by omega) (by omega)
  have e2 := nI_toInt (show i < 2 ^ 31 by omega)
  have h2 : ¬ (nI L - nI 4).toInt < (nI i).toInt := fun q => h (Int32.lt_iff_toInt_lt.mpr q)
  rw [e, e2] at h2
  omega
/-! what both sides keep -/
def HistOk (hz : Nat → Zf) (p : Zf) (r : Nat) : Prop := ∀ j : Nat, j < r → Inv (hz j) ∧ ∀ i : Nat, i < 86 → p (86 * j + i) = hz j i
def KeptOk (zp kp : Zf) : Prop := Inv zp ∧ ∀ i : Nat, i < 86 → kp i = zp i
def LInv (z : Zf) (r n K : Nat) (kb : Bool) (hz : Nat → Zf) (p zp kp : Zf) : Prop := Inv z ∧ r ≤ 4 ∧ n ≤ 60 ∧ K ≤ 300 ∧ HistOk hz p r ∧ (kb = true → KeptOk zp kp)
theorem inv_nx {b : Bool} {z w : Zf} (h : Inv z) (hw : b = true → Inv w) : Inv (nxZ b z w) := by
  cases b
  · exact h
  · exact hw rfl
theorem HistOk.nx {b : Bool} {hz : Nat → Zf} {p z : Zf} {r : Nat} (h : HistOk hz p r) (hr : r ≤ 4) (h0 : Inv z) : HistOk (nxH b hz z r) (nxP b p z r) (nxN b r) := by
  cases b
  · exact h
  · show HistOk (rmH hz z r) (recP p z r) (recN r)
    intro j hj
    unfold recN at hj
    by_cases e : r = 4
    · rw [if_pos e] at hj
      unfold rmH recP
      rw [if_pos e]
      rw [if_pos e]
      by_cases e3 : j = 3
      · subst e3
        rw [if_pos rfl]
        refine ⟨h0, fun i hi => ?_⟩
        simp only [va_cpy]
        rw [if_pos (by omega)]
        exact congrArg _ (by omega)
      · rw [if_neg e3]
        obtain ⟨h1, h2⟩ := h (j + 1) (by omega)
        refine ⟨h1, fun i hi => ?_⟩
        simp only [va_cpy, shP]
        rw [if_neg (by omega), if_pos (by omega), ← h2 i hi]
        exact congrArg _ (by omega)
    · rw [if_neg e] at hj
      unfold rmH recP
      rw [if_neg e, if_neg e]
      by_cases e3 : j = r
      · subst e3
        rw [if_pos rfl]
        refine ⟨h0, fun i hi => ?_⟩
        simp only [va_cpy]
        rw [if_pos (by omega)]
        exact congrArg _ (by omega)
      · rw [if_neg e3]
        obtain ⟨h1, h2⟩ := h j (by omega)
        refine ⟨h1, fun i hi => ?_⟩
        simp only [va_cpy]
        rw [if_neg (by omega)]
        exact h2 i hi
theorem HistOk.le {hz : Nat → Zf} {p : Zf} {r r' : Nat} (h : HistOk hz p r) (hr : r' ≤ r) : HistOk hz p r' := fun j hj => h j (by omega)
theorem hist_un {hz : Nat → Zf} {p z : Zf} {r j : Nat} (h : HistOk hz p r) (hj : j < r) (h0 : Inv z) : va_cpy p z (86 * j) 0 86 = hz j := by
  obtain ⟨h1, h2⟩ := h j hj
  funext i
  simp only [va_cpy]
  by_cases e : i < 86
  · rw [if_pos (by omega), ← h2 i e]
    exact congrArg _ (by omega)
  · rw [if_neg (by omega), h0.2.2 i (by omega), h1.2.2 i (by omega)]
theorem kept_eq {zp kp z : Zf} (h : KeptOk zp kp) (h0 : Inv z) : va_cpy kp z 0 0 86 = zp := by
  funext i
  simp only [va_cpy]
  by_cases e : i < 86
  · rw [if_pos (by omega), ← h.2 i e]
    exact congrArg _ (by omega)
  · rw [if_neg (by omega), h0.2.2 i (by omega), h.1.2.2 i (by omega)]
theorem kept_new {z : Zf} (kp : Zf) (h0 : Inv z) : KeptOk z (va_cpy z kp 0 0 86) := by
  refine ⟨h0, fun i hi => ?_⟩
  simp only [va_cpy]
  rw [if_pos (by omega)]
  exact congrArg _ (by omega)
theorem stf_eq {z : Zf} (sp : Zf) (N : Nat) (h0 : Inv z) : va_cpy (va_cpy z sp 0 0 86) (frZ z N) 0 0 86 = z := by
  have h1 := h0.fr N
  funext i
  simp only [va_cpy]
  by_cases e : i < 86
  · rw [if_pos (by omega), if_pos (by omega)]
    exact congrArg _ (by omega)
  · rw [if_neg (by omega), h0.2.2 i (by omega), h1.2.2 i (by omega)]
theorem Inv.bld {z : Zf} {x : Int32} (h : Inv z) (hb : okB z x = true) : Inv (clrM z x) := by
  simp only [okB, inB, Bool.and_eq_true, decide_eq_true_eq, Bool.not_eq_true', decide_eq_false_iff_not] at hb
  obtain ⟨k, hk, rfl⟩ := nI_of2 (M := 3) (n := 3) (by decide) (Int32.not_lt.mpr hb.1.1) hb.1.2
  exact h.build (by omega) hb.2
theorem Inv.stp {z : Zf} {x : Int32} (h : Inv z) (hv : isV x = true) : Inv (stM z (ix x)) := by
  obtain ⟨v, hv6, rfl⟩ := isV_nat hv
  rw [ix_nI (by omega)]
  exact h.st hv6
theorem Inv.shf {z : Zf} {x : Int32} (h : Inv z) (hx : okH z x = true) : Inv (upd z 61 x) := by
  simp only [okH, Bool.and_eq_true, Bool.not_eq_true', decide_eq_false_iff_not] at hx
  exact h.x hx.1
theorem Inv.prf {z t : Zf} {n : Nat} (hn : n < 2 ^ 31) (h : Inv z) (ho : okP t n = true) : Inv (runZ z (exT t n).1) := by
  simp only [okP, Bool.and_eq_true, decide_eq_true_eq] at ho
  obtain ⟨hO, -, -⟩ := fau_ok hn ho.1
  exact h.run (fun v hv => ex_vis v hv hO)
theorem zI_inv : Inv zI := by
  have t := Inv.clr (z := upd (fun _ => 0) 61 1) (k := 0) (by omega) (pk_un (by omega)) (by rw [pk_us]; decide) (fun j hj => pk_un (by omega))
  exact t
theorem go_ex2 {z : Zf} (h : Inv z) (x : Int32) : ∃ N : Nat, okG z x = true → GoC z (ix x) N := by
  by_cases c : okG z x = true
  · have hv : isV x = true := by
      simp only [okG, Bool.and_eq_true] at c
      exact c.1
    obtain ⟨v, hv6, rfl⟩ := isV_nat hv
    obtain ⟨N, hN⟩ := go_ex hv6 h
    exact ⟨N, fun _ => by rw [ix_nI (by omega)]; exact hN⟩
  · exact ⟨0, fun q => absurd q c⟩
theorem Inv.gox {z : Zf} {x : Int32} (h : Inv z) (hx : okG z x = true) (N : Nat) : Inv (itS z (ix x) N) := by
  have hv : isV x = true := by
    simp only [okG, Bool.and_eq_true] at hx
    exact hx.1
  obtain ⟨v, hv6, rfl⟩ := isV_nat hv
  rw [ix_nI (by omega)]
  exact h.it hv6 N
theorem dr_ok {z : Zf} {x n : Int32} (h : Inv z) (hx : okD x n = true) : DrOk z x (ix n) := by
  obtain ⟨k, hk, h0, e, -⟩ := dr_ex h hx
  subst e
  have key : ∀ j : Nat, ∃ s r v : Nat, 0 < s ∧ s ≤ 6 ∧ bitsM (nI k) 6 = nI s ∧ lotR (nI k) (drZ z (nI k) j 61) = nI r ∧ r < 6 ∧ v < 6 ∧ pickM (nI k) (nI r) 6 = nI v := fun j => lot_ok hk h0 (Inv.dr hk h0 h j).2.1
  refine ⟨?_, fun j _ => ⟨(Inv.dr hk h0 h j).wf, ?_⟩⟩
  · obtain ⟨s, r, v, h1, h2, h3, -⟩ := key 0
    rw [h3]
    exact nI_ne0 h1 (by omega)
  · obtain ⟨s, r, v, h1, h2, h3, h4, h5, h6, h7⟩ := key j
    refine ⟨v, h6, ?_⟩
    unfold lotM
    rw [h4, h7]
theorem or_ex2 {f z : Zf} (h : Inv z) (x y w : Int32) : ∃ J : Nat, okO x y w = true → OrOk f z (ix x) (ix y) J := by
  by_cases c : okO x y w = true
  · have hv : isV x = true ∧ isV y = true := by
      simp only [okO, Bool.and_eq_true] at c
      exact c.1.1
    obtain ⟨a, ha, ea⟩ := isV_nat hv.1
    obtain ⟨b, hb, eb⟩ := isV_nat hv.2
    obtain ⟨J, hJ⟩ := or_ex (f := f) h ha hb
    exact ⟨J, fun _ => by rw [ea, eb, ix_nI (by omega), ix_nI (by omega)]; exact hJ⟩
  · exact ⟨0, fun q => absurd q c⟩
