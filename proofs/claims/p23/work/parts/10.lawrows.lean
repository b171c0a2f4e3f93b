/-! the law's own end, its script, longs -/
def R_law : String := "NudgeLocksLaw"
def lw_P (b : Addr) (xs : List Int32) (args : Array Value) (s : State) : Prop := args = #[.ref b] ∧ s.IntsAt b xs ∧ xs.length ≤ 260 ∧ (Jvm.Cond.and given_1 narrow_1).before args s = true
def lw_Q (_ : Array Value) (s : State) (o : Outcome) (t : State) : Prop := o = .returned (some (.int 1)) ∧ Framed s o t [] 600000 7302250
def lw_Z (below : List Frame) (a : Array Value) (s : State) : State → Prop := fun t => ∃ o, t.status = .running ∧ Ended t below o ∧ lw_Q a s o t
/-- the law's own end, with 1 on the stack, nothing written that was there before, its room as the claim has it -/
theorem lw_ret {p : Program} {l : Launch} {e : Env} {s : State} {m : MethodId} {below : List Frame} {meth : Method} {c : Code} {b : Nat} (hx : p.tables.exec = Jvm.exec) (hb : c.code = code) (hr : meth.sig.returnType = ret) (hlocks : meth.locks = false) {pc : Nat} {H : Heap} {ls : Array Slot} (hdg : decode code pc = .ok (.ireturn, 1)) : W p l e room_1 s m #[Value.ref b] below meth c H [] 600000 7302250 (lw_Z below #[Value.ref b] s) (F0 m pc ls [.int 1]) := by
  intro T hT X
  obtain ⟨fs, hret, hrun, hended, hW, hframe⟩ := X.leave (v := some (.int 1)) (hlocks := hlocks) (fun h => by rw [hr] at h; cases h)
  have hmeth' : T.vm.method? m = some meth := X.method'
  refine ⟨T.setFrames fs, ?_, .returned (some (.int 1)), hrun, hended, rfl, ⟨_, rfl⟩, hW, hframe⟩
  jvm_step X.here [X.here.top, hx, hb, hdg, hmeth', hr, ret, narrow_b1]
  (try refine ⟨rfl, ?_⟩); (try refine ⟨rfl, ?_⟩)
  first | (intro acts; rw [hret _ acts rfl rfl rfl]) | rw [hret _ _ rfl rfl rfl]
  exact Steps.refl _
/-- what holds at the law's entry: the machine, the code, the tables' words (any of lw_tbl by 'hts w (by decide +kernel)'), the script of L ints xs at the cell b, what the Statement gives of the start (any of its parts by flat_of_before) -/
def lw_At (p : Program) (s : State) (m : MethodId) (meth : Method) (c : Code) (b L : Nat) (xs : Nat → Int32) : Prop :=
  p.tables.exec = Jvm.exec ∧ c.code = code ∧ meth.sig.returnType = ret ∧ c.maxLocals = 16 ∧ s.vm.findClass R_law = some m.cls ∧ (∀ w ∈ lw_tbl, w.before #[Value.ref b] s = true) ∧ va_X b L xs s s.heap ∧ b < s.heap.size ∧ meth.locks = false ∧ (Jvm.Cond.and given_1 narrow_1).before #[Value.ref b] s = true
/-- the script, which lies outside all that may change -/
def LX (X : Cx) (b L : Nat) (xs : Nat → Int32) : Prop :=
  match X with
  | (_, _, _, s, _, _, _, _, _, A, _, _) => va_T .int b L (fun j => .int (xs j)) A s s.heap
def LQ (X : Cx) (b : Nat) : Prop :=
  match X with
  | (_, _, R, s, _, args, below, meth, _, A, _, Q) => R = room_1 ∧ args = #[Value.ref b] ∧ Q = lw_Z below #[Value.ref b] s ∧ A = (fun q : Nat => s.heap.size ≤ q) ∧ meth.sig.returnType = ret
section
variable {G : Gx} {X : Cx} {cc : ByteArray} {own : String} {Ts : List Cond} {cells slots : Nat} {ws : va_W} {pc pc' : Nat} {lv : List (Nat × Value)} {st : List Value}
set_option maxHeartbeats 1000000 in
theorem u_sclen (h : CX G X cc own Ts) {b L : Nat} {xs : Nat → Int32} (hLX : LX X b L xs) (hdg : decode cc pc = .ok (.arraylength, 1)) (hpc : pc + 1 = pc') (kk : U G X cells slots ws pc' lv (.int (nI L) :: st)) : U G X cells slots ws pc lv (.ref b :: st) := by
  obtain ⟨p, e, R, s, m, args, below, meth, c, A, nL, Q⟩ := X
  obtain ⟨⟨hx, hb, hml, hown, hts⟩, hE, hA, hlk⟩ := h
  subst hpc
  intro H locs ls hP hD hS hl
  exact va_tlen hx hb hLX hS rfl hdg (kk H locs ls hP hD hS hl)
set_option maxHeartbeats 1000000 in
theorem u_scld (h : CX G X cc own Ts) {b L n : Nat} {xs : Nat → Int32} (hLX : LX X b L xs) (hin : n < L) (hL : L < 2 ^ 20) (hdg : decode cc pc = .ok (.iaload, 1)) (hpc : pc + 1 = pc') (kk : U G X cells slots ws pc' lv (.int (xs n) :: st)) : U G X cells slots ws pc lv (.int (nI n) :: .ref b :: st) := by
  obtain ⟨p, e, R, s, m, args, below, meth, c, A, nL, Q⟩ := X
  obtain ⟨⟨hx, hb, hml, hown, hts⟩, hE, hA, hlk⟩ := h
  subst hpc
  intro H locs ls hP hD hS hl
  exact va_ti hx hb hLX hS (vp_in_nI hin (by omega)) (by rw [nI_clamp (by omega)]) hdg (kk H locs ls hP hD hS hl)
set_option maxHeartbeats 1000000 in
theorem u_lend {b : Nat} (h : CX G X cL_law own Ts) (hq : LQ X b) (h1 : cells ≤ 600000) (h2 : slots ≤ 7302250) (hdg : decode cL_law pc = .ok (.ireturn, 1)) : U G X cells slots ws pc lv [.int 1] := by
  obtain ⟨p, e, R, s, m, args, below, meth, c, A, nL, Q⟩ := X
  obtain ⟨⟨hx, hb, hml, hown, hts⟩, hE, hA, hlk⟩ := h
  obtain ⟨rfl, rfl, rfl, rfl, hr⟩ := hq
  intro H locs ls hP hD hS hl
  refine va_forget (fun q hq => hS.2.2 q hq) ?_
  refine W.widen h1 h2 ?_
  exact lw_ret hx hb hr hlk hdg
set_option maxHeartbeats 1000000 in
theorem u_lload_n (h : CX G X cc own Ts) {k : Fin 4} {i : Nat} {x : Int64} (hdg : decode cc pc = .ok (.lload_n k, 1)) (hi : (k : Nat) = i) (j : Nat) (hj : lv[j]? = some (i, .long x)) (hpc : pc + 1 = pc') (kk : U G X cells slots ws pc' lv (.long x :: st)) : U G X cells slots ws pc lv st := by
  obtain ⟨p, e, R, s, m, args, below, meth, c, A, nL, Q⟩ := X
  obtain ⟨⟨hx, hb, hml, hown, hts⟩, hE, hA, hlk⟩ := h
  subst hpc
  intro H locs ls hP hD hS hl
  exact lv_lload_n hx hb hdg hi (lv_at hl j hj) (kk H locs ls hP hD hS hl)
set_option maxHeartbeats 1000000 in
theorem u_lload (h : CX G X cc own Ts) {i : Nat} {x : Int64} (hdg : decode cc pc = .ok (.lload i, 2)) (j : Nat) (hj : lv[j]? = some (i, .long x)) (hpc : pc + 2 = pc') (kk : U G X cells slots ws pc' lv (.long x :: st)) : U G X cells slots ws pc lv st := by
  obtain ⟨p, e, R, s, m, args, below, meth, c, A, nL, Q⟩ := X
  obtain ⟨⟨hx, hb, hml, hown, hts⟩, hE, hA, hlk⟩ := h
  subst hpc
  intro H locs ls hP hD hS hl
  exact lv_lload hx hb hdg (lv_at hl j hj) (kk H locs ls hP hD hS hl)
set_option maxHeartbeats 1000000 in
theorem u_lstore_n (h : CX G X cc own Ts) {k : Fin 4} {i : Nat} {x : Int64} {lv' : List (Nat × Value)} (hdg : decode cc pc = .ok (.lstore_n k, 1)) (hi : (k : Nat) = i) (hn : i + 1 < gL X) (hl' : (i, Value.long x) :: lv.filter (fun q => !(q.1 == i) && (!(q.1 == i + 1) && !(q.1 + 1 == i && q.2.category == 2))) = lv') (hpc : pc + 1 = pc') (kk : U G X cells slots ws pc' lv' st) : U G X cells slots ws pc lv (Value.long x :: st) := by
  obtain ⟨p, e, R, s, m, args, below, meth, c, A, nL, Q⟩ := X
  obtain ⟨⟨hx, hb, hml, hown, hts⟩, hE, hA, hlk⟩ := h
  subst hpc
  intro H locs ls hP hD hS hl
  exact lv_lstore_n hx hb hdg hi hl hn hl' (fun ls hl => kk H locs ls hP hD hS hl)
set_option maxHeartbeats 1000000 in
theorem u_lstore (h : CX G X cc own Ts) {i : Nat} {x : Int64} {lv' : List (Nat × Value)} (hdg : decode cc pc = .ok (.lstore i, 2)) (hn : i + 1 < gL X) (hl' : (i, Value.long x) :: lv.filter (fun q => !(q.1 == i) && (!(q.1 == i + 1) && !(q.1 + 1 == i && q.2.category == 2))) = lv') (hpc : pc + 2 = pc') (kk : U G X cells slots ws pc' lv' st) : U G X cells slots ws pc lv (Value.long x :: st) := by
  obtain ⟨p, e, R, s, m, args, below, meth, c, A, nL, Q⟩ := X
  obtain ⟨⟨hx, hb, hml, hown, hts⟩, hE, hA, hlk⟩ := h
  subst hpc
  intro H locs ls hP hD hS hl
  exact lv_lstore hx hb hdg hl hn hl' (fun ls hl => kk H locs ls hP hD hS hl)
-- two longs that are the same
set_option maxHeartbeats 1000000 in
theorem u_lcmpE (h : CX G X cc own Ts) {x y : Int64} (e0 : x = y) (hdg : decode cc pc = .ok (.lcmp, 1)) (hpc : pc + 1 = pc') (kk : U G X cells slots ws pc' lv (.int 0 :: st)) : U G X cells slots ws pc lv (.long y :: .long x :: st) := by
  subst e0
  obtain ⟨p, e, R, s, m, args, below, meth, c, A, nL, Q⟩ := X
  obtain ⟨⟨hx, hb, hml, hown, hts⟩, hE, hA, hlk⟩ := h
  subst hpc
  intro H locs ls hP hD hS hl
  refine W.lcmp hx hb hdg ?_
  rw [(lg_cmp_eq x x).mpr rfl]
  exact kk H locs ls hP hD hS hl
set_option maxHeartbeats 1000000 in
theorem u_lret (h : CX G X cc own Ts) {y : MethodName} {wc : va_W} {post : Option Value → va_W → Prop} {mc ms : Nat} {x : Int64} (hR : RT G X y (some .long) wc post mc ms) (hdg : decode cc pc = .ok (.lreturn, 1)) (h1 : cells ≤ mc) (h2 : slots ≤ ms) (hq : post (some (.long x)) ws) : U G X cells slots ws pc lv [.long x] := by
  obtain ⟨p, e, R, s, m, args, below, meth, c, A, nL, Q⟩ := X
  obtain ⟨⟨hx, hb, hml, hown, hts⟩, hE, hA, hlk⟩ := h
  intro H locs ls hP hD hS hl
  obtain ⟨r1, r2, r3, r4⟩ := hR
  subst r4
  refine W.widen h1 h2 ?_
  exact W.lret hx hb r1 (fun t ht hW => ⟨⟨_, ws, rfl, hq, by rw [ht]; exact hP, by rw [← r3]; exact hD⟩, by rw [← r3]; exact hS.F ht⟩) hS.2.2 hdg hlk
-- a call of one of the methods of the law
set_option maxHeartbeats 1000000 in
theorem u_own (h : CX G X cc own Ts) {y : MethodName} {wsy : List Cond} {rm : Room} {As : List Value} {post : Option Value → va_W → Prop} {index n maxL : Nat} {bytes : ByteArray} {ret : Option FieldType} {st0 : List Value} (hM : MC G y wsy rm As ws post 0 0) (hcw : CWd Ts (wsS own index y wsy) y wsy bytes maxL ret n) (hyC : y.cls = own) (hn : As.length = n) (hfit : fitR rm (gR X) maxL 0 0) (hf : cells ≤ (gR X).cells ∧ slots ≤ (gR X).slots) (hroom : (st.map fun v => v.category).sum ≤ 8) (hst : st0 = As.reverse ++ st) (hdg : decode cc pc = .ok (.invokestatic index, 3)) (hpc : pc + 3 = pc') (kk : ∀ (v : Option Value) (u : va_W), post v u → U G X cells slots u pc' lv (v.toList ++ st)) : U G X cells slots ws pc lv st0 := by
  refine u_eqw (ws' := ws ++ []) (List.append_nil ws).symm ?_
  refine u_callSA h (wc := ws) (wr := []) hM hcw hyC hn rfl hfit hf hroom hst hdg hpc (fun v u hp => ?_)
  rw [List.append_nil]
  exact kk v u hp
end
/-! a method that reads the script and nothing else: any cells stay -/
def Ps (G : Gx) (b L : Nat) (xs : Nat → Int32) (av : List Value) (sz : Nat) : Array Value → State → Prop := va_Pc av (fun U => U.heap.size = sz ∧ va_P G.2.1 vwCl [] U.heap ∧ va_D (fun _ => True) [] ∧ Env1 G (va_A [] sz) U ∧ va_T .int b L (fun j => .int (xs j)) (va_A [] sz) U U.heap)
def MS (G : Gx) (b L : Nat) (xs : Nat → Int32) (y : MethodName) (ws : List Cond) (rm : Room) (av : List Value) (post : Option Value → Prop) : Prop := ∀ sz : Nat, Met G.1 y ws rm (Ps G b L xs av sz) (Qm G [] sz (fun v u => post v ∧ u = [])) 0 0 (va_A [] sz)
theorem Ps.blind {G : Gx} {b L : Nat} {xs : Nat → Int32} {av : List Value} {sz : Nat} : FrameBlind (Ps G b L xs av sz) := by
  intro a U g mk h
  obtain ⟨h0, h1, h2, h3, ⟨h4, ⟨n0, n1, n2, n3⟩, h5, h6, h7, h8⟩, h9⟩ := h
  exact ⟨h0, h1, h2, h3, ⟨va_K.moved (u := U) (U := U.calling g mk a) (Vm.Alike.refl U.vm) h4, ⟨va_Nw.same (u := U) rfl rfl n0, va_Nw.same (u := U) rfl rfl n1, va_Nw.same (u := U) rfl rfl n2, va_Nw.same (u := U) rfl rfl n3⟩, va_Z.moved (u := U) (U := U.calling g mk a) (Vm.Alike.refl U.vm) h5, va_T.moved (u := U) (U := U.calling g mk a) (Vm.Alike.refl U.vm) h6, va_AO.moved (u := U) (U := U.calling g mk a) (Vm.Alike.refl U.vm) h7, va_AO.moved (u := U) (U := U.calling g mk a) (Vm.Alike.refl U.vm) h8⟩, va_T.moved (u := U) (U := U.calling g mk a) (Vm.Alike.refl U.vm) h9⟩
theorem ms_of {G : Gx} {b L : Nat} {xs : Nat → Int32} {y : MethodName} {ws ws' : List Cond} {rm : Room} {av : List Value} {post : Option Value → Prop} {cc : ByteArray} {maxL : Nat} {ret : Option FieldType} (hy : plainName y.cls = true) (hw : ws = Cond.code y cc maxL ret :: ws') (hlen : (lg_sl av).length ≤ maxL)
    (body : ∀ X : Cx, CX G X cc y.cls ws → gR X = rm → gL X = maxL → RT G X y ret [] (fun v u => post v ∧ u = []) 0 0 → LX X b L xs → U G X 0 0 [] 0 (lv_args 0 av) []) : MS G b L xs y ws rm av post := by
  intro sz
  refine Met.ofW (cc := cc) (maxL := maxL) (ret := ret) hy hw ?_
  intro p e s m args below meth c s₁ B hml hv
  obtain ⟨rfl, hsz, hP, hD0, hE, hX⟩ := hv
  subst hsz
  have hD := hD0.self (sz := s.heap.size)
  have hts := atoms_spec (ws := ws) B.pre
  have hown : s.vm.findClass y.cls = some m.cls := findClass_of_methodNamed B.named
  have hU := body (p, e, (headSpec ws rm).room, s, m, av.toArray, below, meth, c, va_A [] s.heap.size, maxL, MQ below (Qm G [] s.heap.size (fun v u => post v ∧ u = [])) av.toArray s 0 0 (va_A [] s.heap.size)) ⟨⟨B.exec, B.bytes, hml, hown, hts⟩, hE, fun q h => Or.inr h, B.notSynchronized⟩ rfl rfl ⟨B.returns, (name_of_methodNamed B.named B.method).1, rfl, rfl⟩ hX
  have hl := lv_entry av (n := maxL) hlen
  rw [lg_entry_eq]
  exact hU s.heap [] _ hP hD va_S.rf hl
set_option maxHeartbeats 1000000 in
theorem u_ownS {G : Gx} {X : Cx} {cc : ByteArray} {own : String} {Ts : List Cond} {cells slots : Nat} {ws : va_W} {pc pc' : Nat} {lv : List (Nat × Value)} {st : List Value} (h : CX G X cc own Ts) {b L : Nat} {xs : Nat → Int32} (hLX : LX X b L xs) {y : MethodName} {wsy : List Cond} {rm : Room} {As : List Value} {post : Option Value → Prop} {index n maxL : Nat} {bytes : ByteArray} {ret : Option FieldType} {st0 : List Value} (hM : MS G b L xs y wsy rm As post) (hcw : CWd Ts (wsS own index y wsy) y wsy bytes maxL ret n) (hyC : y.cls = own) (hn : As.length = n) (hfit : fitR rm (gR X) maxL 0 0) (hf : cells ≤ (gR X).cells ∧ slots ≤ (gR X).slots) (hroom : (st.map fun v => v.category).sum ≤ 8) (hst : st0 = As.reverse ++ st) (hdg : decode cc pc = .ok (.invokestatic index, 3)) (hpc : pc + 3 = pc') (kk : ∀ (v : Option Value), post v → U G X cells slots ws pc' lv (v.toList ++ st)) : U G X cells slots ws pc lv st0 := by
  obtain ⟨p, e, R, s, m, args, below, meth, c, A, nL, Q⟩ := X
  obtain ⟨⟨hx, hb, hml, hown, hts⟩, hE, hA, hlk⟩ := h
  subst hpc
  intro H locs ls hP hD hS hl
  subst hst
  obtain ⟨c1, ⟨ws', c2⟩, c3, c4, c5⟩ := hcw
  have hFc := va_free (wc := []) hD hS hA [] rfl
  have hPc : va_P G.2.1 vwCl [] H := hP.sub (ws' := []) [] rfl
  have hDc : va_D (fun _ => True) ([] : va_W) := (hD.sub (ws' := []) [] rfl rfl).weaken (fun _ _ _ _ => trivial)
  have hrg : (List.range ws.length).map (fun i => ws[i]?) = ws.map some := by
    have t := rng_l ws []
    rwa [List.append_nil] at t
  refine u_after (va_runS (As := As) (rest := st) ⟨hx, hb, hml, hown, hts⟩ (hM H.size) (cwS n hts c1 c2 hfit.1.1 hfit.1.2 ⟨hyC, c4, c5, c3⟩ hfit.2) ⟨Ps.blind, fun U hU hW => ⟨rfl, by rw [hU], by rw [hU]; exact hPc, hDc, Env1.moved hE hS hW hU hFc, by rw [hU]; exact (((hLX.kept hS.2.1).narrow hFc).moved hW.alike)⟩⟩ rfl hn hl.1 rfl (lv_room hroom) hdg hf) hS hFc (fun v u H1 locs1 hp hP1 hD1 hk1 hS1 => ?_)
  obtain ⟨hp1, rfl⟩ := hp
  obtain ⟨hP2, hD2⟩ := va_join (wr := ws) (w1 := []) hP hD [] (List.range ws.length) rfl hrg (nd_iff _ List.nodup_range) (fun i _ h9 => absurd h9 List.not_mem_nil) hk1 hFc hP1 hD1
  rw [List.append_nil] at hP2 hD2
  exact kk v hp1 H1 locs1 ls hP2 hD2 hS1 hl
