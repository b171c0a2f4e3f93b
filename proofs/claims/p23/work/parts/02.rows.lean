/-! The state of a walk in one predicate: U G X cells slots ws pc lv st. G: launch, tables, kinds of arrays, the address of FAR_TOUCHES. X: the rest of a method's run. -/
abbrev Gx : Type := Launch × va_G × (Nat → ClassId) × Nat
abbrev aI (G : Gx) (n : Nat) (f : Nat → Int32) : va_E := .inl (G.2.2.1 0, n, .inl f)
abbrev aB (G : Gx) (n : Nat) (f : Nat → Int32) : va_E := .inl (G.2.2.1 1, n, .inl f)
abbrev aC (G : Gx) (n : Nat) (f : Nat → Int32) : va_E := .inl (G.2.2.1 2, n, .inl f)
abbrev aL (G : Gx) (n : Nat) (f : Nat → Option Nat) : va_E := .inl (G.2.2.1 3, n, .inr (.inr (.inr (.inr f))))
abbrev aS (G : Gx) (n : Nat) (f : Nat → Option Nat) : va_E := .inl (G.2.2.1 4, n, .inr (.inr (.inr (.inr f))))
def tysOf (ty : Nat → ClassId) : List (ClassId × FieldType) := [(ty 0, .int), (ty 1, .byte), (ty 2, .char), (ty 3, .object "NudgeLocks$Lock"), (ty 4, .object "NudgeLocks$State")]
def farT (j : Nat) : Int32 := [0, 1, 1, 0, 0, 1, 0, 1, 0, 1, 0, 1, 0, 0, 0, 0, 1, 0, 0, 1, 1, 0, 0, 0, 0, 0, 0, 1, 1, 0, 0, 0].getD j (0 : Int32)
abbrev nw0 : Cond := .fieldLinkNest "NudgeLocks" 62 "NudgeLocks$State" "lock" "LNudgeLocks$Lock;" "NudgeLocks"
abbrev nw1 : Cond := .fieldLinkNest "NudgeLocks" 98 "NudgeLocks$State" "x" "I" "NudgeLocks"
abbrev nw2 : Cond := .methodLinkNest "NudgeLocks$Lock" 29 ⟨"NudgeLocks", "isCard", "(I)Z"⟩ "NudgeLocks"
abbrev nw3 : Cond := .methodLinkNest "NudgeLocks$Lock" 74 ⟨"NudgeLocks", "isVisitor", "(I)Z"⟩ "NudgeLocks"
def Env1 (G : Gx) (A : Nat → Prop) (U : State) : Prop := va_K G.2.1 vwCl (tysOf G.2.2.1) U ∧ (va_Nw nw0 U ∧ va_Nw nw1 U ∧ va_Nw nw2 U ∧ va_Nw nw3 U) ∧ va_Z "NudgeLocks$Lock" "FAR_TOUCHES" "[I" (.ref G.2.2.2) A U U.heap ∧ va_T .int G.2.2.2 32 (fun j => .int (farT j)) A U U.heap ∧ va_AO "NudgeLocks$Lock" U ∧ va_AO "NudgeLocks$State" U
def Qm (G : Gx) (wc : va_W) (sz : Nat) (post : Option Value → va_W → Prop) : Array Value → State → Outcome → State → Prop := fun _ st o t => (∃ (v : Option Value) (u : va_W), o = .returned v ∧ post v u ∧ va_P G.2.1 vwCl u t.heap ∧ va_D (va_A wc sz) u) ∧ va_F (va_A wc sz) st t
def Pm (G : Gx) (av : List Value) (wc : va_W) (sz : Nat) : Array Value → State → Prop := va_Pc av (fun U => U.heap.size = sz ∧ va_P G.2.1 vwCl wc U.heap ∧ va_D (fun _ => True) wc ∧ Env1 G (va_A wc sz) U)
/-- a contract in the one form of this proof: from the cells wc it answers v and leaves the cells u with 'post v u' -/
def MC (G : Gx) (y : MethodName) (ws : List Cond) (rm : Room) (av : List Value) (wc : va_W) (post : Option Value → va_W → Prop) (mc ms : Nat) : Prop := ∀ sz : Nat, Met G.1 y ws rm (Pm G av wc sz) (Qm G wc sz post) mc ms (va_A wc sz)
/-- the answer and the cells behind are known -/
abbrev MF (G : Gx) (y : MethodName) (ws : List Cond) (rm : Room) (av : List Value) (wc : va_W) (v : Option Value) (u : va_W) : Prop := MC G y ws rm av wc (fun v' u' => v' = v ∧ u' = u) 0 0
abbrev Cx : Type := Program × Env × Room × State × MethodId × Array Value × List Frame × Method × Code × (Nat → Prop) × Nat × (State → Prop)
def gR (X : Cx) : Room := X.2.2.1
def gL (X : Cx) : Nat := X.2.2.2.2.2.2.2.2.2.2.1
def U (G : Gx) (X : Cx) (cells slots : Nat) (ws : va_W) (pc : Nat) (lv : List (Nat × Value)) (st : List Value) : Prop :=
  match X with
  | (p, e, R, s, m, args, below, meth, c, A, nL, Q) => ∀ (H : Heap) (locs : List Loc) (ls : Array Slot), va_P G.2.1 vwCl ws H → va_D A ws → va_S A s.heap H locs → lv_has ls nL lv → W p G.1 e R s m args below meth c H locs cells slots Q (F0 m pc ls st)
def CX (G : Gx) (X : Cx) (cc : ByteArray) (own : String) (Ts : List Cond) : Prop :=
  match X with
  | (p, _, _, s, m, args, _, meth, c, A, nL, _) => CallFix p m c cc nL s args Ts own ∧ Env1 G A s ∧ (∀ q : Nat, s.heap.size ≤ q → A q) ∧ meth.locks = false
def RT (G : Gx) (X : Cx) (y : MethodName) (ret : Option FieldType) (wc : va_W) (post : Option Value → va_W → Prop) (mc ms : Nat) : Prop :=
  match X with
  | (_, _, _, s, _, args, below, meth, _, A, _, Q) => meth.sig.returnType = ret ∧ meth.name = y.name ∧ A = va_A wc s.heap.size ∧ Q = MQ below (Qm G wc s.heap.size post) args s mc ms A
theorem Env1.moved {G : Gx} {A B : Nat → Prop} {s U : State} {H : Heap} {locs : List Loc} (h : Env1 G A s) (hS : va_S A s.heap H locs) (hW : s.WarmedH U.vm) (hU : U.heap = H) (hAB : ∀ q, B q → A q) : Env1 G B U := by
  obtain ⟨h1, ⟨n0, n1, n2, n3⟩, h3, h4, h5, h6⟩ := h
  refine ⟨va_K.moved hW.alike h1, ⟨va_Nw.warmF hW n0, va_Nw.warmF hW n1, va_Nw.warmM hW n2, va_Nw.warmM hW n3⟩, ?_, ?_, h5.moved hW.alike, h6.moved hW.alike⟩
  · rw [hU]
    exact (((h3.kept hS.2.1).narrow hAB).moved hW.alike)
  · rw [hU]
    exact (((h4.kept hS.2.1).narrow hAB).moved hW.alike)
theorem Pm.blind {G : Gx} {av : List Value} {wc : va_W} {sz : Nat} : FrameBlind (Pm G av wc sz) := by
  intro a U g mk h
  obtain ⟨h0, h1, h2, h3, h4, ⟨n0, n1, n2, n3⟩, h5, h6, h7, h8⟩ := h
  exact ⟨h0, h1, h2, h3, va_K.moved (u := U) (U := U.calling g mk a) (Vm.Alike.refl U.vm) h4, ⟨va_Nw.same (u := U) rfl rfl n0, va_Nw.same (u := U) rfl rfl n1, va_Nw.same (u := U) rfl rfl n2, va_Nw.same (u := U) rfl rfl n3⟩, va_Z.moved (u := U) (U := U.calling g mk a) (Vm.Alike.refl U.vm) h5, va_T.moved (u := U) (U := U.calling g mk a) (Vm.Alike.refl U.vm) h6, va_AO.moved (u := U) (U := U.calling g mk a) (Vm.Alike.refl U.vm) h7, va_AO.moved (u := U) (U := U.calling g mk a) (Vm.Alike.refl U.vm) h8⟩
theorem mc_of {G : Gx} {y : MethodName} {ws ws' : List Cond} {rm : Room} {av : List Value} {wc : va_W} {post : Option Value → va_W → Prop} {mc ms : Nat} {cc : ByteArray} {maxL : Nat} {ret : Option FieldType} (hy : plainName y.cls = true) (hw : ws = Cond.code y cc maxL ret :: ws') (hlen : (lg_sl av).length ≤ maxL)
    (body : ∀ X : Cx, CX G X cc y.cls ws → gR X = rm → gL X = maxL → RT G X y ret wc post mc ms → U G X 0 0 wc 0 (lv_args 0 av) []) : MC G y ws rm av wc post mc ms := by
  intro sz
  refine Met.ofW (cc := cc) (maxL := maxL) (ret := ret) hy hw ?_
  intro p e s m args below meth c s₁ B hml hv
  obtain ⟨rfl, hsz, hP, hD0, hE⟩ := hv
  subst hsz
  have hD := hD0.self (sz := s.heap.size)
  have hts := atoms_spec (ws := ws) B.pre
  have hown : s.vm.findClass y.cls = some m.cls := findClass_of_methodNamed B.named
  have hU := body (p, e, (headSpec ws rm).room, s, m, av.toArray, below, meth, c, va_A wc s.heap.size, maxL, MQ below (Qm G wc s.heap.size post) av.toArray s mc ms (va_A wc s.heap.size)) ⟨⟨B.exec, B.bytes, hml, hown, hts⟩, hE, fun q h => Or.inr h, B.notSynchronized⟩ rfl rfl ⟨B.returns, (name_of_methodNamed B.named B.method).1, rfl, rfl⟩
  have hl := lv_entry av (n := maxL) hlen
  rw [lg_entry_eq]
  exact hU s.heap [] _ hP hD va_S.rf hl
section
variable {G : Gx} {X : Cx} {cc : ByteArray} {own : String} {Ts : List Cond} {cells slots : Nat} {ws : va_W} {pc pc' : Nat} {lv : List (Nat × Value)} {st : List Value} {st0 : List Value}
set_option maxHeartbeats 1000000 in
theorem u_iconst (h : CX G X cc own Ts) {n : Int} {v : Int32} (hdg : decode cc pc = .ok (.iconst n, 1)) (hv : Int32.ofInt n = v) (hpc : pc + 1 = pc') (kk : U G X cells slots ws pc' lv (.int v :: st)) : U G X cells slots ws pc lv st := by
  obtain ⟨p, e, R, s, m, args, below, meth, c, A, nL, Q⟩ := X
  obtain ⟨⟨hx, hb, hml, hown, hts⟩, hE, hA, hlk⟩ := h
  subst hpc
  intro H locs ls hP hD hS hl
  exact lv_iconst hx hb hdg hv (kk H locs ls hP hD hS hl)

set_option maxHeartbeats 1000000 in
theorem u_bipush (h : CX G X cc own Ts) {n : Int} {v : Int32} (hdg : decode cc pc = .ok (.bipush n, 2)) (hv : (Int8.ofInt n).toInt32 = v) (hpc : pc + 2 = pc') (kk : U G X cells slots ws pc' lv (.int v :: st)) : U G X cells slots ws pc lv st := by
  obtain ⟨p, e, R, s, m, args, below, meth, c, A, nL, Q⟩ := X
  obtain ⟨⟨hx, hb, hml, hown, hts⟩, hE, hA, hlk⟩ := h
  subst hpc
  intro H locs ls hP hD hS hl
  exact lv_bipush hx hb hdg hv (kk H locs ls hP hD hS hl)

set_option maxHeartbeats 1000000 in
theorem u_sipush (h : CX G X cc own Ts) {n : Int} {v : Int32} (hdg : decode cc pc = .ok (.sipush n, 3)) (hv : (Int16.ofInt n).toInt32 = v) (hpc : pc + 3 = pc') (kk : U G X cells slots ws pc' lv (.int v :: st)) : U G X cells slots ws pc lv st := by
  obtain ⟨p, e, R, s, m, args, below, meth, c, A, nL, Q⟩ := X
  obtain ⟨⟨hx, hb, hml, hown, hts⟩, hE, hA, hlk⟩ := h
  subst hpc
  intro H locs ls hP hD hS hl
  exact lv_sipush hx hb hdg hv (kk H locs ls hP hD hS hl)

set_option maxHeartbeats 1000000 in
theorem u_ldc (h : CX G X cc own Ts) {index : Nat} {v : Int32} (hdg : decode cc pc = .ok (.ldc index, 2)) (hw : Cond.constant own index v ∈ Ts) (hpc : pc + 2 = pc') (kk : U G X cells slots ws pc' lv (.int v :: st)) : U G X cells slots ws pc lv st := by
  obtain ⟨p, e, R, s, m, args, below, meth, c, A, nL, Q⟩ := X
  obtain ⟨⟨hx, hb, hml, hown, hts⟩, hE, hA, hlk⟩ := h
  subst hpc
  intro H locs ls hP hD hS hl
  exact lv_ldc hx hb hown (hts _ hw) hdg (kk H locs ls hP hD hS hl)

set_option maxHeartbeats 1000000 in
theorem u_ldc2 (h : CX G X cc own Ts) {index : Nat} {v : Int64} (hdg : decode cc pc = .ok (.ldc2_w index, 3)) (hw : Cond.constantLong own index v ∈ Ts) (hpc : pc + 3 = pc') (kk : U G X cells slots ws pc' lv (.long v :: st)) : U G X cells slots ws pc lv st := by
  obtain ⟨p, e, R, s, m, args, below, meth, c, A, nL, Q⟩ := X
  obtain ⟨⟨hx, hb, hml, hown, hts⟩, hE, hA, hlk⟩ := h
  subst hpc
  intro H locs ls hP hD hS hl
  exact lv_ldc2 hx hb hown (hts _ hw) hdg (kk H locs ls hP hD hS hl)

set_option maxHeartbeats 1000000 in
theorem u_ldc_w (h : CX G X cc own Ts) {index : Nat} {v : Int32} (hdg : decode cc pc = .ok (.ldc_w index, 3)) (hw : Cond.constant own index v ∈ Ts) (hpc : pc + 3 = pc') (kk : U G X cells slots ws pc' lv (.int v :: st)) : U G X cells slots ws pc lv st := by
  obtain ⟨p, e, R, s, m, args, below, meth, c, A, nL, Q⟩ := X
  obtain ⟨⟨hx, hb, hml, hown, hts⟩, hE, hA, hlk⟩ := h
  subst hpc
  intro H locs ls hP hD hS hl
  exact lv_ldcw hx hb hown (hts _ hw) hdg (kk H locs ls hP hD hS hl)

set_option maxHeartbeats 1000000 in
theorem u_iload_n (h : CX G X cc own Ts) {k : Fin 4} {i : Nat} {x : Int32} (hdg : decode cc pc = .ok (.iload_n k, 1)) (hi : (k : Nat) = i) (j : Nat) (hj : lv[j]? = some (i, .int x)) (hpc : pc + 1 = pc') (kk : U G X cells slots ws pc' lv (.int x :: st)) : U G X cells slots ws pc lv st := by
  obtain ⟨p, e, R, s, m, args, below, meth, c, A, nL, Q⟩ := X
  obtain ⟨⟨hx, hb, hml, hown, hts⟩, hE, hA, hlk⟩ := h
  subst hpc
  intro H locs ls hP hD hS hl
  exact lv_iload_n hx hb hdg hi (lv_at hl j hj) (kk H locs ls hP hD hS hl)

set_option maxHeartbeats 1000000 in
theorem u_iload (h : CX G X cc own Ts) {i : Nat} {x : Int32} (hdg : decode cc pc = .ok (.iload i, 2)) (j : Nat) (hj : lv[j]? = some (i, .int x)) (hpc : pc + 2 = pc') (kk : U G X cells slots ws pc' lv (.int x :: st)) : U G X cells slots ws pc lv st := by
  obtain ⟨p, e, R, s, m, args, below, meth, c, A, nL, Q⟩ := X
  obtain ⟨⟨hx, hb, hml, hown, hts⟩, hE, hA, hlk⟩ := h
  subst hpc
  intro H locs ls hP hD hS hl
  exact lv_iload hx hb hdg (lv_at hl j hj) (kk H locs ls hP hD hS hl)

set_option maxHeartbeats 1000000 in
theorem u_aload_n (h : CX G X cc own Ts) {k : Fin 4} {i : Nat} {x : Nat} (hdg : decode cc pc = .ok (.aload_n k, 1)) (hi : (k : Nat) = i) (j : Nat) (hj : lv[j]? = some (i, .ref x)) (hpc : pc + 1 = pc') (kk : U G X cells slots ws pc' lv (.ref x :: st)) : U G X cells slots ws pc lv st := by
  obtain ⟨p, e, R, s, m, args, below, meth, c, A, nL, Q⟩ := X
  obtain ⟨⟨hx, hb, hml, hown, hts⟩, hE, hA, hlk⟩ := h
  subst hpc
  intro H locs ls hP hD hS hl
  exact lv_aload_n hx hb hdg hi (lv_at hl j hj) (kk H locs ls hP hD hS hl)

set_option maxHeartbeats 1000000 in
theorem u_aload (h : CX G X cc own Ts) {i : Nat} {x : Nat} (hdg : decode cc pc = .ok (.aload i, 2)) (j : Nat) (hj : lv[j]? = some (i, .ref x)) (hpc : pc + 2 = pc') (kk : U G X cells slots ws pc' lv (.ref x :: st)) : U G X cells slots ws pc lv st := by
  obtain ⟨p, e, R, s, m, args, below, meth, c, A, nL, Q⟩ := X
  obtain ⟨⟨hx, hb, hml, hown, hts⟩, hE, hA, hlk⟩ := h
  subst hpc
  intro H locs ls hP hD hS hl
  exact lv_aload hx hb hdg (lv_at hl j hj) (kk H locs ls hP hD hS hl)

set_option maxHeartbeats 1000000 in
theorem u_aload_nN (h : CX G X cc own Ts) {k : Fin 4} {i : Nat} (hdg : decode cc pc = .ok (.aload_n k, 1)) (hi : (k : Nat) = i) (j : Nat) (hj : lv[j]? = some (i, .null)) (hpc : pc + 1 = pc') (kk : U G X cells slots ws pc' lv (.null :: st)) : U G X cells slots ws pc lv st := by
  obtain ⟨p, e, R, s, m, args, below, meth, c, A, nL, Q⟩ := X
  obtain ⟨⟨hx, hb, hml, hown, hts⟩, hE, hA, hlk⟩ := h
  subst hpc
  intro H locs ls hP hD hS hl
  exact lv_aload_nN hx hb hdg hi (lv_at hl j hj) (kk H locs ls hP hD hS hl)

set_option maxHeartbeats 1000000 in
theorem u_aloadN (h : CX G X cc own Ts) {i : Nat} (hdg : decode cc pc = .ok (.aload i, 2)) (j : Nat) (hj : lv[j]? = some (i, .null)) (hpc : pc + 2 = pc') (kk : U G X cells slots ws pc' lv (.null :: st)) : U G X cells slots ws pc lv st := by
  obtain ⟨p, e, R, s, m, args, below, meth, c, A, nL, Q⟩ := X
  obtain ⟨⟨hx, hb, hml, hown, hts⟩, hE, hA, hlk⟩ := h
  subst hpc
  intro H locs ls hP hD hS hl
  exact lv_aloadN hx hb hdg (lv_at hl j hj) (kk H locs ls hP hD hS hl)

set_option maxHeartbeats 1000000 in
theorem u_istore_n (h : CX G X cc own Ts) {k : Fin 4} {i : Nat} {x : Int32} {lv' : List (Nat × Value)} (hdg : decode cc pc = .ok (.istore_n k, 1)) (hi : (k : Nat) = i) (hn : i < gL X) (hl' : (i, Value.int x) :: lv.filter (fun q => !(q.1 == i) && !(q.1 + 1 == i && q.2.category == 2)) = lv') (hpc : pc + 1 = pc') (kk : U G X cells slots ws pc' lv' st) : U G X cells slots ws pc lv (Value.int x :: st) := by
  obtain ⟨p, e, R, s, m, args, below, meth, c, A, nL, Q⟩ := X
  obtain ⟨⟨hx, hb, hml, hown, hts⟩, hE, hA, hlk⟩ := h
  subst hpc
  intro H locs ls hP hD hS hl
  exact lv_istore_n hx hb hdg hi hl hn hl' (fun ls hl => kk H locs ls hP hD hS hl)

set_option maxHeartbeats 1000000 in
theorem u_istore (h : CX G X cc own Ts) {i : Nat} {x : Int32} {lv' : List (Nat × Value)} (hdg : decode cc pc = .ok (.istore i, 2)) (hn : i < gL X) (hl' : (i, Value.int x) :: lv.filter (fun q => !(q.1 == i) && !(q.1 + 1 == i && q.2.category == 2)) = lv') (hpc : pc + 2 = pc') (kk : U G X cells slots ws pc' lv' st) : U G X cells slots ws pc lv (Value.int x :: st) := by
  obtain ⟨p, e, R, s, m, args, below, meth, c, A, nL, Q⟩ := X
  obtain ⟨⟨hx, hb, hml, hown, hts⟩, hE, hA, hlk⟩ := h
  subst hpc
  intro H locs ls hP hD hS hl
  exact lv_istore hx hb hdg hl hn hl' (fun ls hl => kk H locs ls hP hD hS hl)

set_option maxHeartbeats 1000000 in
theorem u_astore_n (h : CX G X cc own Ts) {k : Fin 4} {i : Nat} {x : Nat} {lv' : List (Nat × Value)} (hdg : decode cc pc = .ok (.astore_n k, 1)) (hi : (k : Nat) = i) (hn : i < gL X) (hl' : (i, Value.ref x) :: lv.filter (fun q => !(q.1 == i) && !(q.1 + 1 == i && q.2.category == 2)) = lv') (hpc : pc + 1 = pc') (kk : U G X cells slots ws pc' lv' st) : U G X cells slots ws pc lv (Value.ref x :: st) := by
  obtain ⟨p, e, R, s, m, args, below, meth, c, A, nL, Q⟩ := X
  obtain ⟨⟨hx, hb, hml, hown, hts⟩, hE, hA, hlk⟩ := h
  subst hpc
  intro H locs ls hP hD hS hl
  exact lv_astore_n hx hb hdg hi hl hn hl' (fun ls hl => kk H locs ls hP hD hS hl)

set_option maxHeartbeats 1000000 in
theorem u_astore (h : CX G X cc own Ts) {i : Nat} {x : Nat} {lv' : List (Nat × Value)} (hdg : decode cc pc = .ok (.astore i, 2)) (hn : i < gL X) (hl' : (i, Value.ref x) :: lv.filter (fun q => !(q.1 == i) && !(q.1 + 1 == i && q.2.category == 2)) = lv') (hpc : pc + 2 = pc') (kk : U G X cells slots ws pc' lv' st) : U G X cells slots ws pc lv (Value.ref x :: st) := by
  obtain ⟨p, e, R, s, m, args, below, meth, c, A, nL, Q⟩ := X
  obtain ⟨⟨hx, hb, hml, hown, hts⟩, hE, hA, hlk⟩ := h
  subst hpc
  intro H locs ls hP hD hS hl
  exact lv_astore hx hb hdg hl hn hl' (fun ls hl => kk H locs ls hP hD hS hl)

set_option maxHeartbeats 1000000 in
theorem u_astore_nN (h : CX G X cc own Ts) {k : Fin 4} {i : Nat} {lv' : List (Nat × Value)} (hdg : decode cc pc = .ok (.astore_n k, 1)) (hi : (k : Nat) = i) (hn : i < gL X) (hl' : (i, Value.null) :: lv.filter (fun q => !(q.1 == i) && !(q.1 + 1 == i && q.2.category == 2)) = lv') (hpc : pc + 1 = pc') (kk : U G X cells slots ws pc' lv' st) : U G X cells slots ws pc lv (Value.null :: st) := by
  obtain ⟨p, e, R, s, m, args, below, meth, c, A, nL, Q⟩ := X
  obtain ⟨⟨hx, hb, hml, hown, hts⟩, hE, hA, hlk⟩ := h
  subst hpc
  intro H locs ls hP hD hS hl
  exact lv_astore_nN hx hb hdg hi hl hn hl' (fun ls hl => kk H locs ls hP hD hS hl)

set_option maxHeartbeats 1000000 in
theorem u_astoreN (h : CX G X cc own Ts) {i : Nat} {lv' : List (Nat × Value)} (hdg : decode cc pc = .ok (.astore i, 2)) (hn : i < gL X) (hl' : (i, Value.null) :: lv.filter (fun q => !(q.1 == i) && !(q.1 + 1 == i && q.2.category == 2)) = lv') (hpc : pc + 2 = pc') (kk : U G X cells slots ws pc' lv' st) : U G X cells slots ws pc lv (Value.null :: st) := by
  obtain ⟨p, e, R, s, m, args, below, meth, c, A, nL, Q⟩ := X
  obtain ⟨⟨hx, hb, hml, hown, hts⟩, hE, hA, hlk⟩ := h
  subst hpc
  intro H locs ls hP hD hS hl
  exact lv_astoreN hx hb hdg hl hn hl' (fun ls hl => kk H locs ls hP hD hS hl)

set_option maxHeartbeats 1000000 in
theorem u_iinc (h : CX G X cc own Ts) {i k : Nat} {n : Int} {x v : Int32} {lv' : List (Nat × Value)} (hdg : decode cc pc = .ok (.iinc i n, 3)) (hk : lv[k]? = some (i, .int x)) (hv : x + Int32.ofInt n = v) (hn : i < gL X) (hl' : (i, Value.int v) :: lv.filter (fun q => !(q.1 == i) && !(q.1 + 1 == i && q.2.category == 2)) = lv') (hpc : pc + 3 = pc') (kk : U G X cells slots ws pc' lv' st) : U G X cells slots ws pc lv st := by
  obtain ⟨p, e, R, s, m, args, below, meth, c, A, nL, Q⟩ := X
  obtain ⟨⟨hx, hb, hml, hown, hts⟩, hE, hA, hlk⟩ := h
  subst hpc
  intro H locs ls hP hD hS hl
  exact lv_iinc hx hb hdg hl hk hv hn hl' (fun ls hl => kk H locs ls hP hD hS hl)

set_option maxHeartbeats 1000000 in
theorem u_iadd (h : CX G X cc own Ts) {x y v : Int32} (hdg : decode cc pc = .ok (.iadd, 1)) (hv : x + y = v) (hpc : pc + 1 = pc') (kk : U G X cells slots ws pc' lv (.int v :: st)) : U G X cells slots ws pc lv (.int y :: .int x :: st) := by
  obtain ⟨p, e, R, s, m, args, below, meth, c, A, nL, Q⟩ := X
  obtain ⟨⟨hx, hb, hml, hown, hts⟩, hE, hA, hlk⟩ := h
  subst hpc
  intro H locs ls hP hD hS hl
  subst hv
  exact lv_iadd hx hb hdg (kk H locs ls hP hD hS hl)

set_option maxHeartbeats 1000000 in
theorem u_isub (h : CX G X cc own Ts) {x y v : Int32} (hdg : decode cc pc = .ok (.isub, 1)) (hv : x - y = v) (hpc : pc + 1 = pc') (kk : U G X cells slots ws pc' lv (.int v :: st)) : U G X cells slots ws pc lv (.int y :: .int x :: st) := by
  obtain ⟨p, e, R, s, m, args, below, meth, c, A, nL, Q⟩ := X
  obtain ⟨⟨hx, hb, hml, hown, hts⟩, hE, hA, hlk⟩ := h
  subst hpc
  intro H locs ls hP hD hS hl
  subst hv
  exact lv_isub hx hb hdg (kk H locs ls hP hD hS hl)

set_option maxHeartbeats 1000000 in
theorem u_imul (h : CX G X cc own Ts) {x y v : Int32} (hdg : decode cc pc = .ok (.imul, 1)) (hv : x * y = v) (hpc : pc + 1 = pc') (kk : U G X cells slots ws pc' lv (.int v :: st)) : U G X cells slots ws pc lv (.int y :: .int x :: st) := by
  obtain ⟨p, e, R, s, m, args, below, meth, c, A, nL, Q⟩ := X
  obtain ⟨⟨hx, hb, hml, hown, hts⟩, hE, hA, hlk⟩ := h
  subst hpc
  intro H locs ls hP hD hS hl
  subst hv
  exact lv_imul hx hb hdg (kk H locs ls hP hD hS hl)

set_option maxHeartbeats 1000000 in
theorem u_iand (h : CX G X cc own Ts) {x y v : Int32} (hdg : decode cc pc = .ok (.iand, 1)) (hv : x &&& y = v) (hpc : pc + 1 = pc') (kk : U G X cells slots ws pc' lv (.int v :: st)) : U G X cells slots ws pc lv (.int y :: .int x :: st) := by
  obtain ⟨p, e, R, s, m, args, below, meth, c, A, nL, Q⟩ := X
  obtain ⟨⟨hx, hb, hml, hown, hts⟩, hE, hA, hlk⟩ := h
  subst hpc
  intro H locs ls hP hD hS hl
  subst hv
  exact lv_iand hx hb hdg (kk H locs ls hP hD hS hl)

set_option maxHeartbeats 1000000 in
theorem u_ior (h : CX G X cc own Ts) {x y v : Int32} (hdg : decode cc pc = .ok (.ior, 1)) (hv : x ||| y = v) (hpc : pc + 1 = pc') (kk : U G X cells slots ws pc' lv (.int v :: st)) : U G X cells slots ws pc lv (.int y :: .int x :: st) := by
  obtain ⟨p, e, R, s, m, args, below, meth, c, A, nL, Q⟩ := X
  obtain ⟨⟨hx, hb, hml, hown, hts⟩, hE, hA, hlk⟩ := h
  subst hpc
  intro H locs ls hP hD hS hl
  subst hv
  exact lv_ior hx hb hdg (kk H locs ls hP hD hS hl)

set_option maxHeartbeats 1000000 in
theorem u_ishl (h : CX G X cc own Ts) {x y v : Int32} (hdg : decode cc pc = .ok (.ishl, 1)) (hv : x <<< (y &&& 31) = v) (hpc : pc + 1 = pc') (kk : U G X cells slots ws pc' lv (.int v :: st)) : U G X cells slots ws pc lv (.int y :: .int x :: st) := by
  obtain ⟨p, e, R, s, m, args, below, meth, c, A, nL, Q⟩ := X
  obtain ⟨⟨hx, hb, hml, hown, hts⟩, hE, hA, hlk⟩ := h
  subst hpc
  intro H locs ls hP hD hS hl
  subst hv
  exact lv_ishl hx hb hdg (kk H locs ls hP hD hS hl)

set_option maxHeartbeats 1000000 in
theorem u_ishr (h : CX G X cc own Ts) {x y v : Int32} (hdg : decode cc pc = .ok (.ishr, 1)) (hv : x >>> (y &&& 31) = v) (hpc : pc + 1 = pc') (kk : U G X cells slots ws pc' lv (.int v :: st)) : U G X cells slots ws pc lv (.int y :: .int x :: st) := by
  obtain ⟨p, e, R, s, m, args, below, meth, c, A, nL, Q⟩ := X
  obtain ⟨⟨hx, hb, hml, hown, hts⟩, hE, hA, hlk⟩ := h
  subst hpc
  intro H locs ls hP hD hS hl
  subst hv
  exact lv_ishr hx hb hdg (kk H locs ls hP hD hS hl)

set_option maxHeartbeats 1000000 in
theorem u_iushr (h : CX G X cc own Ts) {x y v : Int32} (hdg : decode cc pc = .ok (.iushr, 1)) (hv : (x.toUInt32 >>> (y.toUInt32 &&& Int32.toUInt32 31)).toInt32 = v) (hpc : pc + 1 = pc') (kk : U G X cells slots ws pc' lv (.int v :: st)) : U G X cells slots ws pc lv (.int y :: .int x :: st) := by
  obtain ⟨p, e, R, s, m, args, below, meth, c, A, nL, Q⟩ := X
  obtain ⟨⟨hx, hb, hml, hown, hts⟩, hE, hA, hlk⟩ := h
  subst hpc
  intro H locs ls hP hD hS hl
  exact lv_iushr hx hb hdg hv (kk H locs ls hP hD hS hl)

set_option maxHeartbeats 1000000 in
theorem u_idiv (h : CX G X cc own Ts) {x y v : Int32} (hdg : decode cc pc = .ok (.idiv, 1)) (hne : ¬ y = 0) (hv : x / y = v) (hpc : pc + 1 = pc') (kk : U G X cells slots ws pc' lv (.int v :: st)) : U G X cells slots ws pc lv (.int y :: .int x :: st) := by
  obtain ⟨p, e, R, s, m, args, below, meth, c, A, nL, Q⟩ := X
  obtain ⟨⟨hx, hb, hml, hown, hts⟩, hE, hA, hlk⟩ := h
  subst hpc
  intro H locs ls hP hD hS hl
  subst hv
  exact lv_idiv hx hb hdg hne (kk H locs ls hP hD hS hl)

set_option maxHeartbeats 1000000 in
theorem u_irem (h : CX G X cc own Ts) {x y v : Int32} (hdg : decode cc pc = .ok (.irem, 1)) (hne : ¬ y = 0) (hv : x - x / y * y = v) (hpc : pc + 1 = pc') (kk : U G X cells slots ws pc' lv (.int v :: st)) : U G X cells slots ws pc lv (.int y :: .int x :: st) := by
  obtain ⟨p, e, R, s, m, args, below, meth, c, A, nL, Q⟩ := X
  obtain ⟨⟨hx, hb, hml, hown, hts⟩, hE, hA, hlk⟩ := h
  subst hpc
  intro H locs ls hP hD hS hl
  subst hv
  exact lv_irem hx hb hdg hne (kk H locs ls hP hD hS hl)

set_option maxHeartbeats 1000000 in
theorem u_ladd (h : CX G X cc own Ts) {x y v : Int64} (hdg : decode cc pc = .ok (.ladd, 1)) (hv : x + y = v) (hpc : pc + 1 = pc') (kk : U G X cells slots ws pc' lv (.long v :: st)) : U G X cells slots ws pc lv (.long y :: .long x :: st) := by
  obtain ⟨p, e, R, s, m, args, below, meth, c, A, nL, Q⟩ := X
  obtain ⟨⟨hx, hb, hml, hown, hts⟩, hE, hA, hlk⟩ := h
  subst hpc
  intro H locs ls hP hD hS hl
  subst hv
  exact lv_ladd hx hb hdg (kk H locs ls hP hD hS hl)

set_option maxHeartbeats 1000000 in
theorem u_lmul (h : CX G X cc own Ts) {x y v : Int64} (hdg : decode cc pc = .ok (.lmul, 1)) (hv : x * y = v) (hpc : pc + 1 = pc') (kk : U G X cells slots ws pc' lv (.long v :: st)) : U G X cells slots ws pc lv (.long y :: .long x :: st) := by
  obtain ⟨p, e, R, s, m, args, below, meth, c, A, nL, Q⟩ := X
  obtain ⟨⟨hx, hb, hml, hown, hts⟩, hE, hA, hlk⟩ := h
  subst hpc
  intro H locs ls hP hD hS hl
  subst hv
  exact lv_lmul hx hb hdg (kk H locs ls hP hD hS hl)

set_option maxHeartbeats 1000000 in
theorem u_lrem (h : CX G X cc own Ts) {x y v : Int64} (hdg : decode cc pc = .ok (.lrem, 1)) (hne : ¬ y = 0) (hv : x - x / y * y = v) (hpc : pc + 1 = pc') (kk : U G X cells slots ws pc' lv (.long v :: st)) : U G X cells slots ws pc lv (.long y :: .long x :: st) := by
  obtain ⟨p, e, R, s, m, args, below, meth, c, A, nL, Q⟩ := X
  obtain ⟨⟨hx, hb, hml, hown, hts⟩, hE, hA, hlk⟩ := h
  subst hpc
  intro H locs ls hP hD hS hl
  subst hv
  exact lv_lrem hx hb hdg hne (kk H locs ls hP hD hS hl)

set_option maxHeartbeats 1000000 in
theorem u_i2l (h : CX G X cc own Ts) {x : Int32} {v : Int64} (hdg : decode cc pc = .ok (.i2l, 1)) (hv : x.toInt64 = v) (hpc : pc + 1 = pc') (kk : U G X cells slots ws pc' lv (.long v :: st)) : U G X cells slots ws pc lv (.int x :: st) := by
  obtain ⟨p, e, R, s, m, args, below, meth, c, A, nL, Q⟩ := X
  obtain ⟨⟨hx, hb, hml, hown, hts⟩, hE, hA, hlk⟩ := h
  subst hpc
  intro H locs ls hP hD hS hl
  exact lv_i2l hx hb hdg hv (kk H locs ls hP hD hS hl)

set_option maxHeartbeats 1000000 in
theorem u_l2i (h : CX G X cc own Ts) {x : Int64} {v : Int32} (hdg : decode cc pc = .ok (.l2i, 1)) (hv : x.toInt32 = v) (hpc : pc + 1 = pc') (kk : U G X cells slots ws pc' lv (.int v :: st)) : U G X cells slots ws pc lv (.long x :: st) := by
  obtain ⟨p, e, R, s, m, args, below, meth, c, A, nL, Q⟩ := X
  obtain ⟨⟨hx, hb, hml, hown, hts⟩, hE, hA, hlk⟩ := h
  subst hpc
  intro H locs ls hP hD hS hl
  exact lv_l2i hx hb hdg hv (kk H locs ls hP hD hS hl)

set_option maxHeartbeats 1000000 in
theorem u_i2b (h : CX G X cc own Ts) {x v : Int32} (hdg : decode cc pc = .ok (.i2b, 1)) (hv : x.toInt8.toInt32 = v) (hpc : pc + 1 = pc') (kk : U G X cells slots ws pc' lv (.int v :: st)) : U G X cells slots ws pc lv (.int x :: st) := by
  obtain ⟨p, e, R, s, m, args, below, meth, c, A, nL, Q⟩ := X
  obtain ⟨⟨hx, hb, hml, hown, hts⟩, hE, hA, hlk⟩ := h
  subst hpc
  intro H locs ls hP hD hS hl
  exact lv_i2b hx hb hdg hv (kk H locs ls hP hD hS hl)

set_option maxHeartbeats 1000000 in
theorem u_i2c (h : CX G X cc own Ts) {x v : Int32} (hdg : decode cc pc = .ok (.i2c, 1)) (hv : (x.toUInt32 % 65536).toInt32 = v) (hpc : pc + 1 = pc') (kk : U G X cells slots ws pc' lv (.int v :: st)) : U G X cells slots ws pc lv (.int x :: st) := by
  obtain ⟨p, e, R, s, m, args, below, meth, c, A, nL, Q⟩ := X
  obtain ⟨⟨hx, hb, hml, hown, hts⟩, hE, hA, hlk⟩ := h
  subst hpc
  intro H locs ls hP hD hS hl
  exact lv_i2c hx hb hdg hv (kk H locs ls hP hD hS hl)

set_option maxHeartbeats 1000000 in
theorem u_dup (h : CX G X cc own Ts) {va : Value} (hdg : decode cc pc = .ok (.dup, 1)) (hva : va.category = 1) (hpc : pc + 1 = pc') (kk : U G X cells slots ws pc' lv (va :: va :: st)) : U G X cells slots ws pc lv (va :: st) := by
  obtain ⟨p, e, R, s, m, args, below, meth, c, A, nL, Q⟩ := X
  obtain ⟨⟨hx, hb, hml, hown, hts⟩, hE, hA, hlk⟩ := h
  subst hpc
  intro H locs ls hP hD hS hl
  exact lv_dup hx hb hdg hva (kk H locs ls hP hD hS hl)

set_option maxHeartbeats 1000000 in
theorem u_pop (h : CX G X cc own Ts) {va : Value} (hdg : decode cc pc = .ok (.pop, 1)) (hva : va.category = 1) (hpc : pc + 1 = pc') (kk : U G X cells slots ws pc' lv st) : U G X cells slots ws pc lv (va :: st) := by
  obtain ⟨p, e, R, s, m, args, below, meth, c, A, nL, Q⟩ := X
  obtain ⟨⟨hx, hb, hml, hown, hts⟩, hE, hA, hlk⟩ := h
  subst hpc
  intro H locs ls hP hD hS hl
  exact lv_pop hx hb hdg hva (kk H locs ls hP hD hS hl)

set_option maxHeartbeats 1000000 in
theorem u_dup2 (h : CX G X cc own Ts) {va vb : Value} (hdg : decode cc pc = .ok (.dup2, 1)) (hva : va.category = 1) (hvb : vb.category = 1) (hpc : pc + 1 = pc') (kk : U G X cells slots ws pc' lv (va :: vb :: va :: vb :: st)) : U G X cells slots ws pc lv (va :: vb :: st) := by
  obtain ⟨p, e, R, s, m, args, below, meth, c, A, nL, Q⟩ := X
  obtain ⟨⟨hx, hb, hml, hown, hts⟩, hE, hA, hlk⟩ := h
  subst hpc
  intro H locs ls hP hD hS hl
  exact lv_dup2_11 hx hb hdg hva hvb (kk H locs ls hP hD hS hl)

set_option maxHeartbeats 1000000 in
theorem u_null (h : CX G X cc own Ts) (hdg : decode cc pc = .ok (.aconst_null, 1)) (hpc : pc + 1 = pc') (kk : U G X cells slots ws pc' lv (.null :: st)) : U G X cells slots ws pc lv st := by
  obtain ⟨p, e, R, s, m, args, below, meth, c, A, nL, Q⟩ := X
  obtain ⟨⟨hx, hb, hml, hown, hts⟩, hE, hA, hlk⟩ := h
  subst hpc
  intro H locs ls hP hD hS hl
  exact lv_null hx hb hdg (kk H locs ls hP hD hS hl)

set_option maxHeartbeats 1000000 in
theorem u_goto (h : CX G X cc own Ts) {off : Int} {tgt : Nat} (hdg : decode cc pc = .ok (.goto off, 3)) (ht : (pc : Int) + off = (tgt : Int)) (kk : U G X cells slots ws tgt lv st) : U G X cells slots ws pc lv st := by
  obtain ⟨p, e, R, s, m, args, below, meth, c, A, nL, Q⟩ := X
  obtain ⟨⟨hx, hb, hml, hown, hts⟩, hE, hA, hlk⟩ := h
  intro H locs ls hP hD hS hl
  exact lv_goto hx hb hdg ht (kk H locs ls hP hD hS hl)

set_option maxHeartbeats 1000000 in
theorem u_if_eq (h : CX G X cc own Ts) {x : Int32} {off : Int} {tgt : Nat} (hdg : decode cc pc = .ok (.ifCond .eq off, 3)) (ht : (pc : Int) + off = (tgt : Int)) (hpc : pc + 3 = pc') (kt : x = 0 → U G X cells slots ws tgt lv st) (kf : ¬ x = 0 → U G X cells slots ws pc' lv st) : U G X cells slots ws pc lv (.int x :: st) := by
  obtain ⟨p, e, R, s, m, args, below, meth, c, A, nL, Q⟩ := X
  obtain ⟨⟨hx, hb, hml, hown, hts⟩, hE, hA, hlk⟩ := h
  subst hpc
  intro H locs ls hP hD hS hl
  exact lv_if_eq hx hb hdg ht (fun q => kt q H locs ls hP hD hS hl) (fun q => kf q H locs ls hP hD hS hl)

set_option maxHeartbeats 1000000 in
theorem u_icmp_eq (h : CX G X cc own Ts) {x y : Int32} {off : Int} {tgt : Nat} (hdg : decode cc pc = .ok (.if_icmp .eq off, 3)) (ht : (pc : Int) + off = (tgt : Int)) (hpc : pc + 3 = pc') (kt : x = y → U G X cells slots ws tgt lv st) (kf : ¬ x = y → U G X cells slots ws pc' lv st) : U G X cells slots ws pc lv (.int y :: .int x :: st) := by
  obtain ⟨p, e, R, s, m, args, below, meth, c, A, nL, Q⟩ := X
  obtain ⟨⟨hx, hb, hml, hown, hts⟩, hE, hA, hlk⟩ := h
  subst hpc
  intro H locs ls hP hD hS hl
  exact lv_icmp_eq hx hb hdg ht (fun q => kt q H locs ls hP hD hS hl) (fun q => kf q H locs ls hP hD hS hl)

set_option maxHeartbeats 1000000 in
theorem u_if_ne (h : CX G X cc own Ts) {x : Int32} {off : Int} {tgt : Nat} (hdg : decode cc pc = .ok (.ifCond .ne off, 3)) (ht : (pc : Int) + off = (tgt : Int)) (hpc : pc + 3 = pc') (kt : ¬ x = 0 → U G X cells slots ws tgt lv st) (kf : x = 0 → U G X cells slots ws pc' lv st) : U G X cells slots ws pc lv (.int x :: st) := by
  obtain ⟨p, e, R, s, m, args, below, meth, c, A, nL, Q⟩ := X
  obtain ⟨⟨hx, hb, hml, hown, hts⟩, hE, hA, hlk⟩ := h
  subst hpc
  intro H locs ls hP hD hS hl
  exact lv_if_ne hx hb hdg ht (fun q => kt q H locs ls hP hD hS hl) (fun q => kf q H locs ls hP hD hS hl)

set_option maxHeartbeats 1000000 in
theorem u_icmp_ne (h : CX G X cc own Ts) {x y : Int32} {off : Int} {tgt : Nat} (hdg : decode cc pc = .ok (.if_icmp .ne off, 3)) (ht : (pc : Int) + off = (tgt : Int)) (hpc : pc + 3 = pc') (kt : ¬ x = y → U G X cells slots ws tgt lv st) (kf : x = y → U G X cells slots ws pc' lv st) : U G X cells slots ws pc lv (.int y :: .int x :: st) := by
  obtain ⟨p, e, R, s, m, args, below, meth, c, A, nL, Q⟩ := X
  obtain ⟨⟨hx, hb, hml, hown, hts⟩, hE, hA, hlk⟩ := h
  subst hpc
  intro H locs ls hP hD hS hl
  exact lv_icmp_ne hx hb hdg ht (fun q => kt q H locs ls hP hD hS hl) (fun q => kf q H locs ls hP hD hS hl)

set_option maxHeartbeats 1000000 in
theorem u_if_lt (h : CX G X cc own Ts) {x : Int32} {off : Int} {tgt : Nat} (hdg : decode cc pc = .ok (.ifCond .lt off, 3)) (ht : (pc : Int) + off = (tgt : Int)) (hpc : pc + 3 = pc') (kt : x < 0 → U G X cells slots ws tgt lv st) (kf : ¬ x < 0 → U G X cells slots ws pc' lv st) : U G X cells slots ws pc lv (.int x :: st) := by
  obtain ⟨p, e, R, s, m, args, below, meth, c, A, nL, Q⟩ := X
  obtain ⟨⟨hx, hb, hml, hown, hts⟩, hE, hA, hlk⟩ := h
  subst hpc
  intro H locs ls hP hD hS hl
  exact lv_if_lt hx hb hdg ht (fun q => kt q H locs ls hP hD hS hl) (fun q => kf q H locs ls hP hD hS hl)

set_option maxHeartbeats 1000000 in
theorem u_icmp_lt (h : CX G X cc own Ts) {x y : Int32} {off : Int} {tgt : Nat} (hdg : decode cc pc = .ok (.if_icmp .lt off, 3)) (ht : (pc : Int) + off = (tgt : Int)) (hpc : pc + 3 = pc') (kt : x < y → U G X cells slots ws tgt lv st) (kf : ¬ x < y → U G X cells slots ws pc' lv st) : U G X cells slots ws pc lv (.int y :: .int x :: st) := by
  obtain ⟨p, e, R, s, m, args, below, meth, c, A, nL, Q⟩ := X
  obtain ⟨⟨hx, hb, hml, hown, hts⟩, hE, hA, hlk⟩ := h
  subst hpc
  intro H locs ls hP hD hS hl
  exact lv_icmp_lt hx hb hdg ht (fun q => kt q H locs ls hP hD hS hl) (fun q => kf q H locs ls hP hD hS hl)

set_option maxHeartbeats 1000000 in
theorem u_if_ge (h : CX G X cc own Ts) {x : Int32} {off : Int} {tgt : Nat} (hdg : decode cc pc = .ok (.ifCond .ge off, 3)) (ht : (pc : Int) + off = (tgt : Int)) (hpc : pc + 3 = pc') (kt : 0 ≤ x → U G X cells slots ws tgt lv st) (kf : ¬ 0 ≤ x → U G X cells slots ws pc' lv st) : U G X cells slots ws pc lv (.int x :: st) := by
  obtain ⟨p, e, R, s, m, args, below, meth, c, A, nL, Q⟩ := X
  obtain ⟨⟨hx, hb, hml, hown, hts⟩, hE, hA, hlk⟩ := h
  subst hpc
  intro H locs ls hP hD hS hl
  exact lv_if_ge hx hb hdg ht (fun q => kt q H locs ls hP hD hS hl) (fun q => kf q H locs ls hP hD hS hl)

set_option maxHeartbeats 1000000 in
theorem u_icmp_ge (h : CX G X cc own Ts) {x y : Int32} {off : Int} {tgt : Nat} (hdg : decode cc pc = .ok (.if_icmp .ge off, 3)) (ht : (pc : Int) + off = (tgt : Int)) (hpc : pc + 3 = pc') (kt : y ≤ x → U G X cells slots ws tgt lv st) (kf : ¬ y ≤ x → U G X cells slots ws pc' lv st) : U G X cells slots ws pc lv (.int y :: .int x :: st) := by
  obtain ⟨p, e, R, s, m, args, below, meth, c, A, nL, Q⟩ := X
  obtain ⟨⟨hx, hb, hml, hown, hts⟩, hE, hA, hlk⟩ := h
  subst hpc
  intro H locs ls hP hD hS hl
  exact lv_icmp_ge hx hb hdg ht (fun q => kt q H locs ls hP hD hS hl) (fun q => kf q H locs ls hP hD hS hl)

set_option maxHeartbeats 1000000 in
theorem u_if_gt (h : CX G X cc own Ts) {x : Int32} {off : Int} {tgt : Nat} (hdg : decode cc pc = .ok (.ifCond .gt off, 3)) (ht : (pc : Int) + off = (tgt : Int)) (hpc : pc + 3 = pc') (kt : 0 < x → U G X cells slots ws tgt lv st) (kf : ¬ 0 < x → U G X cells slots ws pc' lv st) : U G X cells slots ws pc lv (.int x :: st) := by
  obtain ⟨p, e, R, s, m, args, below, meth, c, A, nL, Q⟩ := X
  obtain ⟨⟨hx, hb, hml, hown, hts⟩, hE, hA, hlk⟩ := h
  subst hpc
  intro H locs ls hP hD hS hl
  exact lv_if_gt hx hb hdg ht (fun q => kt q H locs ls hP hD hS hl) (fun q => kf q H locs ls hP hD hS hl)

set_option maxHeartbeats 1000000 in
theorem u_icmp_gt (h : CX G X cc own Ts) {x y : Int32} {off : Int} {tgt : Nat} (hdg : decode cc pc = .ok (.if_icmp .gt off, 3)) (ht : (pc : Int) + off = (tgt : Int)) (hpc : pc + 3 = pc') (kt : y < x → U G X cells slots ws tgt lv st) (kf : ¬ y < x → U G X cells slots ws pc' lv st) : U G X cells slots ws pc lv (.int y :: .int x :: st) := by
  obtain ⟨p, e, R, s, m, args, below, meth, c, A, nL, Q⟩ := X
  obtain ⟨⟨hx, hb, hml, hown, hts⟩, hE, hA, hlk⟩ := h
  subst hpc
  intro H locs ls hP hD hS hl
  exact lv_icmp_gt hx hb hdg ht (fun q => kt q H locs ls hP hD hS hl) (fun q => kf q H locs ls hP hD hS hl)

set_option maxHeartbeats 1000000 in
theorem u_if_le (h : CX G X cc own Ts) {x : Int32} {off : Int} {tgt : Nat} (hdg : decode cc pc = .ok (.ifCond .le off, 3)) (ht : (pc : Int) + off = (tgt : Int)) (hpc : pc + 3 = pc') (kt : x ≤ 0 → U G X cells slots ws tgt lv st) (kf : ¬ x ≤ 0 → U G X cells slots ws pc' lv st) : U G X cells slots ws pc lv (.int x :: st) := by
  obtain ⟨p, e, R, s, m, args, below, meth, c, A, nL, Q⟩ := X
  obtain ⟨⟨hx, hb, hml, hown, hts⟩, hE, hA, hlk⟩ := h
  subst hpc
  intro H locs ls hP hD hS hl
  exact lv_if_le hx hb hdg ht (fun q => kt q H locs ls hP hD hS hl) (fun q => kf q H locs ls hP hD hS hl)

set_option maxHeartbeats 1000000 in
theorem u_icmp_le (h : CX G X cc own Ts) {x y : Int32} {off : Int} {tgt : Nat} (hdg : decode cc pc = .ok (.if_icmp .le off, 3)) (ht : (pc : Int) + off = (tgt : Int)) (hpc : pc + 3 = pc') (kt : x ≤ y → U G X cells slots ws tgt lv st) (kf : ¬ x ≤ y → U G X cells slots ws pc' lv st) : U G X cells slots ws pc lv (.int y :: .int x :: st) := by
  obtain ⟨p, e, R, s, m, args, below, meth, c, A, nL, Q⟩ := X
  obtain ⟨⟨hx, hb, hml, hown, hts⟩, hE, hA, hlk⟩ := h
  subst hpc
  intro H locs ls hP hD hS hl
  exact lv_icmp_le hx hb hdg ht (fun q => kt q H locs ls hP hD hS hl) (fun q => kf q H locs ls hP hD hS hl)

set_option maxHeartbeats 1000000 in
theorem u_ifnonnull (h : CX G X cc own Ts) {x : Nat} {off : Int} {tgt : Nat} (hdg : decode cc pc = .ok (.ifnonnull off, 3)) (ht : (pc : Int) + off = (tgt : Int)) (kk : U G X cells slots ws tgt lv st) : U G X cells slots ws pc lv (.ref x :: st) := by
  obtain ⟨p, e, R, s, m, args, below, meth, c, A, nL, Q⟩ := X
  obtain ⟨⟨hx, hb, hml, hown, hts⟩, hE, hA, hlk⟩ := h
  intro H locs ls hP hD hS hl
  exact lv_ifnonnull hx hb hdg ht (kk H locs ls hP hD hS hl)

set_option maxHeartbeats 1000000 in
theorem u_ifnonnullN (h : CX G X cc own Ts) {off : Int} (hdg : decode cc pc = .ok (.ifnonnull off, 3)) (hpc : pc + 3 = pc') (kk : U G X cells slots ws pc' lv st) : U G X cells slots ws pc lv (.null :: st) := by
  obtain ⟨p, e, R, s, m, args, below, meth, c, A, nL, Q⟩ := X
  obtain ⟨⟨hx, hb, hml, hown, hts⟩, hE, hA, hlk⟩ := h
  subst hpc
  intro H locs ls hP hD hS hl
  exact lv_ifnonnullN hx hb hdg (kk H locs ls hP hD hS hl)

set_option maxHeartbeats 1000000 in
theorem u_ifnull (h : CX G X cc own Ts) {x : Nat} {off : Int} (hdg : decode cc pc = .ok (.ifnull off, 3)) (hpc : pc + 3 = pc') (kk : U G X cells slots ws pc' lv st) : U G X cells slots ws pc lv (.ref x :: st) := by
  obtain ⟨p, e, R, s, m, args, below, meth, c, A, nL, Q⟩ := X
  obtain ⟨⟨hx, hb, hml, hown, hts⟩, hE, hA, hlk⟩ := h
  subst hpc
  intro H locs ls hP hD hS hl
  exact lv_ifnull hx hb hdg (kk H locs ls hP hD hS hl)

set_option maxHeartbeats 1000000 in
theorem u_ifnullN (h : CX G X cc own Ts) {off : Int} {tgt : Nat} (hdg : decode cc pc = .ok (.ifnull off, 3)) (ht : (pc : Int) + off = (tgt : Int)) (kk : U G X cells slots ws tgt lv st) : U G X cells slots ws pc lv (.null :: st) := by
  obtain ⟨p, e, R, s, m, args, below, meth, c, A, nL, Q⟩ := X
  obtain ⟨⟨hx, hb, hml, hown, hts⟩, hE, hA, hlk⟩ := h
  intro H locs ls hP hD hS hl
  exact lv_ifnullN hx hb hdg ht (kk H locs ls hP hD hS hl)

set_option maxHeartbeats 1000000 in
theorem u_tableIn (h : CX G X cc own Ts) {dflt lo hi : Int} {offs : Array Int} {len : Nat} {x : Int32} {off : Int} {tgt : Nat} (hdg : decode cc pc = .ok (.tableswitch dflt lo hi offs, len)) (h1 : ¬ x.toInt < lo) (h2 : ¬ hi < x.toInt) (ho : offs[(x.toInt - lo).toNat]? = some off) (ht : (pc : Int) + off = (tgt : Int)) (kk : U G X cells slots ws tgt lv st) : U G X cells slots ws pc lv (.int x :: st) := by
  obtain ⟨p, e, R, s, m, args, below, meth, c, A, nL, Q⟩ := X
  obtain ⟨⟨hx, hb, hml, hown, hts⟩, hE, hA, hlk⟩ := h
  intro H locs ls hP hD hS hl
  exact lv_tableIn hx hb hdg h1 h2 ho ht (kk H locs ls hP hD hS hl)

set_option maxHeartbeats 1000000 in
theorem u_tableOut (h : CX G X cc own Ts) {dflt lo hi : Int} {offs : Array Int} {len : Nat} {x : Int32} {tgt : Nat} (hdg : decode cc pc = .ok (.tableswitch dflt lo hi offs, len)) (ho : x.toInt < lo ∨ hi < x.toInt) (ht : (pc : Int) + dflt = (tgt : Int)) (kk : U G X cells slots ws tgt lv st) : U G X cells slots ws pc lv (.int x :: st) := by
  obtain ⟨p, e, R, s, m, args, below, meth, c, A, nL, Q⟩ := X
  obtain ⟨⟨hx, hb, hml, hown, hts⟩, hE, hA, hlk⟩ := h
  intro H locs ls hP hD hS hl
  exact lv_tableOut hx hb hdg ho ht (kk H locs ls hP hD hS hl)

set_option maxHeartbeats 1000000 in
theorem u_lookup (h : CX G X cc own Ts) {dflt : Int} {ps : Array (Int × Int)} {len : Nat} {x : Int32} {off : Int} {tgt : Nat} (hdg : decode cc pc = .ok (.lookupswitch dflt ps, len)) (hp : (ps.toList.zip (ps.toList.drop 1)).all (fun (a, next) => a.1 < next.1) = true) (ho : Op.lookupswitch.offset ps.toList dflt x.toInt = off) (ht : (pc : Int) + off = (tgt : Int)) (kk : U G X cells slots ws tgt lv st) : U G X cells slots ws pc lv (.int x :: st) := by
  obtain ⟨p, e, R, s, m, args, below, meth, c, A, nL, Q⟩ := X
  obtain ⟨⟨hx, hb, hml, hown, hts⟩, hE, hA, hlk⟩ := h
  intro H locs ls hP hD hS hl
  exact lv_lookup hx hb hdg hp ho ht (kk H locs ls hP hD hS hl)

set_option maxHeartbeats 1000000 in
theorem u_wp {ws' : va_W} (is : List Nat) (hn : va_nd is = true) (hs : is.map (fun i => ws[i]?) = ws'.map some) (kk : U G X cells slots ws' pc lv st) : U G X cells slots ws pc lv st := by
  obtain ⟨p, e, R, s, m, args, below, meth, c, A, nL, Q⟩ := X
  intro H locs ls hP hD hS hl
  refine kk H locs ls (hP.sub is ?_) (hD.sub is hn hs) hS hl
  have h1 : is.filterMap (fun i => ws[i]?) = ((is.map (fun i => ws[i]?)).filterMap id) := by rw [List.filterMap_map]; rfl
  rw [h1, hs, List.filterMap_map]
  simp

set_option maxHeartbeats 1000000 in
theorem u_lv {lv' : List (Nat × Value)} (ks : List Nat) (hl' : lv_pick lv ks = lv') (kk : U G X cells slots ws pc lv' st) : U G X cells slots ws pc lv st := by
  obtain ⟨p, e, R, s, m, args, below, meth, c, A, nL, Q⟩ := X
  intro H locs ls hP hD hS hl
  exact kk H locs ls hP hD hS (lv_sub hl ks hl')

set_option maxHeartbeats 1000000 in
theorem u_wd {k n : Nat} (h1 : cells ≤ k) (h2 : slots ≤ n) (kk : U G X k n ws pc lv st) : U G X cells slots ws pc lv st := by
  obtain ⟨p, e, R, s, m, args, below, meth, c, A, nL, Q⟩ := X
  intro H locs ls hP hD hS hl
  exact W.widen h1 h2 (kk H locs ls hP hD hS hl)

set_option maxHeartbeats 1000000 in
theorem u_ap {i j : Nat} {x y : Nat × va_E} (hi : ws[i]? = some x) (hj : ws[j]? = some y) (hne : i ≠ j) (kk : x.1 ≠ y.1 → U G X cells slots ws pc lv st) : U G X cells slots ws pc lv st := by
  obtain ⟨p, e, R, s, m, args, below, meth, c, A, nL, Q⟩ := X
  intro H locs ls hP hD hS hl
  exact kk (fun q => hne (hD.1 i j x y hi hj q)) H locs ls hP hD hS hl

/-- a field that a method links: the place of its kind, its slot, the words -/
def FL (Ts : List Cond) (own : String) (index ci k : Nat) : Prop := ∃ (C : String) (T : u_T) (N : Nat), vwCl[ci]? = some (C, T, N) ∧ k < N ∧ (∀ w ∈ u_ws C T N, w ∈ Ts) ∧ Cond.fieldLink own index (T k).1 (T k).2.1 (T k).2.2.1 ∈ Ts

set_option maxHeartbeats 1000000 in
theorem u_get (h : CX G X cc own Ts) {index ci k a : Nat} (hf : FL Ts own index ci k) (q0 : Nat) {fs : List Value} {v : Value} (he : ws[q0]? = some (a, .inr (ci, fs))) (hv : fs[k]? = some v) (hdg : decode cc pc = .ok (.getfield index, 3)) (hpc : pc + 3 = pc') (kk : U G X cells slots ws pc' lv (v :: st)) : U G X cells slots ws pc lv (.ref a :: st) := by
  obtain ⟨p, e, R, s, m, args, below, meth, c, A, nL, Q⟩ := X
  obtain ⟨⟨hx, hb, hml, hown, hts⟩, hE, hA, hlk⟩ := h
  subst hpc
  intro H locs ls hP hD hS hl
  obtain ⟨C, T, N, f1, f2, f3, f4⟩ := hf
  exact va_get hx hb hts f3 hown hE.1 hP q0 he f1 k f2 (hts _ f4) (fun _ h9 => h9) hv hdg (kk H locs ls hP hD hS hl)

/-- a field that a method writes: as FL, with its type -/
def FW (Ts : List Cond) (own : String) (index ci k : Nat) (fin : Bool) (ty : FieldType) : Prop := ∃ (C : String) (T : u_T) (N : Nat) (ty0 : Nat → FieldType), vwCl[ci]? = some (C, T, N) ∧ k < N ∧ (∀ w ∈ u_ws C T N, w ∈ Ts) ∧ Cond.fieldLink own index (T k).1 (T k).2.1 (T k).2.2.1 ∈ Ts ∧ (∀ k, k < N → parseFieldDescriptor (T k).2.2.1 = some (ty0 k)) ∧ (∀ a, a < N → ∀ b, b < N → a ≠ b → (T a).2.1 ≠ (T b).2.1) ∧ (T k).2.2.2 = fin ∧ parseFieldDescriptor (T k).2.2.1 = some ty ∧ (T k).1 = own

set_option maxHeartbeats 1000000 in
theorem u_put (h : CX G X cc own Ts) {index ci k a : Nat} {ty : FieldType} (hf : FW Ts own index ci k false ty) (q0 : Nat) {fs : List Value} {v : Value} {ws' : va_W} (he : ws[q0]? = some (a, .inr (ci, fs))) (hk : k < fs.length) (hn : narrow ty v = v) (hfit : fits ty v = true) (hw : ws.set q0 (a, .inr (ci, fs.set k v)) = ws') (hdg : decode cc pc = .ok (.putfield index, 3)) (hpc : pc + 3 = pc') (kk : U G X cells slots ws' pc' lv st) : U G X cells slots ws pc lv (v :: .ref a :: st) := by
  obtain ⟨p, e, R, s, m, args, below, meth, c, A, nL, Q⟩ := X
  obtain ⟨⟨hx, hb, hml, hown, hts⟩, hE, hA, hlk⟩ := h
  subst hpc
  intro H locs ls hP hD hS hl
  subst hw
  obtain ⟨C, T, N, ty0, f1, f2, f3, f4, f5, f6, f7, f8, f9⟩ := hf
  exact va_put hx hb hts f3 ty0 f5 f6 hown hE.1 hP hD hS q0 he f1 k f2 (hts _ f4) (fun _ h9 => h9) f7 f8 hn hfit hk hdg (fun H locs hP hD hS => kk H locs ls hP hD hS hl)

set_option maxHeartbeats 1000000 in
theorem u_putF (h : CX G X cc own Ts) {y : MethodName} {ret : Option FieldType} {wc : va_W} {post : Option Value → va_W → Prop} {mc ms : Nat} (hR : RT G X y ret wc post mc ms) (hy : y.name = "<init>") {index ci k a : Nat} {ty : FieldType} (hf : FW Ts own index ci k true ty) (q0 : Nat) {fs : List Value} {v : Value} {ws' : va_W} (he : ws[q0]? = some (a, .inr (ci, fs))) (hk : k < fs.length) (hn : narrow ty v = v) (hfit : fits ty v = true) (hw : ws.set q0 (a, .inr (ci, fs.set k v)) = ws') (hdg : decode cc pc = .ok (.putfield index, 3)) (hpc : pc + 3 = pc') (kk : U G X cells slots ws' pc' lv st) : U G X cells slots ws pc lv (v :: .ref a :: st) := by
  obtain ⟨p, e, R, s, m, args, below, meth, c, A, nL, Q⟩ := X
  obtain ⟨⟨hx, hb, hml, hown, hts⟩, hE, hA, hlk⟩ := h
  subst hpc
  intro H locs ls hP hD hS hl
  subst hw
  obtain ⟨C, T, N, ty0, f1, f2, f3, f4, f5, f6, f7, f8, f9⟩ := hf
  exact va_putF hx hb hts f3 ty0 f5 f6 hown hE.1 hP hD hS q0 he f1 k f2 (hts _ f4) (fun _ h9 => h9) f7 (hR.2.1.trans hy) f9 f8 hn hfit hk hdg (fun H locs hP hD hS => kk H locs ls hP hD hS hl)

set_option maxHeartbeats 1000000 in
theorem u_getN_lock (h : CX G X cc "NudgeLocks" Ts) (hin : ∀ w ∈ u_ws RX3 TX3 5, w ∈ Ts) {a : Nat} (q0 : Nat) {fs : List Value} {v : Value} (he : ws[q0]? = some (a, .inr (3, fs))) (hv : fs[0]? = some v) (hdg : decode cc pc = .ok (.getfield 62, 3)) (hpc : pc + 3 = pc') (kk : U G X cells slots ws pc' lv (v :: st)) : U G X cells slots ws pc lv (.ref a :: st) := by
  obtain ⟨p, e, R, s, m, args, below, meth, c, A, nL, Q⟩ := X
  obtain ⟨⟨hx, hb, hml, hown, hts⟩, hE, hA, hlk⟩ := h
  subst hpc
  intro H locs ls hP hD hS hl
  exact va_getN (C := RX3) (T := TX3) (N := 5) (host := "NudgeLocks") (ref := "NudgeLocks$State") hx hb hts hin hown hE.1 hP q0 he rfl 0 (by decide) (va_Nw.use rfl hE.2.1.1) (fun _ h9 => h9) hv hdg (kk H locs ls hP hD hS hl)

set_option maxHeartbeats 1000000 in
theorem u_getN_x (h : CX G X cc "NudgeLocks" Ts) (hin : ∀ w ∈ u_ws RX3 TX3 5, w ∈ Ts) {a : Nat} (q0 : Nat) {fs : List Value} {v : Value} (he : ws[q0]? = some (a, .inr (3, fs))) (hv : fs[4]? = some v) (hdg : decode cc pc = .ok (.getfield 98, 3)) (hpc : pc + 3 = pc') (kk : U G X cells slots ws pc' lv (v :: st)) : U G X cells slots ws pc lv (.ref a :: st) := by
  obtain ⟨p, e, R, s, m, args, below, meth, c, A, nL, Q⟩ := X
  obtain ⟨⟨hx, hb, hml, hown, hts⟩, hE, hA, hlk⟩ := h
  subst hpc
  intro H locs ls hP hD hS hl
  exact va_getN (C := RX3) (T := TX3) (N := 5) (host := "NudgeLocks") (ref := "NudgeLocks$State") hx hb hts hin hown hE.1 hP q0 he rfl 4 (by decide) (va_Nw.use rfl hE.2.1.2.1) (fun _ h9 => h9) hv hdg (kk H locs ls hP hD hS hl)

set_option maxHeartbeats 1000000 in
theorem u_putN_x (h : CX G X cc "NudgeLocks" Ts) (hin : ∀ w ∈ u_ws RX3 TX3 5, w ∈ Ts) {a : Nat} (q0 : Nat) {fs : List Value} {v : Int32} {ws' : va_W} (he : ws[q0]? = some (a, .inr (3, fs))) (hk : 4 < fs.length) (hw : ws.set q0 (a, .inr (3, fs.set 4 (.int v))) = ws') (hdg : decode cc pc = .ok (.putfield 98, 3)) (hpc : pc + 3 = pc') (kk : U G X cells slots ws' pc' lv st) : U G X cells slots ws pc lv (.int v :: .ref a :: st) := by
  obtain ⟨p, e, R, s, m, args, below, meth, c, A, nL, Q⟩ := X
  obtain ⟨⟨hx, hb, hml, hown, hts⟩, hE, hA, hlk⟩ := h
  subst hpc
  intro H locs ls hP hD hS hl
  subst hw
  exact va_putN (C := RX3) (T := TX3) (N := 5) (host := "NudgeLocks") (ref := "NudgeLocks$State") (ty := .int) hx hb hts hin tyX3 tyX3_ok nmX3 hown hE.1 hP hD hS q0 he rfl 4 (by decide) (va_Nw.use rfl hE.2.1.2.1) (fun _ h9 => h9) rfl (by decide +kernel) rfl rfl hk hdg (fun H locs hP hD hS => kk H locs ls hP hD hS hl)

set_option maxHeartbeats 1000000 in
theorem u_iald (h : CX G X cc own Ts) {a : Nat} {n len : Nat} {f : Nat → Int32} (q0 : Nat) (he : ws[q0]? = some (a, aI G len f)) (hin : n < len) (hlen : len < 2 ^ 31) (hdg : decode cc pc = .ok (.iaload, 1)) (hpc : pc + 1 = pc') (kk : U G X cells slots ws pc' lv (.int (f n) :: st)) : U G X cells slots ws pc lv (.int (nI n) :: .ref a :: st) := by
  obtain ⟨p, e, R, s, m, args, below, meth, c, A, nL, Q⟩ := X
  obtain ⟨⟨hx, hb, hml, hown, hts⟩, hE, hA, hlk⟩ := h
  subst hpc
  intro H locs ls hP hD hS hl
  exact va_iald hx hb hE.1 hP q0 0 he rfl (vp_in_nI hin hlen) hdg (by rw [nI_clamp (Nat.lt_trans hin hlen)]; exact kk H locs ls hP hD hS hl)

set_option maxHeartbeats 1000000 in
theorem u_bald (h : CX G X cc own Ts) {a : Nat} {n len : Nat} {f : Nat → Int32} (q0 : Nat) (he : ws[q0]? = some (a, aB G len f)) (hin : n < len) (hlen : len < 2 ^ 31) (hdg : decode cc pc = .ok (.baload, 1)) (hpc : pc + 1 = pc') (kk : U G X cells slots ws pc' lv (.int (f n) :: st)) : U G X cells slots ws pc lv (.int (nI n) :: .ref a :: st) := by
  obtain ⟨p, e, R, s, m, args, below, meth, c, A, nL, Q⟩ := X
  obtain ⟨⟨hx, hb, hml, hown, hts⟩, hE, hA, hlk⟩ := h
  subst hpc
  intro H locs ls hP hD hS hl
  exact va_bald hx hb hE.1 hP q0 1 he rfl (vp_in_nI hin hlen) hdg (by rw [nI_clamp (Nat.lt_trans hin hlen)]; exact kk H locs ls hP hD hS hl)

set_option maxHeartbeats 1000000 in
theorem u_cald (h : CX G X cc own Ts) {a : Nat} {n len : Nat} {f : Nat → Int32} (q0 : Nat) (he : ws[q0]? = some (a, aC G len f)) (hin : n < len) (hlen : len < 2 ^ 31) (hdg : decode cc pc = .ok (.caload, 1)) (hpc : pc + 1 = pc') (kk : U G X cells slots ws pc' lv (.int (f n) :: st)) : U G X cells slots ws pc lv (.int (nI n) :: .ref a :: st) := by
  obtain ⟨p, e, R, s, m, args, below, meth, c, A, nL, Q⟩ := X
  obtain ⟨⟨hx, hb, hml, hown, hts⟩, hE, hA, hlk⟩ := h
  subst hpc
  intro H locs ls hP hD hS hl
  exact va_cald hx hb hE.1 hP q0 2 he rfl (vp_in_nI hin hlen) hdg (by rw [nI_clamp (Nat.lt_trans hin hlen)]; exact kk H locs ls hP hD hS hl)

set_option maxHeartbeats 1000000 in
theorem u_iast (h : CX G X cc own Ts) {a : Nat} {n len : Nat} {f : Nat → Int32} {x v : Int32} {ws' : va_W} (q0 : Nat) (he : ws[q0]? = some (a, aI G len f)) (hin : n < len) (hlen : len < 2 ^ 31) (hv : x = v) (hw : ws.set q0 (a, aI G len (upd f n v)) = ws') (hdg : decode cc pc = .ok (.iastore, 1)) (hpc : pc + 1 = pc') (kk : U G X cells slots ws' pc' lv st) : U G X cells slots ws pc lv (.int x :: .int (nI n) :: .ref a :: st) := by
  obtain ⟨p, e, R, s, m, args, below, meth, c, A, nL, Q⟩ := X
  obtain ⟨⟨hx, hb, hml, hown, hts⟩, hE, hA, hlk⟩ := h
  subst hpc
  intro H locs ls hP hD hS hl
  subst hw
  subst hv
  refine va_iast hx hb hE.1 hP hD hS q0 0 he rfl (vp_in_nI hin hlen) hdg (fun H locs hP hD hS => ?_)
  rw [nI_clamp (Nat.lt_trans hin hlen)] at hP hD
  exact kk H locs ls hP hD hS hl

set_option maxHeartbeats 1000000 in
theorem u_bast (h : CX G X cc own Ts) {a : Nat} {n len : Nat} {f : Nat → Int32} {x v : Int32} {ws' : va_W} (q0 : Nat) (he : ws[q0]? = some (a, aB G len f)) (hin : n < len) (hlen : len < 2 ^ 31) (hv : vp_nar .byte x = v) (hw : ws.set q0 (a, aB G len (upd f n v)) = ws') (hdg : decode cc pc = .ok (.bastore, 1)) (hpc : pc + 1 = pc') (kk : U G X cells slots ws' pc' lv st) : U G X cells slots ws pc lv (.int x :: .int (nI n) :: .ref a :: st) := by
  obtain ⟨p, e, R, s, m, args, below, meth, c, A, nL, Q⟩ := X
  obtain ⟨⟨hx, hb, hml, hown, hts⟩, hE, hA, hlk⟩ := h
  subst hpc
  intro H locs ls hP hD hS hl
  subst hw
  subst hv
  refine va_bast hx hb hE.1 hP hD hS q0 1 he rfl (vp_in_nI hin hlen) hdg (fun H locs hP hD hS => ?_)
  rw [nI_clamp (Nat.lt_trans hin hlen)] at hP hD
  exact kk H locs ls hP hD hS hl

set_option maxHeartbeats 1000000 in
theorem u_cast (h : CX G X cc own Ts) {a : Nat} {n len : Nat} {f : Nat → Int32} {x v : Int32} {ws' : va_W} (q0 : Nat) (he : ws[q0]? = some (a, aC G len f)) (hin : n < len) (hlen : len < 2 ^ 31) (hv : vp_nar .char x = v) (hw : ws.set q0 (a, aC G len (upd f n v)) = ws') (hdg : decode cc pc = .ok (.castore, 1)) (hpc : pc + 1 = pc') (kk : U G X cells slots ws' pc' lv st) : U G X cells slots ws pc lv (.int x :: .int (nI n) :: .ref a :: st) := by
  obtain ⟨p, e, R, s, m, args, below, meth, c, A, nL, Q⟩ := X
  obtain ⟨⟨hx, hb, hml, hown, hts⟩, hE, hA, hlk⟩ := h
  subst hpc
  intro H locs ls hP hD hS hl
  subst hw
  subst hv
  refine va_cast hx hb hE.1 hP hD hS q0 2 he rfl (vp_in_nI hin hlen) hdg (fun H locs hP hD hS => ?_)
  rw [nI_clamp (Nat.lt_trans hin hlen)] at hP hD
  exact kk H locs ls hP hD hS hl

set_option maxHeartbeats 1000000 in
theorem u_lald (h : CX G X cc own Ts) {a : Nat} {n len : Nat} {f : Nat → Option Nat} {v : Value} (q0 : Nat) (he : ws[q0]? = some (a, aL G len f)) (hin : n < len) (hlen : len < 2 ^ 31) (hv : va_rf (f n) = v) (hdg : decode cc pc = .ok (.aaload, 1)) (hpc : pc + 1 = pc') (kk : U G X cells slots ws pc' lv (v :: st)) : U G X cells slots ws pc lv (.int (nI n) :: .ref a :: st) := by
  obtain ⟨p, e, R, s, m, args, below, meth, c, A, nL, Q⟩ := X
  obtain ⟨⟨hx, hb, hml, hown, hts⟩, hE, hA, hlk⟩ := h
  subst hpc
  intro H locs ls hP hD hS hl
  exact va_aldq hx hb hE.1 hP q0 3 he rfl (vp_in_nI hin hlen) hdg (by rw [nI_clamp (Nat.lt_trans hin hlen), hv]; exact kk H locs ls hP hD hS hl)

set_option maxHeartbeats 1000000 in
theorem u_sald (h : CX G X cc own Ts) {a : Nat} {n len : Nat} {f : Nat → Option Nat} {v : Value} (q0 : Nat) (he : ws[q0]? = some (a, aS G len f)) (hin : n < len) (hlen : len < 2 ^ 31) (hv : va_rf (f n) = v) (hdg : decode cc pc = .ok (.aaload, 1)) (hpc : pc + 1 = pc') (kk : U G X cells slots ws pc' lv (v :: st)) : U G X cells slots ws pc lv (.int (nI n) :: .ref a :: st) := by
  obtain ⟨p, e, R, s, m, args, below, meth, c, A, nL, Q⟩ := X
  obtain ⟨⟨hx, hb, hml, hown, hts⟩, hE, hA, hlk⟩ := h
  subst hpc
  intro H locs ls hP hD hS hl
  exact va_aldq hx hb hE.1 hP q0 4 he rfl (vp_in_nI hin hlen) hdg (by rw [nI_clamp (Nat.lt_trans hin hlen), hv]; exact kk H locs ls hP hD hS hl)

set_option maxHeartbeats 1000000 in
theorem u_last (h : CX G X cc own Ts) {a : Nat} {n len v : Nat} {f : Nat → Option Nat} {vs : List Value} {ws' : va_W} (q0 qk : Nat) (he : ws[q0]? = some (a, aL G len f)) (hv : ws[qk]? = some (v, .inr (1, vs))) (hin : n < len) (hlen : len < 2 ^ 31) (hw : ws.set q0 (a, aL G len (va_up f n (some v))) = ws') (hdg : decode cc pc = .ok (.aastore, 1)) (hpc : pc + 1 = pc') (kk : U G X cells slots ws' pc' lv st) : U G X cells slots ws pc lv (.ref v :: .int (nI n) :: .ref a :: st) := by
  obtain ⟨p, e, R, s, m, args, below, meth, c, A, nL, Q⟩ := X
  obtain ⟨⟨hx, hb, hml, hown, hts⟩, hE, hA, hlk⟩ := h
  subst hpc
  intro H locs ls hP hD hS hl
  subst hw
  refine va_astq hx hb hE.1 hP hD hS q0 3 qk 1 he rfl hv rfl (vp_in_nI hin hlen) hdg (fun H locs hP hD hS => ?_)
  rw [nI_clamp (Nat.lt_trans hin hlen)] at hP hD
  exact kk H locs ls hP hD hS hl

set_option maxHeartbeats 1000000 in
theorem u_sast (h : CX G X cc own Ts) {a : Nat} {n len v : Nat} {f : Nat → Option Nat} {vs : List Value} {ws' : va_W} (q0 qk : Nat) (he : ws[q0]? = some (a, aS G len f)) (hv : ws[qk]? = some (v, .inr (3, vs))) (hin : n < len) (hlen : len < 2 ^ 31) (hw : ws.set q0 (a, aS G len (va_up f n (some v))) = ws') (hdg : decode cc pc = .ok (.aastore, 1)) (hpc : pc + 1 = pc') (kk : U G X cells slots ws' pc' lv st) : U G X cells slots ws pc lv (.ref v :: .int (nI n) :: .ref a :: st) := by
  obtain ⟨p, e, R, s, m, args, below, meth, c, A, nL, Q⟩ := X
  obtain ⟨⟨hx, hb, hml, hown, hts⟩, hE, hA, hlk⟩ := h
  subst hpc
  intro H locs ls hP hD hS hl
  subst hw
  refine va_astq hx hb hE.1 hP hD hS q0 4 qk 3 he rfl hv rfl (vp_in_nI hin hlen) hdg (fun H locs hP hD hS => ?_)
  rw [nI_clamp (Nat.lt_trans hin hlen)] at hP hD
  exact kk H locs ls hP hD hS hl

set_option maxHeartbeats 1000000 in
theorem u_alenI (h : CX G X cc own Ts) {a : Nat} {n len : Nat} {f : Nat → Int32} (q0 : Nat) (he : ws[q0]? = some (a, aI G len f)) (hdg : decode cc pc = .ok (.arraylength, 1)) (hpc : pc + 1 = pc') (kk : U G X cells slots ws pc' lv (.int (nI len) :: st)) : U G X cells slots ws pc lv (.ref a :: st) := by
  obtain ⟨p, e, R, s, m, args, below, meth, c, A, nL, Q⟩ := X
  obtain ⟨⟨hx, hb, hml, hown, hts⟩, hE, hA, hlk⟩ := h
  subst hpc
  intro H locs ls hP hD hS hl
  exact va_alen hx hb hE.1 hP q0 0 he rfl rfl hdg (kk H locs ls hP hD hS hl)

set_option maxHeartbeats 1000000 in
theorem u_alenC (h : CX G X cc own Ts) {a : Nat} {n len : Nat} {f : Nat → Int32} (q0 : Nat) (he : ws[q0]? = some (a, aC G len f)) (hdg : decode cc pc = .ok (.arraylength, 1)) (hpc : pc + 1 = pc') (kk : U G X cells slots ws pc' lv (.int (nI len) :: st)) : U G X cells slots ws pc lv (.ref a :: st) := by
  obtain ⟨p, e, R, s, m, args, below, meth, c, A, nL, Q⟩ := X
  obtain ⟨⟨hx, hb, hml, hown, hts⟩, hE, hA, hlk⟩ := h
  subst hpc
  intro H locs ls hP hD hS hl
  exact va_alen hx hb hE.1 hP q0 2 he rfl rfl hdg (kk H locs ls hP hD hS hl)

set_option maxHeartbeats 1000000 in
theorem u_far (h : CX G X cc own Ts) (hw : Cond.fieldLink own 37 "NudgeLocks$Lock" "FAR_TOUCHES" "[I" ∈ Ts) (hdg : decode cc pc = .ok (.getstatic 37, 3)) (hpc : pc + 3 = pc') (kk : U G X cells slots ws pc' lv (.ref G.2.2.2 :: st)) : U G X cells slots ws pc lv st := by
  obtain ⟨p, e, R, s, m, args, below, meth, c, A, nL, Q⟩ := X
  obtain ⟨⟨hx, hb, hml, hown, hts⟩, hE, hA, hlk⟩ := h
  subst hpc
  intro H locs ls hP hD hS hl
  exact va_gets hx hb hE.2.2.1 hS hown (hts _ hw) (fun _ h9 => h9) hdg (kk H locs ls hP hD hS hl)

set_option maxHeartbeats 1000000 in
theorem u_farlen (h : CX G X cc own Ts) (hdg : decode cc pc = .ok (.arraylength, 1)) (hpc : pc + 1 = pc') (kk : U G X cells slots ws pc' lv (.int 32 :: st)) : U G X cells slots ws pc lv (.ref G.2.2.2 :: st) := by
  obtain ⟨p, e, R, s, m, args, below, meth, c, A, nL, Q⟩ := X
  obtain ⟨⟨hx, hb, hml, hown, hts⟩, hE, hA, hlk⟩ := h
  subst hpc
  intro H locs ls hP hD hS hl
  exact va_tlen hx hb hE.2.2.2.1 hS rfl hdg (kk H locs ls hP hD hS hl)

set_option maxHeartbeats 1000000 in
theorem u_farld (h : CX G X cc own Ts) {n : Nat} (hin : n < 32) (hdg : decode cc pc = .ok (.iaload, 1)) (hpc : pc + 1 = pc') (kk : U G X cells slots ws pc' lv (.int (farT n) :: st)) : U G X cells slots ws pc lv (.int (nI n) :: .ref G.2.2.2 :: st) := by
  obtain ⟨p, e, R, s, m, args, below, meth, c, A, nL, Q⟩ := X
  obtain ⟨⟨hx, hb, hml, hown, hts⟩, hE, hA, hlk⟩ := h
  subst hpc
  intro H locs ls hP hD hS hl
  exact va_ti hx hb hE.2.2.2.1 hS (vp_in_nI hin (by decide)) (by rw [nI_clamp (by omega)]) hdg (kk H locs ls hP hD hS hl)

set_option maxHeartbeats 1000000 in
theorem u_iret (h : CX G X cc own Ts) {y : MethodName} {wc : va_W} {post : Option Value → va_W → Prop} {mc ms : Nat} {x : Int32} (hR : RT G X y (some .int) wc post mc ms) (hdg : decode cc pc = .ok (.ireturn, 1)) (h1 : cells ≤ mc) (h2 : slots ≤ ms) (hq : post (some (.int x)) ws) : U G X cells slots ws pc lv [.int x] := by
  obtain ⟨p, e, R, s, m, args, below, meth, c, A, nL, Q⟩ := X
  obtain ⟨⟨hx, hb, hml, hown, hts⟩, hE, hA, hlk⟩ := h
  intro H locs ls hP hD hS hl
  obtain ⟨r1, r2, r3, r4⟩ := hR
  subst r4
  refine W.widen h1 h2 ?_
  exact W.iret hx hb r1 (fun t ht hW => ⟨⟨_, ws, rfl, hq, by rw [ht]; exact hP, by rw [← r3]; exact hD⟩, by rw [← r3]; exact hS.F ht⟩) hS.2.2 hdg hlk

set_option maxHeartbeats 1000000 in
theorem u_vret (h : CX G X cc own Ts) {y : MethodName} {wc : va_W} {post : Option Value → va_W → Prop} {mc ms : Nat} (hR : RT G X y none wc post mc ms) (hdg : decode cc pc = .ok (.return_, 1)) (h1 : cells ≤ mc) (h2 : slots ≤ ms) (hq : post none ws) : U G X cells slots ws pc lv [] := by
  obtain ⟨p, e, R, s, m, args, below, meth, c, A, nL, Q⟩ := X
  obtain ⟨⟨hx, hb, hml, hown, hts⟩, hE, hA, hlk⟩ := h
  intro H locs ls hP hD hS hl
  obtain ⟨r1, r2, r3, r4⟩ := hR
  subst r4
  refine W.widen h1 h2 ?_
  exact W.vret hx hb r1 (fun t ht hW => ⟨⟨_, ws, rfl, hq, by rw [ht]; exact hP, by rw [← r3]; exact hD⟩, by rw [← r3]; exact hS.F ht⟩) hS.2.2 hdg hlk

set_option maxHeartbeats 1000000 in
theorem u_zret (h : CX G X cc own Ts) {y : MethodName} {wc : va_W} {post : Option Value → va_W → Prop} {mc ms : Nat} {x : Int32} (hR : RT G X y (some .boolean) wc post mc ms) (hdg : decode cc pc = .ok (.ireturn, 1)) (hn : narrow .boolean (.int x) = .int x) (h1 : cells ≤ mc) (h2 : slots ≤ ms) (hq : post (some (.int x)) ws) : U G X cells slots ws pc lv [.int x] := by
  obtain ⟨p, e, R, s, m, args, below, meth, c, A, nL, Q⟩ := X
  obtain ⟨⟨hx, hb, hml, hown, hts⟩, hE, hA, hlk⟩ := h
  intro H locs ls hP hD hS hl
  obtain ⟨r1, r2, r3, r4⟩ := hR
  subst r4
  refine W.widen h1 h2 ?_
  exact W.zret hx hb r1 hn (fun t ht hW => ⟨⟨_, ws, rfl, hq, by rw [ht]; exact hP, by rw [← r3]; exact hD⟩, by rw [← r3]; exact hS.F ht⟩) hS.2.2 hdg hlk

set_option maxHeartbeats 1000000 in
theorem u_obj (h : CX G X cc own Ts) {a idx : Nat} (h1 : Cond.methodLink own idx objectInit ∈ Ts) (h2 : Cond.instanceMethod objectInit ∈ Ts) (h3 : Cond.code objectInit ⟨#[0xb1]⟩ 1 none ∈ Ts) (hdg : decode cc pc = .ok (.invokespecial idx, 3)) (hfr : 1 ≤ (gR X).frames) (hlo : (st.map fun v => v.category).sum + 12 ≤ (gR X).locals) (hpc : pc + 3 = pc') (kk : U G X cells slots ws pc' lv st) : U G X cells slots ws pc lv (.ref a :: st) := by
  obtain ⟨p, e, R, s, m, args, below, meth, c, A, nL, Q⟩ := X
  obtain ⟨⟨hx, hb, hml, hown, hts⟩, hE, hA, hlk⟩ := h
  subst hpc
  intro H locs ls hP hD hS hl
  exact W.objInit hx hb hown (hts _ h1) (hts _ h2) (hts _ h3) rfl (by rw [hml]; exact hl.1) rfl hdg hfr (by show 2 * 0 + _ + 12 ≤ _; rw [Nat.mul_zero, Nat.zero_add]; exact hlo) (W.eq (g2 := F0 m (pc + 3) ls st) rfl (kk H locs ls hP hD hS hl))

theorem u_after {p : Program} {e : Env} {R : Room} {s : State} {m : MethodId} {args : Array Value} {below : List Frame} {meth : Method} {c : Code} {H : Heap} {locs : List Loc} {Q : State → Prop} {A : Nat → Prop} {mc ms : Nat} {wc : va_W} {post : Option Value → va_W → Prop} {ls : Array Slot} {rest st0 : List Value} {a : Array Value}
    (hr : va_Run p G.1 e R s m args below meth c H locs cells slots mc ms (F0 m pc ls st0) rest (Qm G wc H.size post a) (va_A wc H.size)) (hS : va_S A s.heap H locs) (hF : ∀ q, va_A wc H.size q → A q)
    (kk : ∀ (v : Option Value) (u : va_W) (H1 : Heap) (locs1 : List Loc), post v u → va_P G.2.1 vwCl u H1 → va_D (va_A wc H.size) u → (∀ q : Nat, q < H.size → ¬ va_A wc H.size q → H1[q]? = H[q]?) → va_S A s.heap H1 locs1 → W p G.1 e R s m args below meth c H1 locs1 (cells + mc) (slots + ms) Q (F0 m (pc + 3) ls (v.toList ++ rest))) : W p G.1 e R s m args below meth c H locs cells slots Q (F0 m pc ls st0) := by
  intro T hT X
  obtain ⟨v, st₀, t, T', L, h0, X', hL, e1, e2, ⟨⟨v', u, hv, hp, hbP, hbD⟩, hz, hk⟩, stp⟩ := hr T hT X
  cases hv
  rw [h0] at hz hk
  obtain ⟨t2, a1, b1⟩ := kk v u T'.heap (locs ++ L) hp (by rw [e1]; exact hbP) hbD (fun q h1 h2 => by rw [e1]; exact hk q h1 h2)
    ⟨Nat.le_trans hS.1 (by rw [e1]; exact hz), fun q h1 h2 => by rw [e1, hk q (Nat.lt_of_lt_of_le h1 hS.1) (fun z => h2 (hF q z))]; exact hS.2.1 q h1 h2, fun q hq => by
      rcases List.mem_append.mp hq with h | h
      · exact hS.2.2 q h
      · exact hF _ (hL q h)⟩ T' rfl X'
  exact ⟨t2, stp t2 a1, b1⟩
/-- what a caller needs of a callee's words: place, descriptor; rooms of caller and callee -/
def CWd (Ts : List Cond) (wsx : List Cond) (y : MethodName) (wsy : List Cond) (bytes : ByteArray) (maxL : Nat) (ret : Option FieldType) (n : Nat) : Prop := GoodIn Ts wsx ∧ (∃ ws', wsy = Cond.code y bytes maxL ret :: ws') ∧ (parseMethodDescriptor y.desc).map (fun d => d.parameters.length) = some n ∧ y.cls ≠ "java/lang/invoke/MethodHandle" ∧ y.cls ≠ "java/lang/invoke/VarHandle"
def fitR (rm R : Room) (maxL mc ms : Nat) : Prop := (rm.cells = mc ∧ rm.slots = ms) ∧ rm.frames + 1 ≤ R.frames ∧ 8 + (maxL + 11) + rm.locals ≤ R.locals

set_option maxHeartbeats 1000000 in
theorem u_callV (h : CX G X cc own Ts) {y : MethodName} {wsy : List Cond} {rm R0 : Room} {As : List Value} {b : Nat} {wc wr : va_W} {post : Option Value → va_W → Prop} {mc ms index n maxL ci qr : Nat} {C : String} {bytes : ByteArray} {ret : Option FieldType} {T : u_T} {N : Nat} {fs : List Value} (hM : MC G y wsy rm (.ref b :: As) wc post mc ms) (hcw : CWd Ts (wsV own index C y wsy) y wsy bytes maxL ret n) (hyC : y.cls = C) (hn : As.length = n) (hR0 : gR X = R0) (hfit : fitR rm R0 maxL mc ms) (hf : cells + mc ≤ R0.cells ∧ slots + ms ≤ R0.slots) (hci : vwCl[ci]? = some (C, T, N)) (hqr : ws[qr]? = some (b, .inr (ci, fs))) (isC isR : List Nat) (hC : isC.map (fun i => ws[i]?) = wc.map some) (hnC : va_nd isC = true) (hR2 : isR.map (fun i => ws[i]?) = wr.map some) (hnR : va_nd isR = true) (hdis : ∀ i ∈ isR, i ∉ isC) (hroom : (st.map fun v => v.category).sum ≤ 8) (hst : st0 = As.reverse ++ .ref b :: st) (hdg : decode cc pc = .ok (.invokevirtual index, 3)) (hpc : pc + 3 = pc') (kk : ∀ (v : Option Value) (u : va_W), post v u → U G X (cells + mc) (slots + ms) (wr ++ u) pc' lv (v.toList ++ st)) : U G X cells slots ws pc lv st0 := by
  obtain ⟨p, e, R, s, m, args, below, meth, c, A, nL, Q⟩ := X
  obtain ⟨⟨hx, hb, hml, hown, hts⟩, hE, hA, hlk⟩ := h
  subst hpc
  intro H locs ls hP hD hS hl
  subst hst
  have hR0 : R = R0 := hR0
  subst hR0
  obtain ⟨c1, ⟨ws', c2⟩, c3, c4, c5⟩ := hcw
  have hst0 : U G (p, e, R, s, m, args, below, meth, c, A, nL, Q) cells slots ws pc lv st → True := fun _ => trivial
  have hFc := va_free (wc := wc) hD hS hA isC hC
  have hPc := hP.sub (ws' := wc) isC (by
    have h1 : isC.filterMap (fun i => ws[i]?) = ((isC.map (fun i => ws[i]?)).filterMap id) := by rw [List.filterMap_map]; rfl
    rw [h1, hC, List.filterMap_map]
    simp)
  have hDc : va_D (fun _ => True) wc := (hD.sub isC hnC hC).weaken (fun _ _ _ _ => trivial)
  refine u_after (va_runV (As := As) (rest := st) ⟨hx, hb, hml, hown, hts⟩ (hM H.size) (cwV n hts c1 c2 hfit.1.1 hfit.1.2 ⟨hyC, c4, c5, c3⟩ hfit.2) ⟨Pm.blind, va_recv hE.1 hP hci hqr, fun U hU hW => ⟨rfl, by rw [hU], by rw [hU]; exact hPc, hDc, Env1.moved hE hS hW hU hFc⟩⟩ rfl hn hl.1 rfl (lv_room hroom) hdg hf) hS hFc (fun v u H1 locs1 hp hP1 hD1 hk1 hS1 => ?_)
  obtain ⟨hP2, hD2⟩ := va_join (wr := wr) (w1 := u) hP hD isC isR hC hR2 hnR hdis hk1 hFc hP1 hD1
  exact kk v u hp H1 locs1 ls hP2 hD2 hS1 hl

set_option maxHeartbeats 1000000 in
theorem u_callI (h : CX G X cc own Ts) {y : MethodName} {wsy : List Cond} {rm R0 : Room} {As : List Value} {b : Nat} {wc wr : va_W} {post : Option Value → va_W → Prop} {mc ms index n maxL : Nat} {bytes : ByteArray} (hM : MC G y wsy rm (.ref b :: As) wc post mc ms) (hcw : CWd Ts wsy y wsy bytes maxL none n) (hy : y.name = "<init>") (hini : Cond.initialized y.cls ∈ Ts) (hlink : Cond.methodLink own index y ∈ Ts) (hinst : Cond.instanceMethod y ∈ Ts) (hn : As.length = n) (hR0 : gR X = R0) (hfit : fitR rm R0 maxL mc ms) (hf : cells + mc ≤ R0.cells ∧ slots + ms ≤ R0.slots) (isC isR : List Nat) (hC : isC.map (fun i => ws[i]?) = wc.map some) (hnC : va_nd isC = true) (hR2 : isR.map (fun i => ws[i]?) = wr.map some) (hnR : va_nd isR = true) (hdis : ∀ i ∈ isR, i ∉ isC) (hroom : (st.map fun v => v.category).sum ≤ 8) (hst : st0 = As.reverse ++ .ref b :: st) (hdg : decode cc pc = .ok (.invokespecial index, 3)) (hpc : pc + 3 = pc') (kk : ∀ (v : Option Value) (u : va_W), post v u → U G X (cells + mc) (slots + ms) (wr ++ u) pc' lv (v.toList ++ st)) : U G X cells slots ws pc lv st0 := by
  obtain ⟨p, e, R, s, m, args, below, meth, c, A, nL, Q⟩ := X
  obtain ⟨⟨hx, hb, hml, hown, hts⟩, hE, hA, hlk⟩ := h
  subst hpc
  intro H locs ls hP hD hS hl
  subst hst
  have hR0 : R = R0 := hR0
  subst hR0
  obtain ⟨c1, ⟨ws', c2⟩, c3, c4, c5⟩ := hcw
  have hFc := va_free (wc := wc) hD hS hA isC hC
  have hPc := hP.sub (ws' := wc) isC (by
    have h1 : isC.filterMap (fun i => ws[i]?) = ((isC.map (fun i => ws[i]?)).filterMap id) := by rw [List.filterMap_map]; rfl
    rw [h1, hC, List.filterMap_map]
    simp)
  have hDc : va_D (fun _ => True) wc := (hD.sub isC hnC hC).weaken (fun _ _ _ _ => trivial)
  refine u_after (va_runI (As := As) (rest := st) ⟨hx, hb, hml, hown, hts⟩ (hM H.size) (cwI n hts c1 c2 hfit.1.1 hfit.1.2 (hts _ hini) (hts _ hlink) (hts _ hinst) hy ⟨c4, c5, c3⟩ hfit.2) ⟨Pm.blind, fun U hU hW => ⟨rfl, by rw [hU], by rw [hU]; exact hPc, hDc, Env1.moved hE hS hW hU hFc⟩⟩ rfl hn hl.1 rfl (lv_room hroom) hdg hf) hS hFc (fun v u H1 locs1 hp hP1 hD1 hk1 hS1 => ?_)
  obtain ⟨hP2, hD2⟩ := va_join (wr := wr) (w1 := u) hP hD isC isR hC hR2 hnR hdis hk1 hFc hP1 hD1
  exact kk v u hp H1 locs1 ls hP2 hD2 hS1 hl

set_option maxHeartbeats 1000000 in
theorem u_callS (h : CX G X cc own Ts) {y : MethodName} {wsy : List Cond} {rm R0 : Room} {As : List Value} {wc wr : va_W} {post : Option Value → va_W → Prop} {mc ms index n maxL : Nat} {bytes : ByteArray} {ret : Option FieldType} (hM : MC G y wsy rm As wc post mc ms) (hcw : CWd Ts (wsS own index y wsy) y wsy bytes maxL ret n) (hyC : y.cls = own) (hn : As.length = n) (hR0 : gR X = R0) (hfit : fitR rm R0 maxL mc ms) (hf : cells + mc ≤ R0.cells ∧ slots + ms ≤ R0.slots) (isC isR : List Nat) (hC : isC.map (fun i => ws[i]?) = wc.map some) (hnC : va_nd isC = true) (hR2 : isR.map (fun i => ws[i]?) = wr.map some) (hnR : va_nd isR = true) (hdis : ∀ i ∈ isR, i ∉ isC) (hroom : (st.map fun v => v.category).sum ≤ 8) (hst : st0 = As.reverse ++ st) (hdg : decode cc pc = .ok (.invokestatic index, 3)) (hpc : pc + 3 = pc') (kk : ∀ (v : Option Value) (u : va_W), post v u → U G X (cells + mc) (slots + ms) (wr ++ u) pc' lv (v.toList ++ st)) : U G X cells slots ws pc lv st0 := by
  obtain ⟨p, e, R, s, m, args, below, meth, c, A, nL, Q⟩ := X
  obtain ⟨⟨hx, hb, hml, hown, hts⟩, hE, hA, hlk⟩ := h
  subst hpc
  intro H locs ls hP hD hS hl
  subst hst
  have hR0 : R = R0 := hR0
  subst hR0
  obtain ⟨c1, ⟨ws', c2⟩, c3, c4, c5⟩ := hcw
  have hFc := va_free (wc := wc) hD hS hA isC hC
  have hPc := hP.sub (ws' := wc) isC (by
    have h1 : isC.filterMap (fun i => ws[i]?) = ((isC.map (fun i => ws[i]?)).filterMap id) := by rw [List.filterMap_map]; rfl
    rw [h1, hC, List.filterMap_map]
    simp)
  have hDc : va_D (fun _ => True) wc := (hD.sub isC hnC hC).weaken (fun _ _ _ _ => trivial)
  refine u_after (va_runS (As := As) (rest := st) ⟨hx, hb, hml, hown, hts⟩ (hM H.size) (cwS n hts c1 c2 hfit.1.1 hfit.1.2 ⟨hyC, c4, c5, c3⟩ hfit.2) ⟨Pm.blind, fun U hU hW => ⟨rfl, by rw [hU], by rw [hU]; exact hPc, hDc, Env1.moved hE hS hW hU hFc⟩⟩ rfl hn hl.1 rfl (lv_room hroom) hdg hf) hS hFc (fun v u H1 locs1 hp hP1 hD1 hk1 hS1 => ?_)
  obtain ⟨hP2, hD2⟩ := va_join (wr := wr) (w1 := u) hP hD isC isR hC hR2 hnR hdis hk1 hFc hP1 hD1
  exact kk v u hp H1 locs1 ls hP2 hD2 hS1 hl

set_option maxHeartbeats 1000000 in
theorem u_callN_isCard (h : CX G X cc "NudgeLocks$Lock" Ts) {wsy : List Cond} {rm R0 : Room} {As : List Value} {wc wr : va_W} {post : Option Value → va_W → Prop} {mc ms n maxL : Nat} {bytes : ByteArray} {ret : Option FieldType} (hM : MC G yX4_isCard wsy rm As wc post mc ms) (hcw : CWd Ts wsy yX4_isCard wsy bytes maxL ret n) (hini : Cond.initialized yX4_isCard.cls ∈ Ts) (hstt : Cond.static yX4_isCard ∈ Ts) (hn : As.length = n) (hR0 : gR X = R0) (hfit : fitR rm R0 maxL mc ms) (hf : cells + mc ≤ R0.cells ∧ slots + ms ≤ R0.slots) (isC isR : List Nat) (hC : isC.map (fun i => ws[i]?) = wc.map some) (hnC : va_nd isC = true) (hR2 : isR.map (fun i => ws[i]?) = wr.map some) (hnR : va_nd isR = true) (hdis : ∀ i ∈ isR, i ∉ isC) (hroom : (st.map fun v => v.category).sum ≤ 8) (hst : st0 = As.reverse ++ st) (hdg : decode cc pc = .ok (.invokestatic 29, 3)) (hpc : pc + 3 = pc') (kk : ∀ (v : Option Value) (u : va_W), post v u → U G X (cells + mc) (slots + ms) (wr ++ u) pc' lv (v.toList ++ st)) : U G X cells slots ws pc lv st0 := by
  obtain ⟨p, e, R, s, m, args, below, meth, c, A, nL, Q⟩ := X
  obtain ⟨⟨hx, hb, hml, hown, hts⟩, hE, hA, hlk⟩ := h
  subst hpc
  intro H locs ls hP hD hS hl
  subst hst
  have hR0 : R = R0 := hR0
  subst hR0
  obtain ⟨c1, ⟨ws', c2⟩, c3, c4, c5⟩ := hcw
  have hFc := va_free (wc := wc) hD hS hA isC hC
  have hPc := hP.sub (ws' := wc) isC (by
    have h1 : isC.filterMap (fun i => ws[i]?) = ((isC.map (fun i => ws[i]?)).filterMap id) := by rw [List.filterMap_map]; rfl
    rw [h1, hC, List.filterMap_map]
    simp)
  have hDc : va_D (fun _ => True) wc := (hD.sub isC hnC hC).weaken (fun _ _ _ _ => trivial)
  refine u_after (va_runSN (As := As) (rest := st) (host := "NudgeLocks") ⟨hx, hb, hml, hown, hts⟩ (hM H.size) ⟨va_cnB n hts c1 c2 hfit.1.1 hfit.1.2 hE.2.1.2.2.1 (hts _ hini) ⟨c4, c5, c3⟩ hfit.2, hts _ hstt, trivial⟩ ⟨Pm.blind, fun U hU hW => ⟨rfl, by rw [hU], by rw [hU]; exact hPc, hDc, Env1.moved hE hS hW hU hFc⟩⟩ rfl hn hl.1 rfl (lv_room hroom) hdg hf) hS hFc (fun v u H1 locs1 hp hP1 hD1 hk1 hS1 => ?_)
  obtain ⟨hP2, hD2⟩ := va_join (wr := wr) (w1 := u) hP hD isC isR hC hR2 hnR hdis hk1 hFc hP1 hD1
  exact kk v u hp H1 locs1 ls hP2 hD2 hS1 hl

set_option maxHeartbeats 1000000 in
theorem u_callN_isVisitor (h : CX G X cc "NudgeLocks$Lock" Ts) {wsy : List Cond} {rm R0 : Room} {As : List Value} {wc wr : va_W} {post : Option Value → va_W → Prop} {mc ms n maxL : Nat} {bytes : ByteArray} {ret : Option FieldType} (hM : MC G yX4_isVisitor wsy rm As wc post mc ms) (hcw : CWd Ts wsy yX4_isVisitor wsy bytes maxL ret n) (hini : Cond.initialized yX4_isVisitor.cls ∈ Ts) (hstt : Cond.static yX4_isVisitor ∈ Ts) (hn : As.length = n) (hR0 : gR X = R0) (hfit : fitR rm R0 maxL mc ms) (hf : cells + mc ≤ R0.cells ∧ slots + ms ≤ R0.slots) (isC isR : List Nat) (hC : isC.map (fun i => ws[i]?) = wc.map some) (hnC : va_nd isC = true) (hR2 : isR.map (fun i => ws[i]?) = wr.map some) (hnR : va_nd isR = true) (hdis : ∀ i ∈ isR, i ∉ isC) (hroom : (st.map fun v => v.category).sum ≤ 8) (hst : st0 = As.reverse ++ st) (hdg : decode cc pc = .ok (.invokestatic 74, 3)) (hpc : pc + 3 = pc') (kk : ∀ (v : Option Value) (u : va_W), post v u → U G X (cells + mc) (slots + ms) (wr ++ u) pc' lv (v.toList ++ st)) : U G X cells slots ws pc lv st0 := by
  obtain ⟨p, e, R, s, m, args, below, meth, c, A, nL, Q⟩ := X
  obtain ⟨⟨hx, hb, hml, hown, hts⟩, hE, hA, hlk⟩ := h
  subst hpc
  intro H locs ls hP hD hS hl
  subst hst
  have hR0 : R = R0 := hR0
  subst hR0
  obtain ⟨c1, ⟨ws', c2⟩, c3, c4, c5⟩ := hcw
  have hFc := va_free (wc := wc) hD hS hA isC hC
  have hPc := hP.sub (ws' := wc) isC (by
    have h1 : isC.filterMap (fun i => ws[i]?) = ((isC.map (fun i => ws[i]?)).filterMap id) := by rw [List.filterMap_map]; rfl
    rw [h1, hC, List.filterMap_map]
    simp)
  have hDc : va_D (fun _ => True) wc := (hD.sub isC hnC hC).weaken (fun _ _ _ _ => trivial)
  refine u_after (va_runSN (As := As) (rest := st) (host := "NudgeLocks") ⟨hx, hb, hml, hown, hts⟩ (hM H.size) ⟨va_cnB n hts c1 c2 hfit.1.1 hfit.1.2 hE.2.1.2.2.2 (hts _ hini) ⟨c4, c5, c3⟩ hfit.2, hts _ hstt, trivial⟩ ⟨Pm.blind, fun U hU hW => ⟨rfl, by rw [hU], by rw [hU]; exact hPc, hDc, Env1.moved hE hS hW hU hFc⟩⟩ rfl hn hl.1 rfl (lv_room hroom) hdg hf) hS hFc (fun v u H1 locs1 hp hP1 hD1 hk1 hS1 => ?_)
  obtain ⟨hP2, hD2⟩ := va_join (wr := wr) (w1 := u) hP hD isC isR hC hR2 hnR hdis hk1 hFc hP1 hD1
  exact kk v u hp H1 locs1 ls hP2 hD2 hS1 hl

def bI (b : Bool) : Int32 := if b then 1 else 0
theorem bI_nar (b : Bool) : narrow .boolean (.int (bI b)) = .int (bI b) := by cases b <;> rfl
theorem bI_t : bI true = 1 := rfl
theorem bI_f : bI false = 0 := rfl
theorem bI_0 {b : Bool} (h : bI b = 0) : b = false := by cases b; rfl; exact absurd h (by decide)
theorem bI_1 {b : Bool} (h : ¬ bI b = 0) : b = true := by cases b; exact absurd rfl h; rfl
theorem u_top {x y : Int32} (e : x = y) (kk : U G X cells slots ws pc lv (.int y :: st)) : U G X cells slots ws pc lv (.int x :: st) := by subst e; exact kk
theorem u_top2 {x y : Int32} {v : Value} (e : x = y) (kk : U G X cells slots ws pc lv (v :: .int y :: st)) : U G X cells slots ws pc lv (v :: .int x :: st) := by subst e; exact kk
theorem u_eqw {ws' : va_W} (e : ws = ws') (kk : U G X cells slots ws' pc lv st) : U G X cells slots ws pc lv st := by subst e; exact kk
theorem u_eql {lv' : List (Nat × Value)} (e : lv = lv') (kk : U G X cells slots ws pc lv' st) : U G X cells slots ws pc lv st := by subst e; exact kk
theorem u_eqs {st' : List Value} (e : st = st') (kk : U G X cells slots ws pc lv st') : U G X cells slots ws pc lv st := by subst e; exact kk

theorem u_icmp_eq_N (h : CX G X cc own Ts) {a b : Nat} {off : Int} {tgt : Nat} (hdg : decode cc pc = .ok (.if_icmp .eq off, 3)) (ht : (pc : Int) + off = (tgt : Int)) (ha : a < 2 ^ 31) (hb : b < 2 ^ 31) (hpc : pc + 3 = pc') (kt : a = b → U G X cells slots ws tgt lv st) (kf : ¬ a = b → U G X cells slots ws pc' lv st) : U G X cells slots ws pc lv (.int (nI b) :: .int (nI a) :: st) := u_icmp_eq h hdg ht hpc (fun q => kt ((nI_eq ha hb).mp q)) (fun q => kf (fun z => q ((nI_eq ha hb).mpr z)))

theorem u_if_eq_N (h : CX G X cc own Ts) {a : Nat} {off : Int} {tgt : Nat} (hdg : decode cc pc = .ok (.ifCond .eq off, 3)) (ht : (pc : Int) + off = (tgt : Int)) (ha : a < 2 ^ 31) (hpc : pc + 3 = pc') (kt : a = 0 → U G X cells slots ws tgt lv st) (kf : ¬ a = 0 → U G X cells slots ws pc' lv st) : U G X cells slots ws pc lv (.int (nI a) :: st) := u_if_eq h hdg ht hpc (fun q => kt ((nI_eq ha (by decide : 0 < 2 ^ 31)).mp q)) (fun q => kf (fun z => q ((nI_eq ha (by decide : 0 < 2 ^ 31)).mpr z)))

theorem u_icmp_ne_N (h : CX G X cc own Ts) {a b : Nat} {off : Int} {tgt : Nat} (hdg : decode cc pc = .ok (.if_icmp .ne off, 3)) (ht : (pc : Int) + off = (tgt : Int)) (ha : a < 2 ^ 31) (hb : b < 2 ^ 31) (hpc : pc + 3 = pc') (kt : ¬ a = b → U G X cells slots ws tgt lv st) (kf : a = b → U G X cells slots ws pc' lv st) : U G X cells slots ws pc lv (.int (nI b) :: .int (nI a) :: st) := u_icmp_ne h hdg ht hpc (fun q => kt (fun z => q ((nI_eq ha hb).mpr z))) (fun q => kf ((nI_eq ha hb).mp q))

theorem u_if_ne_N (h : CX G X cc own Ts) {a : Nat} {off : Int} {tgt : Nat} (hdg : decode cc pc = .ok (.ifCond .ne off, 3)) (ht : (pc : Int) + off = (tgt : Int)) (ha : a < 2 ^ 31) (hpc : pc + 3 = pc') (kt : ¬ a = 0 → U G X cells slots ws tgt lv st) (kf : a = 0 → U G X cells slots ws pc' lv st) : U G X cells slots ws pc lv (.int (nI a) :: st) := u_if_ne h hdg ht hpc (fun q => kt (fun z => q ((nI_eq ha (by decide : 0 < 2 ^ 31)).mpr z))) (fun q => kf ((nI_eq ha (by decide : 0 < 2 ^ 31)).mp q))

theorem u_icmp_lt_N (h : CX G X cc own Ts) {a b : Nat} {off : Int} {tgt : Nat} (hdg : decode cc pc = .ok (.if_icmp .lt off, 3)) (ht : (pc : Int) + off = (tgt : Int)) (ha : a < 2 ^ 31) (hb : b < 2 ^ 31) (hpc : pc + 3 = pc') (kt : a < b → U G X cells slots ws tgt lv st) (kf : b ≤ a → U G X cells slots ws pc' lv st) : U G X cells slots ws pc lv (.int (nI b) :: .int (nI a) :: st) := u_icmp_lt h hdg ht hpc (fun q => kt ((nI_ltI ha hb).mp q)) (fun q => kf (Nat.not_lt.mp (fun z => q ((nI_ltI ha hb).mpr z))))

theorem u_if_lt_N (h : CX G X cc own Ts) {a : Nat} {off : Int} {tgt : Nat} (hdg : decode cc pc = .ok (.ifCond .lt off, 3)) (ht : (pc : Int) + off = (tgt : Int)) (ha : a < 2 ^ 31) (hpc : pc + 3 = pc') (kt : a < 0 → U G X cells slots ws tgt lv st) (kf : 0 ≤ a → U G X cells slots ws pc' lv st) : U G X cells slots ws pc lv (.int (nI a) :: st) := u_if_lt h hdg ht hpc (fun q => kt ((nI_ltI ha (by decide : 0 < 2 ^ 31)).mp q)) (fun q => kf (Nat.not_lt.mp (fun z => q ((nI_ltI ha (by decide : 0 < 2 ^ 31)).mpr z))))

theorem u_icmp_ge_N (h : CX G X cc own Ts) {a b : Nat} {off : Int} {tgt : Nat} (hdg : decode cc pc = .ok (.if_icmp .ge off, 3)) (ht : (pc : Int) + off = (tgt : Int)) (ha : a < 2 ^ 31) (hb : b < 2 ^ 31) (hpc : pc + 3 = pc') (kt : b ≤ a → U G X cells slots ws tgt lv st) (kf : a < b → U G X cells slots ws pc' lv st) : U G X cells slots ws pc lv (.int (nI b) :: .int (nI a) :: st) := u_icmp_ge h hdg ht hpc (fun q => kt ((nI_leI hb ha).mp q)) (fun q => kf (Nat.not_le.mp (fun z => q ((nI_leI hb ha).mpr z))))

theorem u_if_ge_N (h : CX G X cc own Ts) {a : Nat} {off : Int} {tgt : Nat} (hdg : decode cc pc = .ok (.ifCond .ge off, 3)) (ht : (pc : Int) + off = (tgt : Int)) (ha : a < 2 ^ 31) (hpc : pc + 3 = pc') (kt : 0 ≤ a → U G X cells slots ws tgt lv st) (kf : a < 0 → U G X cells slots ws pc' lv st) : U G X cells slots ws pc lv (.int (nI a) :: st) := u_if_ge h hdg ht hpc (fun q => kt ((nI_leI (by decide : 0 < 2 ^ 31) ha).mp q)) (fun q => kf (Nat.not_le.mp (fun z => q ((nI_leI (by decide : 0 < 2 ^ 31) ha).mpr z))))

theorem u_icmp_gt_N (h : CX G X cc own Ts) {a b : Nat} {off : Int} {tgt : Nat} (hdg : decode cc pc = .ok (.if_icmp .gt off, 3)) (ht : (pc : Int) + off = (tgt : Int)) (ha : a < 2 ^ 31) (hb : b < 2 ^ 31) (hpc : pc + 3 = pc') (kt : b < a → U G X cells slots ws tgt lv st) (kf : a ≤ b → U G X cells slots ws pc' lv st) : U G X cells slots ws pc lv (.int (nI b) :: .int (nI a) :: st) := u_icmp_gt h hdg ht hpc (fun q => kt ((nI_ltI hb ha).mp q)) (fun q => kf (Nat.not_lt.mp (fun z => q ((nI_ltI hb ha).mpr z))))

theorem u_if_gt_N (h : CX G X cc own Ts) {a : Nat} {off : Int} {tgt : Nat} (hdg : decode cc pc = .ok (.ifCond .gt off, 3)) (ht : (pc : Int) + off = (tgt : Int)) (ha : a < 2 ^ 31) (hpc : pc + 3 = pc') (kt : 0 < a → U G X cells slots ws tgt lv st) (kf : a ≤ 0 → U G X cells slots ws pc' lv st) : U G X cells slots ws pc lv (.int (nI a) :: st) := u_if_gt h hdg ht hpc (fun q => kt ((nI_ltI (by decide : 0 < 2 ^ 31) ha).mp q)) (fun q => kf (Nat.not_lt.mp (fun z => q ((nI_ltI (by decide : 0 < 2 ^ 31) ha).mpr z))))

theorem u_icmp_le_N (h : CX G X cc own Ts) {a b : Nat} {off : Int} {tgt : Nat} (hdg : decode cc pc = .ok (.if_icmp .le off, 3)) (ht : (pc : Int) + off = (tgt : Int)) (ha : a < 2 ^ 31) (hb : b < 2 ^ 31) (hpc : pc + 3 = pc') (kt : a ≤ b → U G X cells slots ws tgt lv st) (kf : b < a → U G X cells slots ws pc' lv st) : U G X cells slots ws pc lv (.int (nI b) :: .int (nI a) :: st) := u_icmp_le h hdg ht hpc (fun q => kt ((nI_leI ha hb).mp q)) (fun q => kf (Nat.not_le.mp (fun z => q ((nI_leI ha hb).mpr z))))

theorem u_if_le_N (h : CX G X cc own Ts) {a : Nat} {off : Int} {tgt : Nat} (hdg : decode cc pc = .ok (.ifCond .le off, 3)) (ht : (pc : Int) + off = (tgt : Int)) (ha : a < 2 ^ 31) (hpc : pc + 3 = pc') (kt : a ≤ 0 → U G X cells slots ws tgt lv st) (kf : 0 < a → U G X cells slots ws pc' lv st) : U G X cells slots ws pc lv (.int (nI a) :: st) := u_if_le h hdg ht hpc (fun q => kt ((nI_leI ha (by decide : 0 < 2 ^ 31)).mp q)) (fun q => kf (Nat.not_le.mp (fun z => q ((nI_leI ha (by decide : 0 < 2 ^ 31)).mpr z))))

theorem u_if_eq_B (h : CX G X cc own Ts) {b : Bool} {off : Int} {tgt : Nat} (hdg : decode cc pc = .ok (.ifCond .eq off, 3)) (ht : (pc : Int) + off = (tgt : Int)) (hpc : pc + 3 = pc') (kt : b = false → U G X cells slots ws tgt lv st) (kf : b = true → U G X cells slots ws pc' lv st) : U G X cells slots ws pc lv (.int (bI b) :: st) := u_if_eq h hdg ht hpc (fun q => kt (bI_0 q)) (fun q => kf (bI_1 q))

theorem u_if_ne_B (h : CX G X cc own Ts) {b : Bool} {off : Int} {tgt : Nat} (hdg : decode cc pc = .ok (.ifCond .ne off, 3)) (ht : (pc : Int) + off = (tgt : Int)) (hpc : pc + 3 = pc') (kt : b = true → U G X cells slots ws tgt lv st) (kf : b = false → U G X cells slots ws pc' lv st) : U G X cells slots ws pc lv (.int (bI b) :: st) := u_if_ne h hdg ht hpc (fun q => kt (bI_1 q)) (fun q => kf (bI_0 q))

theorem ti_out {x : Int32} {n : Nat} (hn : n < 2 ^ 31) (hx : ∀ k : Nat, k < n → ¬ x = nI k) : x.toInt < 0 ∨ (n : Int) - 1 < x.toInt := by
  rcases Int.lt_or_le x.toInt 0 with q | q
  · exact Or.inl q
  · refine Or.inr ?_
    rcases Int.lt_or_le ((n : Int) - 1) x.toInt with q2 | q2
    · exact q2
    · exfalso
      refine hx x.toInt.toNat (by omega) (Int32.toInt_inj.mp ?_)
      rw [nI_toInt (by omega)]
      omega
theorem ti_in {n : Nat} (hn : n < 2 ^ 31) : (nI n).toInt = (n : Int) := nI_toInt hn
end
