/-! what makes cells; worlds with a tail -/
def NW (Ts : List Cond) (own : String) (index ci N : Nat) (fs : List Value) : Prop := ∃ (C : String) (T : u_T) (ty : Nat → FieldType), vwCl[ci]? = some (C, T, N) ∧ (∀ w ∈ u_ws C T N, w ∈ Ts) ∧ (∀ k, k < N → parseFieldDescriptor (T k).2.2.1 = some (ty k)) ∧ (∀ j, j < N → defaultValue (ty j) = vp_V fs j) ∧ Cond.classLink own index C ∈ Ts ∧ Cond.instantiable C N ∈ Ts ∧ Cond.initialized C ∈ Ts
theorem va_D_iff {A : Nat → Prop} {ws : va_W} : va_D A ws ↔ ws.Pairwise (fun p q => p.1 ≠ q.1) ∧ ∀ q ∈ ws, A q.1 := by
  constructor
  · intro h
    refine ⟨List.pairwise_iff_getElem.mpr (fun i j hi hj hij e => ?_), fun q hq => ?_⟩
    · have := h.1 i j ws[i] ws[j] (List.getElem?_eq_getElem hi) (List.getElem?_eq_getElem hj) e
      omega
    · obtain ⟨k, hk⟩ := List.getElem?_of_mem hq
      exact h.2 k q hk
  · intro ⟨h1, h2⟩
    refine ⟨fun i j p q hp hq e => ?_, fun k q hk => h2 q (List.mem_of_getElem? hk)⟩
    obtain ⟨hi, ep⟩ := List.getElem?_eq_some_iff.mp hp
    obtain ⟨hj, eq⟩ := List.getElem?_eq_some_iff.mp hq
    have h3 := List.pairwise_iff_getElem.mp h1
    rcases Nat.lt_trichotomy i j with c | c | c
    · exact absurd (by rw [ep, eq]; exact e) (h3 i j hi hj c)
    · exact c
    · exact absurd (by rw [ep, eq]; exact e.symm) (h3 j i hj hi c)
theorem va_D_perm {A : Nat → Prop} {ws ws' : va_W} (hp : ws.Perm ws') (h : va_D A ws) : va_D A ws' := by
  rw [va_D_iff] at h ⊢
  exact ⟨(hp.pairwise_iff (fun {x y} (q : x.1 ≠ y.1) => (fun e => q e.symm))).mp h.1, fun q hq => h.2 q (hp.mem_iff.mpr hq)⟩
theorem va_P_perm {D : va_G} {cl : List vw_C} {ws ws' : va_W} {H : Heap} (hp : ws.Perm ws') (h : va_P D cl ws H) : va_P D cl ws' H := by
  intro k q hk
  obtain ⟨j, hj⟩ := List.getElem?_of_mem (hp.mem_iff.mpr (List.mem_of_getElem? hk))
  exact h j q hj
theorem rng_l (wc wr : va_W) : (List.range wc.length).map (fun i => (wc ++ wr)[i]?) = wc.map some := by
  apply List.ext_getElem?
  intro k
  rw [List.getElem?_map, List.getElem?_map]
  by_cases h : k < wc.length
  · rw [List.getElem?_range h]
    show some ((wc ++ wr)[k]?) = _
    rw [List.getElem?_append_left h, List.getElem?_eq_getElem h]
    rfl
  · rw [List.getElem?_eq_none (by simp; omega), List.getElem?_eq_none (by omega)]
    rfl
theorem rng_r (wc wr : va_W) : (List.range' wc.length wr.length).map (fun i => (wc ++ wr)[i]?) = wr.map some := by
  apply List.ext_getElem?
  intro k
  rw [List.getElem?_map, List.getElem?_map]
  by_cases h : k < wr.length
  · rw [List.getElem?_range' h]
    show some ((wc ++ wr)[wc.length + 1 * k]?) = _
    rw [List.getElem?_append_right (by omega), show wc.length + 1 * k - wc.length = k by omega, List.getElem?_eq_getElem h]
    rfl
  · rw [List.getElem?_eq_none (by simp; omega), List.getElem?_eq_none (by omega)]
    rfl
theorem nd_iff : ∀ (l : List Nat), l.Nodup → va_nd l = true
  | [], _ => rfl
  | a :: l, h => by
    rw [List.nodup_cons] at h
    simp only [va_nd, Bool.and_eq_true, decide_eq_true_eq]
    exact ⟨h.1, nd_iff l h.2⟩
section
variable {G : Gx} {X : Cx} {cc : ByteArray} {own : String} {Ts : List Cond} {cells slots : Nat} {ws : va_W} {pc pc' : Nat} {lv : List (Nat × Value)} {st st0 : List Value}
theorem u_perm {ws' : va_W} (hp : ws.Perm ws') (kk : U G X cells slots ws' pc lv st) : U G X cells slots ws pc lv st := by
  obtain ⟨p, e, R, s, m, args, below, meth, c, A, nL, Q⟩ := X
  intro H locs ls hP hD hS hl
  exact kk H locs ls (va_P_perm hp hP) (va_D_perm hp hD) hS hl
/-- the front in another order, before a tail -/
theorem u_wpT {W W' T : va_W} (is : List Nat) (hn : va_nd is = true) (hs : is.map (fun i => W[i]?) = W'.map some) (kk : U G X cells slots (W' ++ T) pc lv st) : U G X cells slots (W ++ T) pc lv st := by
  obtain ⟨p, e, R, s, m, args, below, meth, c, A, nL, Q⟩ := X
  intro H locs ls hP hD hS hl
  have hD' := va_D_iff.mp hD
  have hP1 : va_P G.2.1 vwCl W H := fun k q hk => hP k q (by
    have := (List.getElem?_eq_some_iff.mp hk).1
    rw [List.getElem?_append_left this]; exact hk)
  have hD1 : va_D A W := va_D_iff.mpr ⟨(List.pairwise_append.mp hD'.1).1, fun q hq => hD'.2 q (List.mem_append_left _ hq)⟩
  have e1 : is.filterMap (fun i => W[i]?) = W' := by
    have h1 : is.filterMap (fun i => W[i]?) = ((is.map (fun i => W[i]?)).filterMap id) := by rw [List.filterMap_map]; rfl
    rw [h1, hs, List.filterMap_map]
    simp
  have hP2 := hP1.sub is e1
  have hD2 := hD1.sub is hn hs
  have hmem : ∀ q ∈ W', q ∈ W := by
    intro q hq
    rw [← e1] at hq
    obtain ⟨i, -, hi⟩ := List.mem_filterMap.mp hq
    exact List.mem_of_getElem? hi
  refine kk H locs ls ?_ ?_ hS hl
  · intro k q hk
    rcases List.mem_append.mp (List.mem_of_getElem? hk) with h | h
    · obtain ⟨j, hj⟩ := List.getElem?_of_mem h
      exact hP2 j q hj
    · obtain ⟨j, hj⟩ := List.getElem?_of_mem (List.mem_append_right W h)
      exact hP j q hj
  · refine va_D_iff.mpr ⟨List.pairwise_append.mpr ⟨(va_D_iff.mp hD2).1, (List.pairwise_append.mp hD'.1).2.1, fun x hx y hy => (List.pairwise_append.mp hD'.1).2.2 x (hmem x hx) y hy⟩, fun q hq => ?_⟩
    rcases List.mem_append.mp hq with h | h
    · exact hD'.2 q (List.mem_append_left _ (hmem q h))
    · exact hD'.2 q (List.mem_append_right _ h)
set_option maxHeartbeats 1000000 in
theorem u_new (h : CX G X cc own Ts) {index ci N : Nat} {fs : List Value} {R0 : Room} (hN : NW Ts own index ci N fs) (hR0 : gR X = R0) (hc : cells + 1 ≤ R0.cells) (hs : slots + N ≤ R0.slots) (hdg : decode cc pc = .ok (.new index, 3)) (hpc : pc + 3 = pc') (kk : ∀ q : Nat, U G X (cells + 1) (slots + N) (ws ++ [(q, .inr (ci, fs))]) pc' lv (.ref q :: st)) : U G X cells slots ws pc lv st := by
  obtain ⟨p, e, R, s, m, args, below, meth, c, A, nL, Q⟩ := X
  obtain ⟨⟨hx, hb, hml, hown, hts⟩, hE, hA, hlk⟩ := h
  subst hpc
  have hR0 : R = R0 := hR0
  subst hR0
  obtain ⟨C, T, ty, n1, n2, n3, n4, n5, n6, n7⟩ := hN
  intro H locs ls hP hD hS hl
  exact va_new hx hb hts n2 ty n3 hown (hts _ n5) (hts _ n6) (hts _ n7) hE.1 hP hD hS hA n1 n4 hc hs hdg (fun q H1 hP1 hD1 hS1 => kk q H1 locs ls hP1 hD1 hS1 hl)
set_option maxHeartbeats 1000000 in
theorem u_newI (h : CX G X cc own Ts) {N : Nat} {R0 : Room} (hw : Cond.arrayClass .int ∈ Ts) (hN : N < 2 ^ 20) (hR0 : gR X = R0) (hc : cells + 1 ≤ R0.cells) (hs : slots + N ≤ R0.slots) (hdg : decode cc pc = .ok (.newarray .int, 2)) (hpc : pc + 2 = pc') (kk : ∀ q : Nat, U G X (cells + 1) (slots + N) (ws ++ [(q, aI G N (fun _ => 0))]) pc' lv (.ref q :: st)) : U G X cells slots ws pc lv (.int (nI N) :: st) := by
  obtain ⟨p, e, R, s, m, args, below, meth, c, A, nL, Q⟩ := X
  obtain ⟨⟨hx, hb, hml, hown, hts⟩, hE, hA, hlk⟩ := h
  subst hpc
  have hR0 : R = R0 := hR0
  subst hR0
  intro H locs ls hP hD hS hl
  refine va_newa (atype := .int) (ty := .int) (N' := N) (a0 := (N, .inl (fun _ => 0))) hx hb (hts _ hw) rfl hE.1 hP hD hS hA (fun _ => rfl) (nI_pos (by omega)) (nI_clamp (by omega)) (by show N * 4 ≤ _; omega) hc hs hdg (fun q cA H1 hK1 hP1 hD1 hS1 => ?_)
  have e1 := (hK1.2 5 (cA, .int) rfl).2
  have e2 := (hE.1.2 0 (G.2.2.1 0, .int) rfl).2
  have e3 : cA = G.2.2.1 0 := Option.some.inj (Eq.trans (Eq.symm e1) e2)
  subst e3
  exact kk q H1 locs ls hP1 hD1 hS1 hl
set_option maxHeartbeats 1000000 in
theorem u_newB (h : CX G X cc own Ts) {N : Nat} {R0 : Room} (hw : Cond.arrayClass .byte ∈ Ts) (hN : N < 2 ^ 20) (hR0 : gR X = R0) (hc : cells + 1 ≤ R0.cells) (hs : slots + N ≤ R0.slots) (hdg : decode cc pc = .ok (.newarray .byte, 2)) (hpc : pc + 2 = pc') (kk : ∀ q : Nat, U G X (cells + 1) (slots + N) (ws ++ [(q, aB G N (fun _ => 0))]) pc' lv (.ref q :: st)) : U G X cells slots ws pc lv (.int (nI N) :: st) := by
  obtain ⟨p, e, R, s, m, args, below, meth, c, A, nL, Q⟩ := X
  obtain ⟨⟨hx, hb, hml, hown, hts⟩, hE, hA, hlk⟩ := h
  subst hpc
  have hR0 : R = R0 := hR0
  subst hR0
  intro H locs ls hP hD hS hl
  refine va_newa (atype := .byte) (ty := .byte) (N' := N) (a0 := (N, .inl (fun _ => 0))) hx hb (hts _ hw) rfl hE.1 hP hD hS hA (fun _ => rfl) (nI_pos (by omega)) (nI_clamp (by omega)) (by show N * 1 ≤ _; omega) hc hs hdg (fun q cA H1 hK1 hP1 hD1 hS1 => ?_)
  have e1 := (hK1.2 5 (cA, .byte) rfl).2
  have e2 := (hE.1.2 1 (G.2.2.1 1, .byte) rfl).2
  have e3 : cA = G.2.2.1 1 := Option.some.inj (Eq.trans (Eq.symm e1) e2)
  subst e3
  exact kk q H1 locs ls hP1 hD1 hS1 hl
set_option maxHeartbeats 1000000 in
theorem u_newC (h : CX G X cc own Ts) {N : Nat} {R0 : Room} (hw : Cond.arrayClass .char ∈ Ts) (hN : N < 2 ^ 20) (hR0 : gR X = R0) (hc : cells + 1 ≤ R0.cells) (hs : slots + N ≤ R0.slots) (hdg : decode cc pc = .ok (.newarray .char, 2)) (hpc : pc + 2 = pc') (kk : ∀ q : Nat, U G X (cells + 1) (slots + N) (ws ++ [(q, aC G N (fun _ => 0))]) pc' lv (.ref q :: st)) : U G X cells slots ws pc lv (.int (nI N) :: st) := by
  obtain ⟨p, e, R, s, m, args, below, meth, c, A, nL, Q⟩ := X
  obtain ⟨⟨hx, hb, hml, hown, hts⟩, hE, hA, hlk⟩ := h
  subst hpc
  have hR0 : R = R0 := hR0
  subst hR0
  intro H locs ls hP hD hS hl
  refine va_newa (atype := .char) (ty := .char) (N' := N) (a0 := (N, .inl (fun _ => 0))) hx hb (hts _ hw) rfl hE.1 hP hD hS hA (fun _ => rfl) (nI_pos (by omega)) (nI_clamp (by omega)) (by show N * 2 ≤ _; omega) hc hs hdg (fun q cA H1 hK1 hP1 hD1 hS1 => ?_)
  have e1 := (hK1.2 5 (cA, .char) rfl).2
  have e2 := (hE.1.2 2 (G.2.2.1 2, .char) rfl).2
  have e3 : cA = G.2.2.1 2 := Option.some.inj (Eq.trans (Eq.symm e1) e2)
  subst e3
  exact kk q H1 locs ls hP1 hD1 hS1 hl
set_option maxHeartbeats 1000000 in
theorem u_newL (h : CX G X cc own Ts) {N index : Nat} {R0 : Room} (hw : Cond.classLink own index "NudgeLocks$Lock" ∈ Ts) (hN : N < 2 ^ 20) (hR0 : gR X = R0) (hc : cells + 1 ≤ R0.cells) (hs : slots + N ≤ R0.slots) (hdg : decode cc pc = .ok (.anewarray index, 3)) (hpc : pc + 3 = pc') (kk : ∀ q : Nat, U G X (cells + 1) (slots + N) (ws ++ [(q, aL G N (fun _ => none))]) pc' lv (.ref q :: st)) : U G X cells slots ws pc lv (.int (nI N) :: st) := by
  obtain ⟨p, e, R, s, m, args, below, meth, c, A, nL, Q⟩ := X
  obtain ⟨⟨hx, hb, hml, hown, hts⟩, hE, hA, hlk⟩ := h
  subst hpc
  have hR0 : R = R0 := hR0
  subst hR0
  intro H locs ls hP hD hS hl
  refine va_newq (N' := N) hx hb hown (hts _ hw) hE.2.2.2.2.1 hE.1 hP hD hS hA (nI_pos (by omega)) (nI_clamp (by omega)) (by omega) hc hs hdg (fun q cA H1 hK1 hP1 hD1 hS1 => ?_)
  obtain ⟨-, -, -, -, -, e1⟩ := (hK1.2 5 (cA, .object "NudgeLocks$Lock") rfl).2
  obtain ⟨-, -, -, -, -, e2⟩ := (hE.1.2 3 (G.2.2.1 3, .object "NudgeLocks$Lock") rfl).2
  have e3 : cA = G.2.2.1 3 := Option.some.inj (Eq.trans (Eq.symm e1) e2)
  subst e3
  exact kk q H1 locs ls hP1 hD1 hS1 hl
set_option maxHeartbeats 1000000 in
theorem u_newS (h : CX G X cc own Ts) {N index : Nat} {R0 : Room} (hw : Cond.classLink own index "NudgeLocks$State" ∈ Ts) (hN : N < 2 ^ 20) (hR0 : gR X = R0) (hc : cells + 1 ≤ R0.cells) (hs : slots + N ≤ R0.slots) (hdg : decode cc pc = .ok (.anewarray index, 3)) (hpc : pc + 3 = pc') (kk : ∀ q : Nat, U G X (cells + 1) (slots + N) (ws ++ [(q, aS G N (fun _ => none))]) pc' lv (.ref q :: st)) : U G X cells slots ws pc lv (.int (nI N) :: st) := by
  obtain ⟨p, e, R, s, m, args, below, meth, c, A, nL, Q⟩ := X
  obtain ⟨⟨hx, hb, hml, hown, hts⟩, hE, hA, hlk⟩ := h
  subst hpc
  have hR0 : R = R0 := hR0
  subst hR0
  intro H locs ls hP hD hS hl
  refine va_newq (N' := N) hx hb hown (hts _ hw) hE.2.2.2.2.2 hE.1 hP hD hS hA (nI_pos (by omega)) (nI_clamp (by omega)) (by omega) hc hs hdg (fun q cA H1 hK1 hP1 hD1 hS1 => ?_)
  obtain ⟨-, -, -, -, -, e1⟩ := (hK1.2 5 (cA, .object "NudgeLocks$State") rfl).2
  obtain ⟨-, -, -, -, -, e2⟩ := (hE.1.2 4 (G.2.2.1 4, .object "NudgeLocks$State") rfl).2
  have e3 : cA = G.2.2.1 4 := Option.some.inj (Eq.trans (Eq.symm e1) e2)
  subst e3
  exact kk q H1 locs ls hP1 hD1 hS1 hl
/-- a virtual call whose cells stand in front, whatever is behind -/
theorem u_callVA (h : CX G X cc own Ts) {y : MethodName} {wsy : List Cond} {rm R0 : Room} {As : List Value} {b : Nat} {wc wr : va_W} {post : Option Value → va_W → Prop} {mc ms index n maxL ci qr : Nat} {C : String} {bytes : ByteArray} {ret : Option FieldType} {T : u_T} {N : Nat} {fs : List Value} (hM : MC G y wsy rm (.ref b :: As) wc post mc ms) (hcw : CWd Ts (wsV own index C y wsy) y wsy bytes maxL ret n) (hyC : y.cls = C) (hn : As.length = n) (hR0 : gR X = R0) (hfit : fitR rm R0 maxL mc ms) (hf : cells + mc ≤ R0.cells ∧ slots + ms ≤ R0.slots) (hci : vwCl[ci]? = some (C, T, N)) (hqr : (wc ++ wr)[qr]? = some (b, .inr (ci, fs))) (hroom : (st.map fun v => v.category).sum ≤ 8) (hst : st0 = As.reverse ++ .ref b :: st) (hdg : decode cc pc = .ok (.invokevirtual index, 3)) (hpc : pc + 3 = pc') (kk : ∀ (v : Option Value) (u : va_W), post v u → U G X (cells + mc) (slots + ms) (u ++ wr) pc' lv (v.toList ++ st)) : U G X cells slots (wc ++ wr) pc lv st0 :=
  u_callV h hM hcw hyC hn hR0 hfit hf hci hqr (List.range wc.length) (List.range' wc.length wr.length) (rng_l wc wr) (nd_iff _ List.nodup_range) (rng_r wc wr) (nd_iff _ List.nodup_range') (fun i h1 h2 => by rw [List.mem_range] at h2; rw [List.mem_range'_1] at h1; omega) hroom hst hdg hpc (fun v u hp => u_perm List.perm_append_comm (kk v u hp))
/-- a constructor's, likewise -/
theorem u_callIA (h : CX G X cc own Ts) {y : MethodName} {wsy : List Cond} {rm R0 : Room} {As : List Value} {b : Nat} {wc wr : va_W} {post : Option Value → va_W → Prop} {mc ms index n maxL : Nat} {bytes : ByteArray} (hM : MC G y wsy rm (.ref b :: As) wc post mc ms) (hcw : CWd Ts wsy y wsy bytes maxL none n) (hy : y.name = "<init>") (hini : Cond.initialized y.cls ∈ Ts) (hlink : Cond.methodLink own index y ∈ Ts) (hinst : Cond.instanceMethod y ∈ Ts) (hn : As.length = n) (hR0 : gR X = R0) (hfit : fitR rm R0 maxL mc ms) (hf : cells + mc ≤ R0.cells ∧ slots + ms ≤ R0.slots) (hroom : (st.map fun v => v.category).sum ≤ 8) (hst : st0 = As.reverse ++ .ref b :: st) (hdg : decode cc pc = .ok (.invokespecial index, 3)) (hpc : pc + 3 = pc') (kk : ∀ (v : Option Value) (u : va_W), post v u → U G X (cells + mc) (slots + ms) (u ++ wr) pc' lv (v.toList ++ st)) : U G X cells slots (wc ++ wr) pc lv st0 :=
  u_callI h hM hcw hy hini hlink hinst hn hR0 hfit hf (List.range wc.length) (List.range' wc.length wr.length) (rng_l wc wr) (nd_iff _ List.nodup_range) (rng_r wc wr) (nd_iff _ List.nodup_range') (fun i h1 h2 => by rw [List.mem_range] at h2; rw [List.mem_range'_1] at h1; omega) hroom hst hdg hpc (fun v u hp => u_perm List.perm_append_comm (kk v u hp))
end
