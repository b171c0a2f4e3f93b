section
variable {G : Gx} {X : Cx} {cc : ByteArray} {own : String} {Ts : List Cond} {cells slots : Nat} {ws : va_W} {pc pc' : Nat} {lv : List (Nat × Value)} {st st0 : List Value}
set_option maxHeartbeats 1000000 in
theorem u_cpyI (h : CX G X cc own Ts) {index a0 a n0 n1 sp dp n : Nat} {f g : Nat → Int32} {ws' : va_W} (q0 q1 : Nat) (h1 : Cond.methodLink own index arraycopyName ∈ Ts) (h2 : Cond.native arraycopyName ∈ Ts) (h3 : Cond.static arraycopyName ∈ Ts) (h4 : Cond.initialized "java/lang/System" ∈ Ts) (ha0 : ws[q0]? = some (a0, aI G n0 f)) (ha1 : ws[q1]? = some (a, aI G n1 g)) (hs : sp + n ≤ n0) (hd : dp + n ≤ n1) (hn0 : n0 < 2 ^ 31) (hn1 : n1 < 2 ^ 31) (hfr : 1 ≤ (gR X).frames) (hlo : (st.map fun v => v.category).sum + 18 ≤ (gR X).locals) (hw : ws.set q1 (a, aI G n1 (va_cpy f g sp dp n)) = ws') (hdg : decode cc pc = .ok (.invokestatic index, 3)) (hpc : pc + 3 = pc') (kk : U G X cells slots ws' pc' lv st) : U G X cells slots ws pc lv (.int (nI n) :: .int (nI dp) :: .ref a :: .int (nI sp) :: .ref a0 :: st) := by
  obtain ⟨p, e, R, s, m, args, below, meth, c, A, nL, Q⟩ := X
  obtain ⟨⟨hx, hb, hml, hown, hts⟩, hE, hA, hlk⟩ := h
  subst hpc
  subst hw
  intro H locs ls hP hD hS hl
  have e1 : (nI sp).toNatClampNeg = sp := nI_clamp (by omega)
  have e2 : (nI dp).toNatClampNeg = dp := nI_clamp (by omega)
  have e3 : (nI n).toNatClampNeg = n := nI_clamp (by omega)
  refine va_copyi hx hb (by rw [hml]; exact hl.1.symm) hown (hts _ h1) (hts _ h2) (hts _ h3) (hts _ h4) hE.1 hP hD hS q0 q1 0 0 ha0 ha1 rfl rfl rfl (nI_pos (by omega)) (nI_pos (by omega)) (nI_pos (by omega)) (by rw [e1, e3]; exact hs) (by rw [e2, e3]; exact hd) (fun i hi => rfl) hfr hlo hdg (fun H1 locs1 hP hD hS => ?_)
  rw [e1, e2, e3] at hP hD
  exact kk H1 locs1 ls hP hD hS hl
set_option maxHeartbeats 1000000 in
theorem u_cpyB (h : CX G X cc own Ts) {index a0 a n0 n1 sp dp n : Nat} {f g : Nat → Int32} {ws' : va_W} (q0 q1 : Nat) (h1 : Cond.methodLink own index arraycopyName ∈ Ts) (h2 : Cond.native arraycopyName ∈ Ts) (h3 : Cond.static arraycopyName ∈ Ts) (h4 : Cond.initialized "java/lang/System" ∈ Ts) (ha0 : ws[q0]? = some (a0, aB G n0 f)) (ha1 : ws[q1]? = some (a, aB G n1 g)) (hs : sp + n ≤ n0) (hd : dp + n ≤ n1) (hn0 : n0 < 2 ^ 31) (hn1 : n1 < 2 ^ 31) (hfit : ∀ i : Nat, i < n → fits .byte (.int (f (sp + i))) = true) (hfr : 1 ≤ (gR X).frames) (hlo : (st.map fun v => v.category).sum + 18 ≤ (gR X).locals) (hw : ws.set q1 (a, aB G n1 (va_cpy f g sp dp n)) = ws') (hdg : decode cc pc = .ok (.invokestatic index, 3)) (hpc : pc + 3 = pc') (kk : U G X cells slots ws' pc' lv st) : U G X cells slots ws pc lv (.int (nI n) :: .int (nI dp) :: .ref a :: .int (nI sp) :: .ref a0 :: st) := by
  obtain ⟨p, e, R, s, m, args, below, meth, c, A, nL, Q⟩ := X
  obtain ⟨⟨hx, hb, hml, hown, hts⟩, hE, hA, hlk⟩ := h
  subst hpc
  subst hw
  intro H locs ls hP hD hS hl
  have e1 : (nI sp).toNatClampNeg = sp := nI_clamp (by omega)
  have e2 : (nI dp).toNatClampNeg = dp := nI_clamp (by omega)
  have e3 : (nI n).toNatClampNeg = n := nI_clamp (by omega)
  refine va_copyi hx hb (by rw [hml]; exact hl.1.symm) hown (hts _ h1) (hts _ h2) (hts _ h3) (hts _ h4) hE.1 hP hD hS q0 q1 1 1 ha0 ha1 rfl rfl rfl (nI_pos (by omega)) (nI_pos (by omega)) (nI_pos (by omega)) (by rw [e1, e3]; exact hs) (by rw [e2, e3]; exact hd) (fun i hi => by rw [e1]; rw [e3] at hi; exact hfit i hi) hfr hlo hdg (fun H1 locs1 hP hD hS => ?_)
  rw [e1, e2, e3] at hP hD
  exact kk H1 locs1 ls hP hD hS hl
set_option maxHeartbeats 1000000 in
theorem u_callT (h : CX G X cc own Ts) {y : MethodName} {wsy : List Cond} {rm R0 : Room} {As : List Value} {wc wr : va_W} {post : Option Value → va_W → Prop} {mc ms index n maxL : Nat} {bytes : ByteArray} {ret : Option FieldType} (hM : MC G y wsy rm As wc post mc ms) (hcw : CWd Ts (va_wsS own index y wsy) y wsy bytes maxL ret n) (hn : As.length = n) (hR0 : gR X = R0) (hfit : fitR rm R0 maxL mc ms) (hf : cells + mc ≤ R0.cells ∧ slots + ms ≤ R0.slots) (isC isR : List Nat) (hC : isC.map (fun i => ws[i]?) = wc.map some) (hnC : va_nd isC = true) (hR2 : isR.map (fun i => ws[i]?) = wr.map some) (hnR : va_nd isR = true) (hdis : ∀ i ∈ isR, i ∉ isC) (hroom : (st.map fun v => v.category).sum ≤ 8) (hst : st0 = As.reverse ++ st) (hdg : decode cc pc = .ok (.invokestatic index, 3)) (hpc : pc + 3 = pc') (kk : ∀ (v : Option Value) (u : va_W), post v u → U G X (cells + mc) (slots + ms) (wr ++ u) pc' lv (v.toList ++ st)) : U G X cells slots ws pc lv st0 := by
  obtain ⟨p, e, R, s, m, args, below, meth, c, A, nL, Q⟩ := X
  obtain ⟨⟨hx, hb, hml, hown, hts⟩, hE, hA, hlk⟩ := h
  subst hpc
  intro H locs ls hP hD hS hl
  subst hst
  have hR0 : R = R0 := hR0
  subst hR0
  obtain ⟨c1, ⟨ws', c2⟩, c3, c4, c5⟩ := hcw
  have hFc := va_free (wc := wc) hD hS hA isC hC
  have hPc := hP.sub (ws' := wc) isC (by
    have h1 : isC.filterMap (fun i => ws[i]?) = ((isC.map (fun i => ws[i]?)).filterMap id) := by rw [List.filterMap_map]; rfl
    rw [h1, hC, List.filterMap_map]
    simp)
  have hDc : va_D (fun _ => True) wc := (hD.sub isC hnC hC).weaken (fun _ _ _ _ => trivial)
  refine u_after (va_runS (As := As) (rest := st) ⟨hx, hb, hml, hown, hts⟩ (hM H.size) (va_cwS n hts c1 c2 hfit.1.1 hfit.1.2 ⟨c4, c5, c3⟩ hfit.2) ⟨Pm.blind, fun U hU hW => ⟨rfl, by rw [hU], by rw [hU]; exact hPc, hDc, Env1.moved hE hS hW hU hFc⟩⟩ rfl hn hl.1 rfl (lv_room hroom) hdg hf) hS hFc (fun v u H1 locs1 hp hP1 hD1 hk1 hS1 => ?_)
  obtain ⟨hP2, hD2⟩ := va_join (wr := wr) (w1 := u) hP hD isC isR hC hR2 hnR hdis hk1 hFc hP1 hD1
  exact kk v u hp H1 locs1 ls hP2 hD2 hS1 hl

end
