section
variable {G : Gx} {X : Cx} {cc : ByteArray} {own : String} {Ts : List Cond} {cells slots : Nat} {ws : va_W} {pc pc' : Nat} {lv : List (Nat × Value)} {st : List Value}
set_option maxHeartbeats 1000000 in
theorem u_cpyI (h : CX G X cc own Ts) {index a0 a n0 n1 sp dp n : Nat} {f g : Nat → Int32} {ws' : va_W} (q0 q1 : Nat) (h1 : Cond.methodLink own index arraycopyName ∈ Ts) (h2 : Cond.native arraycopyName ∈ Ts) (h3 : Cond.static arraycopyName ∈ Ts) (h4 : Cond.initialized "java/lang/System" ∈ Ts) (ha0 : ws[q0]? = some (a0, aI G n0 f)) (ha1 : ws[q1]? = some (a, aI G n1 g)) (hs : sp + n ≤ n0) (hd : dp + n ≤ n1) (hn0 : n0 < 2 ^ 31) (hn1 : n1 < 2 ^ 31) (hfr : 1 ≤ (gR X).frames) (hlo : (st.map fun v => v.category).sum + 18 ≤ (gR X).locals) (hw : ws.set q1 (a, aI G n1 (va_cpy f g sp dp n)) = ws') (hdg : decode cc pc = .ok (.invokestatic index, 3)) (hpc : pc + 3 = pc') (kk : U G X cells slots ws' pc' lv st) : U G X cells slots ws pc lv (.int (nI n) :: .int (nI dp) :: .ref a :: .int (nI sp) :: .ref a0 :: st) := by
  obtain ⟨p, e, R, s, m, args, below, meth, c, A, nL, Q⟩ := X
  obtain ⟨⟨hx, hb, hml, hown, hts⟩, hE, hA, hlk⟩ := h
  subst hpc
  subst hw
  intro H locs ls hP hD hS hl
  have e1 : (nI sp).toNatClampNeg = sp := nI_clamp (by omega)
  have e2 : (nI dp).toNatClampNeg = dp := nI_clamp (by omega)
  have e3 : (nI n).toNatClampNeg = n := nI_clamp (by omega)
  refine va_copyi hx hb (by rw [hml]; exact hl.1.symm) hown (hts _ h1) (hts _ h2) (hts _ h3) (hts _ h4) hE.1 hP hD hS q0 q1 0 0 ha0 ha1 rfl rfl rfl (nI_pos (by omega)) (nI_pos (by omega)) (nI_pos (by omega)) (by rw [e1, e3]; exact hs) (by rw [e2, e3]; exact hd) (fun i hi => rfl) hfr hlo hdg (fun H1 locs1 hP hD hS => ?_)
  rw [e1, e2, e3] at hP hD
  exact kk H1 locs1 ls hP hD hS hl
set_option maxHeartbeats 1000000 in
theorem u_cpyB (h : CX G X cc own Ts) {index a0 a n0 n1 sp dp n : Nat} {f g : Nat → Int32} {ws' : va_W} (q0 q1 : Nat) (h1 : Cond.methodLink own index arraycopyName ∈ Ts) (h2 : Cond.native arraycopyName ∈ Ts) (h3 : Cond.static arraycopyName ∈ Ts) (h4 : Cond.initialized "java/lang/System" ∈ Ts) (ha0 : ws[q0]? = some (a0, aB G n0 f)) (ha1 : ws[q1]? = some (a, aB G n1 g)) (hs : sp + n ≤ n0) (hd : dp + n ≤ n1) (hn0 : n0 < 2 ^ 31) (hn1 : n1 < 2 ^ 31) (hfit : ∀ i : Nat, i < n → fits .byte (.int (f (sp + i))) = true) (hfr : 1 ≤ (gR X).frames) (hlo : (st.map fun v => v.category).sum + 18 ≤ (gR X).locals) (hw : ws.set q1 (a, aB G n1 (va_cpy f g sp dp n)) = ws') (hdg : decode cc pc = .ok (.invokestatic index, 3)) (hpc : pc + 3 = pc') (kk : U G X cells slots ws' pc' lv st) : U G X cells slots ws pc lv (.int (nI n) :: .int (nI dp) :: .ref a :: .int (nI sp) :: .ref a0 :: st) := by
  obtain ⟨p, e, R, s, m, args, below, meth, c, A, nL, Q⟩ := X
  obtain ⟨⟨hx, hb, hml, hown, hts⟩, hE, hA, hlk⟩ := h
  subst hpc
  subst hw
  intro H locs ls hP hD hS hl
  have e1 : (nI sp).toNatClampNeg = sp := nI_clamp (by omega)
  have e2 : (nI dp).toNatClampNeg = dp := nI_clamp (by omega)
  have e3 : (nI n).toNatClampNeg = n := nI_clamp (by omega)
  refine va_copyi hx hb (by rw [hml]; exact hl.1.symm) hown (hts _ h1) (hts _ h2) (hts _ h3) (hts _ h4) hE.1 hP hD hS q0 q1 1 1 ha0 ha1 rfl rfl rfl (nI_pos (by omega)) (nI_pos (by omega)) (nI_pos (by omega)) (by rw [e1, e3]; exact hs) (by rw [e2, e3]; exact hd) (fun i hi => by rw [e1]; rw [e3] at hi; exact hfit i hi) hfr hlo hdg (fun H1 locs1 hP hD hS => ?_)
  rw [e1, e2, e3] at hP hD
  exact kk H1 locs1 ls hP hD hS hl
end
