theorem Inv.bld {z : Zf} {x : Int32} (h : Inv z) (hb : okB z x = true) : Inv (clrM z x) := by
  simp only [okB, inB, Bool.and_eq_true, decide_eq_true_eq, Bool.not_eq_true', decide_eq_false_iff_not] at hb
  obtain ⟨k, hk, rfl⟩ := nI_of2 (M := 3) (n := 3) (by decide) (Int32.not_lt.mpr hb.1.1) hb.1.2
  exact h.build (by omega) hb.2
theorem Inv.stp {z : Zf} {x : Int32} (h : Inv z) (hv : isV x = true) : Inv (stM z (ix x)) := by
  obtain ⟨v, hv6, rfl⟩ := isV_nat hv
  rw [ix_nI (by omega)]
  exact h.st hv6
theorem Inv.shf {z : Zf} {x : Int32} (h : Inv z) (hx : okH z x = true) : Inv (upd z 61 x) := by
  simp only [okH, Bool.and_eq_true, Bool.not_eq_true', decide_eq_false_iff_not] at hx
  exact h.x hx.1
theorem zI_inv : Inv zI := by
  have t := Inv.clr (z := upd (fun _ => 0) 61 1) (k := 0) (by omega) (pk_un (by omega)) (by rw [pk_us]; decide) (fun j hj => pk_un (by omega))
  exact t
theorem go_ex2 {z : Zf} (h : Inv z) (x : Int32) : ∃ N : Nat, okG z x = true → GoC z (ix x) N := by
  by_cases c : okG z x = true
  · have hv : isV x = true := by
      simp only [okG, Bool.and_eq_true] at c
      exact c.1
    obtain ⟨v, hv6, rfl⟩ := isV_nat hv
    obtain ⟨N, hN⟩ := go_ex hv6 h
    exact ⟨N, fun _ => by rw [ix_nI (by omega)]; exact hN⟩
  · exact ⟨0, fun q => absurd q c⟩
theorem Inv.gox {z : Zf} {x : Int32} (h : Inv z) (hx : okG z x = true) (N : Nat) : Inv (itS z (ix x) N) := by
  have hv : isV x = true := by
    simp only [okG, Bool.and_eq_true] at hx
    exact hx.1
  obtain ⟨v, hv6, rfl⟩ := isV_nat hv
  rw [ix_nI (by omega)]
  exact h.it hv6 N
