/-! the other side's plan: a row of bytes -/
def Pl (f : Zf) (p : List Nat) : Prop := ∀ j : Nat, j < p.length → f j = nI (p[j]?.getD 0)
theorem Pl.snoc {f : Zf} {p : List Nat} (h : Pl f p) (v : Nat) : Pl (upd f p.length (nI v)) (p ++ [v]) := by
  intro j hj
  rw [List.length_append] at hj
  have hj : j < p.length + 1 := hj
  by_cases e : j = p.length
  · subst e
    rw [pk_us, List.getElem?_append_right (Nat.le_refl _), Nat.sub_self]
    rfl
  · rw [pk_un e, List.getElem?_append_left (by omega)]
    exact h j (by omega)
theorem Pl.cpy {f : Zf} {P : List Nat} (h : Pl f P) {s Z : Nat} {B : List Nat} (hB : (P.drop s).take Z = B) (hZ : s + Z ≤ P.length) : Pl (va_cpy f f s P.length Z) (P ++ B) := by
  have lB : B.length = Z := by rw [← hB, List.length_take, List.length_drop]; omega
  intro j hj
  rw [List.length_append, lB] at hj
  simp only [va_cpy]
  by_cases e : j < P.length
  · rw [if_neg (by omega), List.getElem?_append_left e]
    exact h j e
  · rw [if_pos (by omega), List.getElem?_append_right (by omega), ← hB, List.getElem?_take_of_lt (by omega), List.getElem?_drop]
    exact h _ (by omega)
theorem fits_b {v : Nat} (h : v < 6) : fits .byte (.int (nI v)) = true := by
  rcases (show v = 0 ∨ v = 1 ∨ v = 2 ∨ v = 3 ∨ v = 4 ∨ v = 5 by omega) with rfl | rfl | rfl | rfl | rfl | rfl <;> rfl
theorem i2b_v {v : Nat} (h : v < 6) : (nI v).toInt8.toInt32 = nI v ∧ vp_nar .byte (nI v) = nI v := by
  rcases (show v = 0 ∨ v = 1 ∨ v = 2 ∨ v = 3 ∨ v = 4 ∨ v = 5 by omega) with rfl | rfl | rfl | rfl | rfl | rfl <;> exact ⟨rfl, rfl⟩
theorem Pl.vis {f : Zf} {p : List Nat} (h : Pl f p) (hv : ∀ v ∈ p, v < 6) {j : Nat} (hj : j < p.length) : ∃ v : Nat, v < 6 ∧ f j = nI v ∧ p[j]?.getD 0 = v := by
  refine ⟨p[j], hv _ (List.getElem_mem hj), ?_, ?_⟩
  · rw [h j hj, List.getElem?_eq_getElem hj]; rfl
  · rw [List.getElem?_eq_getElem hj]; rfl
theorem cp_take {p : List Nat} {s c : Nat} (hs : s ≤ p.length) : ((p ++ cpN (p.drop s) c).drop s).take (p.length - s) = p.drop s := by
  rw [List.drop_append_of_le_length hs, List.take_append_of_le_length (by rw [List.length_drop]; omega), List.take_of_length_le (by rw [List.length_drop]; omega)]
theorem cp_vis {p : List Nat} {s c : Nat} (hv : ∀ v ∈ p, v < 6) : ∀ v ∈ p ++ cpN (p.drop s) c, v < 6 := by
  intro v h
  rcases List.mem_append.mp h with x | x
  · exact hv v x
  · have key : ∀ c : Nat, v ∈ cpN (p.drop s) c → v ∈ p := by
      intro c
      induction c with
      | zero => intro y; simp [cpN] at y
      | succ c ihc =>
        intro y
        rcases List.mem_append.mp y with y | y
        · exact ihc y
        · exact List.mem_of_mem_drop y
    exact hv v (key _ x)
theorem isLt_C (x : Int32) : isLt x = (decide (97 ≤ x) && decide (x < 103)) := by
  simp only [isLt, inB]
  congr 1
  exact decide_eq_decide.mpr (lt_le (n := 102) (by omega)).symm
theorem isDg_C (x : Int32) : isDg x = (decide (50 ≤ x) && decide (x ≤ 57)) := rfl
/-- what the other side's spreading keeps -/
def ExI (t : Zf) (i : Nat) (f sa ra : Zf) : Prop := Pl f (exT t i).1 ∧ ∀ k : Nat, k < (scT t i).1 → sa k = nI ((exT t i).2.1 (k + 1)) ∧ ra k = nI ((exT t i).2.2 (k + 1))
theorem exI_0 (t f sa ra : Zf) : ExI t 0 f sa ra := ⟨fun j hj => absurd hj (Nat.not_lt_zero j), fun k hk => absurd hk (Nat.not_lt_zero k)⟩
theorem exI_dg {t f sa ra : Zf} {i : Nat} (h : ExI t i f sa ra) (q : isDg (t i) = true) : ExI t (i + 1) f sa ra := by
  obtain ⟨s1, s2, s3⟩ := sc_dg q
  unfold ExI
  rw [s1, s3]
  exact h
theorem exI_lt {t f f' sa ra : Zf} {i : Nat} (h : ExI t i f sa ra) (q : isDg (t i) = false) (q1 : isLt (t i) = true) (hf : Pl f' ((exT t i).1 ++ List.replicate (mT t i) (ix (t i - 97)))) : ExI t (i + 1) f' sa ra := by
  obtain ⟨s1, s2, s3⟩ := sc_lt q q1
  unfold ExI
  rw [s1, s3]
  exact ⟨hf, h.2⟩
theorem exI_op {t f sa ra : Zf} {i : Nat} (h : ExI t i f sa ra) (q : isDg (t i) = false) (q1 : isLt (t i) = false) (q2 : t i = 40) : ExI t (i + 1) f (upd sa (scT t i).1 (nI (exT t i).1.length)) (upd ra (scT t i).1 (nI (mT t i))) := by
  obtain ⟨s1, s2, s3⟩ := sc_op q q1 q2
  unfold ExI
  rw [s1, s3]
  refine ⟨h.1, fun k hk => ?_⟩
  have hk : k < (scT t i).1 + 1 := hk
  show upd sa _ _ k = nI (updN _ _ _ (k + 1)) ∧ upd ra _ _ k = nI (updN _ _ _ (k + 1))
  by_cases e : k = (scT t i).1
  · subst e
    rw [pk_us, pk_us, updN_s, updN_s]
    exact ⟨rfl, rfl⟩
  · rw [pk_un e, pk_un e, updN_n (by omega), updN_n (by omega)]
    exact h.2 k (by omega)
theorem exI_cl {t f f' sa ra : Zf} {i : Nat} (h : ExI t i f sa ra) (q : isDg (t i) = false) (q1 : isLt (t i) = false) (q2 : ¬ t i = 40) (hf : Pl f' ((exT t i).1 ++ cpN ((exT t i).1.drop ((exT t i).2.1 (scT t i).1)) ((exT t i).2.2 (scT t i).1 - 1))) : ExI t (i + 1) f' sa ra := by
  obtain ⟨s1, s2, s3⟩ := sc_cl q q1 q2
  unfold ExI
  rw [s1, s3]
  refine ⟨hf, fun k hk => ?_⟩
  have hk : k < (scT t i).1 - 1 := hk
  exact h.2 k (by omega)
theorem rep_one (p : List Nat) (v m : Nat) (hm : 1 ≤ m) : (p ++ [v]) ++ cpN ((p ++ [v]).drop p.length) (m - 1) = p ++ List.replicate m v := by
  have e : (p ++ [v]).drop p.length = [v] := List.drop_left ..
  have e2 : ∀ c : Nat, cpN [v] c = List.replicate c v := by
    intro c
    induction c with
    | zero => rfl
    | succ c ih => rw [cpN, ih, List.replicate_succ']
  rw [e, e2, List.append_assoc]
  congr 1
  obtain ⟨k, rfl⟩ : ∃ k : Nat, m = k + 1 := ⟨m - 1, by omega⟩
  rw [Nat.add_sub_cancel, List.replicate_succ]
  rfl
/-- the length behind a step -/
theorem len_lt {t : Zf} {i : Nat} (q : isDg (t i) = false) (q1 : isLt (t i) = true) : (exT t (i + 1)).1.length = (exT t i).1.length + mT t i := by
  rw [(sc_lt q q1).2.2]
  simp
theorem len_cl {t : Zf} {i : Nat} (hO : OkP t i) (q : isDg (t i) = false) (q1 : isLt (t i) = false) (q2 : ¬ t i = 40) (hd : 0 < (scT t i).1) : (exT t (i + 1)).1.length = (exT t i).2.1 (scT t i).1 + ((exT t i).1.length - (exT t i).2.1 (scT t i).1) * (exT t i).2.2 (scT t i).1 := by
  obtain ⟨b1, b2, b3, b4, b5, b6, b7⟩ := bg_spec hO (scT t i).1 hd (Nat.le_refl _)
  rw [(sc_cl q q1 q2).2.2]
  show ((exT t i).1 ++ cpN ((exT t i).1.drop ((exT t i).2.1 (scT t i).1)) ((exT t i).2.2 (scT t i).1 - 1)).length = _
  rw [List.length_append, cpN_len, List.length_drop]
  obtain ⟨r, er⟩ : ∃ r : Nat, (exT t i).2.2 (scT t i).1 = r + 1 := ⟨_, (Nat.succ_pred_eq_of_pos b5).symm⟩
  rw [er, Nat.add_sub_cancel, Nat.mul_comm _ (r + 1), Nat.succ_mul]
  omega
