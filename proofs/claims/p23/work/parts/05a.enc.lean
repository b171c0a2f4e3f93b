/-! the other side's lock: its 54 cells, read off z -/
def tN (x : Int32) : Int32 := if x = -1 then -5 else x
def encC (z : Zf) : Zf := fun j =>
  if j < 6 then z j
  else if j < 12 then tN (z j)
  else if j < 18 then z j
  else if j < 24 then tN (z j)
  else if j < 30 then (if z 60 = 1 then z j else -5)
  else if j < 36 then tN (z j)
  else if j < 42 then (if z 60 = 2 ∧ ¬ z (j - 36) = 0 then z j else -5)
  else if j < 49 then z j
  else if j = 49 then (if z 60 = 0 then tN (z 49) else if z 60 = 1 then z 49 else -5)
  else if j < 53 then z j
  else if j = 53 then z 60 else 0
theorem e_st {z : Zf} {v : Nat} (h : v < 6) : encC z v = z v := by simp [encC, h]
theorem e_nx {z : Zf} {v : Nat} (h : v < 6) : encC z (6 + v) = tN (z (6 + v)) := by
  simp only [encC]; rw [if_neg (by omega), if_pos (by omega)]
theorem e_fl {z : Zf} {v : Nat} (h : v < 6) : encC z (12 + v) = z (12 + v) := by
  simp only [encC]; rw [if_neg (by omega), if_neg (by omega), if_pos (by omega)]
theorem e_ah {z : Zf} {v : Nat} (h : v < 6) : encC z (18 + v) = tN (z (18 + v)) := by
  simp only [encC]; rw [if_neg (by omega), if_neg (by omega), if_neg (by omega), if_pos (by omega)]
theorem e_ow {z : Zf} {v : Nat} (h : v < 6) : encC z (24 + v) = if z 60 = 1 then z (24 + v) else -5 := by
  simp only [encC]; rw [if_neg (by omega), if_neg (by omega), if_neg (by omega), if_neg (by omega), if_pos (by omega)]
theorem e_wa {z : Zf} {v : Nat} (h : v < 6) : encC z (30 + v) = tN (z (30 + v)) := by
  simp only [encC]; rw [if_neg (by omega), if_neg (by omega), if_neg (by omega), if_neg (by omega), if_neg (by omega), if_pos (by omega)]
theorem e_ti {z : Zf} {v : Nat} (h : v < 6) : encC z (36 + v) = if z 60 = 2 ∧ ¬ z v = 0 then z (36 + v) else -5 := by
  simp only [encC]; rw [if_neg (by omega), if_neg (by omega), if_neg (by omega), if_neg (by omega), if_neg (by omega), if_neg (by omega), if_pos (by omega), show 36 + v - 36 = v by omega]
theorem e_ca {z : Zf} {c : Nat} (h : c < 7) : encC z (42 + c) = z (42 + c) := by
  simp only [encC]; rw [if_neg (by omega), if_neg (by omega), if_neg (by omega), if_neg (by omega), if_neg (by omega), if_neg (by omega), if_neg (by omega), if_pos (by omega)]
theorem e_ta (z : Zf) : encC z 49 = if z 60 = 0 then tN (z 49) else if z 60 = 1 then z 49 else -5 := rfl
theorem e_gi (z : Zf) : encC z 50 = z 50 := rfl
theorem e_se (z : Zf) : encC z 51 = z 51 := rfl
theorem e_gr (z : Zf) : encC z 52 = z 52 := rfl
theorem e_ki (z : Zf) : encC z 53 = z 60 := rfl
theorem enc_ne {z : Zf} {i j : Nat} {x : Int32} (h1 : 6 ≤ i) (h2 : i < 53) (hj : j ≠ i) : encC (upd z i x) j = encC z j := by
  have e1 : upd z i x j = z j := pk_un hj
  have e2 : upd z i x 60 = z 60 := pk_un (by omega)
  simp only [encC, e1, e2]
  by_cases q : j < 42
  · rw [show upd z i x (j - 36) = z (j - 36) from pk_un (by omega)]
    by_cases q2 : j = 49
    · omega
    · rw [if_neg q2, if_neg q2]
  · by_cases q2 : j = 49
    · subst q2; rw [show upd z i x 49 = z 49 from e1]; simp
    · simp [q, q2, show ¬ j < 6 by omega, show ¬ j < 12 by omega, show ¬ j < 18 by omega, show ¬ j < 24 by omega, show ¬ j < 30 by omega, show ¬ j < 36 by omega]
theorem enc_upd {z : Zf} {i : Nat} {x : Int32} (h1 : 6 ≤ i) (h2 : i < 53) : encC (upd z i x) = upd (encC z) i (encC (upd z i x) i) := by
  funext j
  by_cases q : j = i
  · subst q; rw [pk_us]
  · rw [pk_un q, enc_ne h1 h2 q]
theorem E_nx (z : Zf) {v : Nat} (h : v < 6) (x : Int32) : encC (upd z (6 + v) x) = upd (encC z) (6 + v) (tN x) := by
  rw [enc_upd (by omega) (by omega), e_nx h, pk_us]
theorem E_fl (z : Zf) {v : Nat} (h : v < 6) (x : Int32) : encC (upd z (12 + v) x) = upd (encC z) (12 + v) x := by
  rw [enc_upd (by omega) (by omega), e_fl h, pk_us]
theorem E_ah (z : Zf) {v : Nat} (h : v < 6) (x : Int32) : encC (upd z (18 + v) x) = upd (encC z) (18 + v) (tN x) := by
  rw [enc_upd (by omega) (by omega), e_ah h, pk_us]
theorem E_ow (z : Zf) {v : Nat} (h : v < 6) (x : Int32) (k : z 60 = 1) : encC (upd z (24 + v) x) = upd (encC z) (24 + v) x := by
  rw [enc_upd (by omega) (by omega), e_ow h, pk_us, pk_un (show 60 ≠ 24 + v by omega), if_pos k]
theorem E_wa (z : Zf) {v : Nat} (h : v < 6) (x : Int32) : encC (upd z (30 + v) x) = upd (encC z) (30 + v) (tN x) := by
  rw [enc_upd (by omega) (by omega), e_wa h, pk_us]
theorem E_ti (z : Zf) {v : Nat} (h : v < 6) (x : Int32) : encC (upd z (36 + v) x) = upd (encC z) (36 + v) (if z 60 = 2 ∧ ¬ z v = 0 then x else -5) := by
  rw [enc_upd (by omega) (by omega), e_ti h, pk_us, pk_un (show 60 ≠ 36 + v by omega), pk_un (show v ≠ 36 + v by omega)]
theorem E_ca (z : Zf) {c : Nat} (h : c < 7) (x : Int32) : encC (upd z (42 + c) x) = upd (encC z) (42 + c) x := by
  rw [enc_upd (by omega) (by omega), e_ca h, pk_us]
theorem E_ta (z : Zf) (x : Int32) : encC (upd z 49 x) = upd (encC z) 49 (if z 60 = 0 then tN x else if z 60 = 1 then x else -5) := by
  rw [enc_upd (by omega) (by omega), e_ta, pk_us, pk_un (show 60 ≠ 49 by omega)]
theorem E_gi (z : Zf) (x : Int32) : encC (upd z 50 x) = upd (encC z) 50 x := by rw [enc_upd (by omega) (by omega), e_gi, pk_us]
theorem E_se (z : Zf) (x : Int32) : encC (upd z 51 x) = upd (encC z) 51 x := by rw [enc_upd (by omega) (by omega), e_se, pk_us]
theorem E_gr (z : Zf) (x : Int32) : encC (upd z 52 x) = upd (encC z) 52 x := by rw [enc_upd (by omega) (by omega), e_gr, pk_us]
theorem enc_st_ne {z : Zf} {v j : Nat} {x : Int32} (hv : v < 6) (h1 : j ≠ v) (h2 : j ≠ 36 + v) : encC (upd z v x) j = encC z j := by
  have e1 : upd z v x j = z j := pk_un h1
  have e2 : upd z v x 60 = z 60 := pk_un (by omega)
  have e3 : upd z v x 49 = z 49 := pk_un (by omega)
  simp only [encC, e1, e2, e3]
  by_cases q : j < 36
  · have : ∀ a b c d f g : Int32, (if j < 6 then a else if j < 12 then b else if j < 18 then c else if j < 24 then d else if j < 30 then f else if j < 36 then g else if j < 42 then (if z 60 = 2 ∧ ¬ upd z v x (j - 36) = 0 then z j else -5) else if j < 49 then z j else if j = 49 then (if z 60 = 0 then tN (z 49) else if z 60 = 1 then z 49 else -5) else if j < 53 then z j else if j = 53 then z 60 else 0) = (if j < 6 then a else if j < 12 then b else if j < 18 then c else if j < 24 then d else if j < 30 then f else g) := by
      intro a b c d f g; rw [if_pos q]
    rw [this]
    have this2 : ∀ a b c d f g y : Int32, (if j < 6 then a else if j < 12 then b else if j < 18 then c else if j < 24 then d else if j < 30 then f else if j < 36 then g else y) = (if j < 6 then a else if j < 12 then b else if j < 18 then c else if j < 24 then d else if j < 30 then f else g) := by
      intro a b c d f g y; rw [if_pos q]
    rw [this2]
  · rw [show upd z v x (j - 36) = z (j - 36) from pk_un (by omega)]
theorem E_st (z : Zf) {v : Nat} (h : v < 6) (x : Int32) (k : ¬ z 60 = 2) : encC (upd z v x) = upd (encC z) v x := by
  funext j
  by_cases q : j = v
  · subst q; rw [pk_us, e_st h, pk_us]
  · rw [pk_un q]
    by_cases q2 : j = 36 + v
    · subst q2
      rw [e_ti h, e_ti h, pk_un (show 60 ≠ v by omega), if_neg (fun a => k a.1), if_neg (fun a => k a.1)]
    · exact enc_st_ne h q q2
theorem E_st2 (z : Zf) {v : Nat} (h : v < 6) (x : Int32) (k : z 60 = 2) : encC (upd z v x) = upd (upd (encC z) (36 + v) (if x = 0 then -5 else z (36 + v))) v x := by
  funext j
  by_cases q : j = v
  · subst q; rw [pk_us, e_st h, pk_us]
  · rw [pk_un q]
    by_cases q2 : j = 36 + v
    · subst q2
      rw [pk_us, e_ti h, pk_un (show 60 ≠ v by omega), pk_us, pk_un (show 36 + v ≠ v by omega)]
      by_cases h0 : x = 0
      · rw [if_neg (fun a => a.2 h0), if_pos h0]
      · rw [if_pos ⟨k, h0⟩, if_neg h0]
    · rw [pk_un q2]; exact enc_st_ne h q q2
theorem upd_id {f : Zf} {i : Nat} {x : Int32} (h : f i = x) : upd f i x = f := by
  funext j
  simp only [upd]
  by_cases q : j = i
  · rw [if_pos q, q, h]
  · rw [if_neg q]
theorem upd_uu (f : Zf) (i : Nat) (x y : Int32) : upd (upd f i x) i y = upd f i y := by
  funext j
  simp only [upd]
  by_cases q : j = i
  · rw [if_pos q, if_pos q]
  · rw [if_neg q, if_neg q, if_neg q]
theorem upd_sw (f : Zf) {i j : Nat} (h : i ≠ j) (x y : Int32) : upd (upd f i x) j y = upd (upd f j y) i x := by
  funext k
  simp only [upd]
  by_cases q : k = i
  · subst q; rw [if_neg h, if_pos rfl, if_pos rfl]
  · rw [if_neg q, if_neg q]
theorem tN_nI {a : Nat} (h : a < 2 ^ 31) : tN (nI a) = nI a := by unfold tN; rw [if_neg (nI_m1 h)]
theorem tN_m1 : tN (-1) = -5 := rfl
theorem enc_hi {z : Zf} {j : Nat} (h : 54 ≤ j) : encC z j = 0 := by
  simp only [encC]
  rw [if_neg (by omega), if_neg (by omega), if_neg (by omega), if_neg (by omega), if_neg (by omega), if_neg (by omega), if_neg (by omega), if_neg (by omega), if_neg (by omega), if_neg (by omega), if_neg (by omega)]
theorem enc_cpy (z w : Zf) : va_cpy (encC z) (encC w) 0 0 54 = encC z := by
  funext j
  simp only [va_cpy]
  by_cases h : j < 54
  · rw [if_pos (by omega)]; congr 1; omega
  · rw [if_neg (by omega), enc_hi (by omega), enc_hi (by omega)]
