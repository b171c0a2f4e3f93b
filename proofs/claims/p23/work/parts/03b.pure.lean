theorem nI_m5 {p : Nat} (h : p < 2 ^ 31) : ¬ nI p = -5 := by
  intro q
  have h1 := nI_toInt h
  rw [q] at h1
  have h2 : ((-5 : Int32)).toInt = -5 := by decide
  omega
theorem nI_m1 {p : Nat} (h : p < 2 ^ 31) : ¬ nI p = -1 := by
  intro q
  have h1 := nI_toInt h
  rw [q] at h1
  have h2 : ((-1 : Int32)).toInt = -1 := by decide
  omega
theorem isV_nat {x : Int32} (h : isV x = true) : ∃ v : Nat, v < 6 ∧ x = nI v := by
  simp only [isV, inB, Bool.and_eq_true, decide_eq_true_eq] at h
  obtain ⟨j, hj, e⟩ := nI_of2 (M := 5) (n := 5) (by decide) (fun q => absurd h.1 (Int32.not_le.mpr q)) h.2
  exact ⟨j, by omega, e⟩
theorem isV_nI {v : Nat} (h : v < 6) : isV (nI v) = true := by
  simp only [isV, inB, Bool.and_eq_true, decide_eq_true_eq]
  exact ⟨nI_pos' (by omega), nI_le (b := 5) (by omega) (by decide)⟩
theorem plc_cases (z : Zf) (v : Nat) : ∀ n : Nat, plc z v n = -5 ∨ ∃ p : Nat, p < n ∧ plc z v n = nI p
  | 0 => Or.inl rfl
  | n + 1 => by
    simp only [plc]
    by_cases h : z (54 + n) = nI v
    · rw [if_pos h]; exact Or.inr ⟨n, by omega, rfl⟩
    · rw [if_neg h]
      rcases plc_cases z v n with q | ⟨p, hp, q⟩
      · exact Or.inl q
      · exact Or.inr ⟨p, by omega, q⟩
theorem shl_at (z : Zf) (p n : Nat) {j : Nat} (h : j < 54 + p ∨ 54 + p + n ≤ j) : shl z p n j = z j := by
  induction n with
  | zero => rfl
  | succ n ih =>
    simp only [shl, upd]
    rw [if_neg (by omega)]
    exact ih (by omega)
theorem shl_53 (z : Zf) (p n : Nat) : shl z p n 53 = z 53 := shl_at z p n (Or.inl (by omega))
theorem shl_step (z : Zf) {p k : Nat} (h : p ≤ k) : upd (shl z p (k - p)) (54 + k) (shl z p (k - p) (54 + k + 1)) = shl z p (k + 1 - p) := by
  obtain ⟨n, rfl⟩ : ∃ n, k = p + n := ⟨k - p, by omega⟩
  rw [show p + n - p = n by omega, show p + n + 1 - p = n + 1 by omega]
  simp only [shl]
  rw [show 54 + (p + n) + 1 = 54 + (p + n + 1) by omega]
theorem lvM_of {z : Zf} {v m : Nat} (hm : m ≤ 6) (h53 : z 53 = nI m) : lvM z v = if plc z v m = -5 then z else shl (upd z 53 (z 53 - 1)) (ix (plc z v m)) (m - 1 - ix (plc z v m)) := by
  simp only [lvM]
  rw [h53, ix_nI (by omega)]
theorem lvM_53 {z : Zf} {v m : Nat} (hm : m ≤ 6) (h53 : z 53 = nI m) : ∃ n : Nat, n ≤ 6 ∧ lvM z v 53 = nI n := by
  rw [lvM_of hm h53]
  rcases plc_cases z v m with e | ⟨p, hp, e⟩
  · rw [if_pos e]; exact ⟨m, hm, h53⟩
  · rw [if_neg (by rw [e]; exact nI_m5 (by omega)), shl_53, pk_us, h53]
    exact ⟨m - 1, by omega, pk_sub (a := m) (b := 1) (by omega)⟩
theorem chM_hi {z : Zf} {v : Nat} (hW : Wf z) (hv : v < 6) {j : Nat} (hj : 53 ≤ j) : chM z v j = z j := by
  have ne : ∀ (f : Zf) (i : Nat) (x : Int32), i < 53 → upd f i x j = f j := fun f i x hi => by simp only [upd]; rw [if_neg (by omega)]
  simp only [chM]
  split
  next k0 =>
    simp only [chN]
    repeat' split
    all_goals try (simp only [ne _ _ _ (show 6 + v < 53 by omega), ne _ _ _ (show 12 + v < 53 by omega), ne _ _ _ (show 18 + v < 53 by omega), ne _ _ _ (show v < 53 by omega), ne _ _ _ (show 49 < 53 by omega)]; done)
    · next h2 =>
      obtain ⟨a, ha, e⟩ := hW.a k0 hv h2
      rw [e, ix_nI (by omega), ne _ _ _ (by omega), ne _ _ _ (by omega)]
    · next h0 h1 h2 h3 h4 h5 h6 =>
      obtain ⟨a, ha, e⟩ := hW.n k0 hv h0 h1 h2 h3 h4 h5 h6
      rw [e, ix_nI (by omega), ne _ _ _ (by omega), ne _ _ _ (by omega)]
  next k0 =>
    split
    next k1 =>
      obtain ⟨a, ha, e⟩ := hW.o k1 hv
      simp only [chW]
      rw [e, ix_nI (by omega)]
      repeat' split
      all_goals simp only [ne _ _ _ (show 42 + a < 53 by omega), ne _ _ _ (show 30 + v < 53 by omega), ne _ _ _ (show 24 + v < 53 by omega), ne _ _ _ (show v < 53 by omega), ne _ _ _ (show 49 < 53 by omega)]
    next k1 =>
      split
      next k2 =>
        simp only [chT]
        repeat' split
        all_goals simp only [ne _ _ _ (show 36 + v < 53 by omega), ne _ _ _ (show 50 < 53 by omega), ne _ _ _ (show 51 < 53 by omega), ne _ _ _ (show v < 53 by omega)]
      next k2 =>
        simp only [chG]
        rw [ne _ _ _ (by omega), ne _ _ _ (by omega)]
theorem st3_lo {z : Zf} {v j : Nat} (hj : j < 62) : st3 z v j = z j := by
  simp only [st3, upd]
  rw [if_neg (by omega), if_neg (by omega), if_neg (by omega)]
theorem st3_wf {z : Zf} {v : Nat} (h : Wf z) : Wf (st3 z v) := ((h.far (by omega) _).far (by omega) _).far (by omega) _
theorem st5_53 {z : Zf} {v m : Nat} (hv : v < 6) (hm : m ≤ 6) (h53 : z 53 = nI m) : ∃ n : Nat, n ≤ 6 ∧ st5 z v 53 = nI n := by
  simp only [st5]
  split
  · exact lvM_53 hm (by rw [pk_un (by omega)]; exact h53)
  · exact ⟨m, hm, h53⟩
/-- the history as one row of four times 86 -/
def shP (p : Zf) (k : Nat) : Zf := fun j => if j < k then p (j + 86) else p j
theorem shP_0 (p : Zf) : shP p 0 = p := by funext j; simp [shP]
theorem shP_succ (p : Zf) (k : Nat) : upd (shP p k) k (shP p k (k + 86)) = shP p (k + 1) := by
  funext j
  simp only [shP, upd]
  by_cases h : j = k
  · subst h; rw [if_pos rfl, if_neg (by omega), if_pos (by omega)]
  · rw [if_neg h]
    by_cases h2 : j < k
    · rw [if_pos h2, if_pos (by omega)]
    · rw [if_neg h2, if_neg (by omega)]
def recN (st : Nat) : Nat := if st = 4 then 4 else st + 1
def recP (p z : Zf) (st : Nat) : Zf := if st = 4 then va_cpy z (shP p 258) 0 258 86 else va_cpy z p 0 (86 * st) 86
theorem recN_le {st : Nat} (h : st ≤ 4) : recN st ≤ 4 := by unfold recN; split <;> omega
def zrM (z : Zf) (k : Nat) : Zf := fun j => if j < k then 0 else z j
theorem zrM_succ (z : Zf) (k : Nat) : upd (zrM z k) k 0 = zrM z (k + 1) := by
  funext j
  simp only [zrM, upd]
  by_cases h : j = k
  · subst h; rw [if_pos rfl, if_pos (by omega)]
  · rw [if_neg h]
    by_cases h2 : j < k
    · rw [if_pos h2, if_pos (by omega)]
    · rw [if_neg h2, if_neg (by omega)]
def clM (z : Zf) : Nat → Zf
  | 0 => z
  | v + 1 => upd (upd (upd (upd (upd (clM z v) (6 + v) (-1)) (18 + v) (-1)) (24 + v) (nI v)) (30 + v) (-1)) (36 + v) (-1)
def clrM (z : Zf) (k : Int32) : Zf := upd (upd (clM (zrM z 53) 6) 49 (if k = 0 then -1 else 6)) 60 k
/-- the visitor that is inside, looked for from above -/
def insM (z : Zf) : Nat → Int32
  | 0 => -5
  | n + 1 => if z (5 - n) = 4 then nI (5 - n) else insM z n
def atM (z : Zf) (x : Int32) : Nat → Int32
  | 0 => 0
  | n + 1 => atM z x n + (if z n = x then 1 else 0)
def bitM (x : Int32) (v : Nat) : Int32 := (x >>> (nI v &&& 31)) &&& 1
def bitsM (x : Int32) : Nat → Int32
  | 0 => 0
  | n + 1 => bitsM x n + bitM x n
def pickM (x r : Int32) : Nat → Int32
  | 0 => -5
  | n + 1 => if bitM x n = 1 ∧ bitsM x n = r then nI n else pickM x r n
