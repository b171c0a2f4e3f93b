/-! the other side's rows of found locks: they are made when first needed, and kept -/
def updZ (Z : Nat → Zf) (n : Nat) (w : Zf) : Nat → Zf := fun i => if i = n then w else Z i
theorem updZ_s (Z : Nat → Zf) (n : Nat) (w : Zf) : updZ Z n w n = w := if_pos rfl
theorem updZ_n {Z : Nat → Zf} {n i : Nat} {w : Zf} (h : i ≠ n) : updZ Z n w i = Z i := if_neg h
def pool (G : Gx) (pl pc : Nat → Nat) (Z : Nat → Zf) : Nat → va_W
  | 0 => []
  | k + 1 => pool G pl pc Z k ++ [(pl k, .inr (1, [.ref (pc k)])), (pc k, aI G 54 (encC (Z k)))]
def poolx (G : Gx) (pl pc : Nat → Nat) (Z : Nat → Zf) (i : Nat) : Nat → va_W
  | 0 => []
  | k + 1 => if k = i then poolx G pl pc Z i k else poolx G pl pc Z i k ++ [(pl k, .inr (1, [.ref (pc k)])), (pc k, aI G 54 (encC (Z k)))]
theorem poolx_ge {G : Gx} {pl pc : Nat → Nat} {Z : Nat → Zf} {i : Nat} : ∀ {k : Nat}, k ≤ i → poolx G pl pc Z i k = pool G pl pc Z k
  | 0, _ => rfl
  | k + 1, h => by
    simp only [poolx, pool]
    rw [if_neg (by omega), poolx_ge (by omega)]
theorem pool_perm {G : Gx} {pl pc : Nat → Nat} {Z : Nat → Zf} {i : Nat} : ∀ {k : Nat}, i < k → (pool G pl pc Z k).Perm ([(pl i, .inr (1, [.ref (pc i)])), (pc i, aI G 54 (encC (Z i)))] ++ poolx G pl pc Z i k)
  | 0, h => absurd h (Nat.not_lt_zero i)
  | k + 1, h => by
    simp only [poolx, pool]
    by_cases e : k = i
    · subst e
      rw [if_pos rfl, poolx_ge (Nat.le_refl k)]
      exact List.perm_append_comm
    · rw [if_neg e, ← List.append_assoc]
      exact (pool_perm (by omega)).append_right _
theorem pool_congr {G : Gx} {pl pc pl' pc' : Nat → Nat} {Z Z' : Nat → Zf} : ∀ {k : Nat}, (∀ i : Nat, i < k → pl i = pl' i ∧ pc i = pc' i ∧ Z i = Z' i) → pool G pl pc Z k = pool G pl' pc' Z' k
  | 0, _ => rfl
  | k + 1, h => by
    simp only [pool]
    obtain ⟨a, b, c⟩ := h k (Nat.lt_succ_self k)
    rw [pool_congr (fun i hi => h i (by omega)), a, b, c]
theorem poolx_congr {G : Gx} {pl pc : Nat → Nat} {Z Z' : Nat → Zf} {j : Nat} : ∀ {k : Nat}, (∀ i : Nat, i < k → i ≠ j → Z i = Z' i) → poolx G pl pc Z j k = poolx G pl pc Z' j k
  | 0, _ => rfl
  | k + 1, h => by
    simp only [poolx]
    by_cases e : k = j
    · rw [if_pos e, if_pos e, poolx_congr (fun i hi => h i (by omega))]
    · rw [if_neg e, if_neg e, poolx_congr (fun i hi => h i (by omega)), h k (Nat.lt_succ_self k) e]
theorem pool_set {G : Gx} {pl pc : Nat → Nat} {Z : Nat → Zf} {w : Zf} {i k : Nat} (h : i < k) : (pool G pl pc (updZ Z i w) k).Perm ([(pl i, .inr (1, [.ref (pc i)])), (pc i, aI G 54 (encC w))] ++ poolx G pl pc Z i k) := by
  have t := pool_perm (G := G) (pl := pl) (pc := pc) (Z := updZ Z i w) h
  rw [updZ_s, poolx_congr (Z' := Z) (fun j _ hj => updZ_n hj)] at t
  exact t
theorem pool_snoc {G : Gx} {pl pc : Nat → Nat} {Z : Nat → Zf} {w : Zf} {q c k : Nat} : pool G (updN pl k q) (updN pc k c) (updZ Z k w) (k + 1) = pool G pl pc Z k ++ [(q, .inr (1, [.ref c])), (c, aI G 54 (encC w))] := by
  simp only [pool]
  rw [updN_s, updN_s, updZ_s, pool_congr (pl' := pl) (pc' := pc) (Z' := Z) (fun i hi => ⟨updN_n (by omega), updN_n (by omega), updZ_n (by omega)⟩)]
def fL (pl : Nat → Nat) (K : Nat) : Nat → Option Nat := fun j => if j < K then some (pl j) else none
theorem fL_lt {pl : Nat → Nat} {K j : Nat} (h : j < K) : fL pl K j = some (pl j) := if_pos h
theorem fL_ge {pl : Nat → Nat} {K j : Nat} (h : K ≤ j) : fL pl K j = none := if_neg (by omega)
theorem fL_up (pl : Nat → Nat) (K q : Nat) : va_up (fL pl K) K (some q) = fL (updN pl K q) (K + 1) := by
  funext j
  simp only [va_up, fL, updN]
  by_cases e : j = K
  · subst e
    rw [if_pos rfl, if_pos (by omega), if_pos rfl]
  · rw [if_neg e, if_neg e]
    by_cases e2 : j < K
    · rw [if_pos e2, if_pos (by omega)]
    · rw [if_neg e2, if_neg (by omega)]
theorem perm_mid (A T x : va_W) : ((A ++ T) ++ x).Perm ((A ++ x) ++ T) := by
  rw [List.append_assoc, List.append_assoc]
  exact List.perm_append_comm.append_left A
theorem perm_mid2 (A R T : va_W) : ((A ++ R) ++ T).Perm ((A ++ T) ++ R) := by
  rw [List.append_assoc, List.append_assoc]
  exact List.perm_append_comm.append_left A
theorem perm_mid3 (A R T : va_W) : ((A ++ T) ++ R).Perm ((A ++ R) ++ T) := perm_mid2 A T R
theorem perm_comm (A B : va_W) : (A ++ B).Perm (B ++ A) := List.perm_append_comm
theorem perm_tail {T T' : va_W} (A : va_W) (h : T.Perm T') : (A ++ T).Perm (A ++ T') := h.append_left A
section
variable {G : Gx} {X : Cx} {cells slots : Nat} {ws : va_W} {pc : Nat} {lv : List (Nat × Value)} {st : List Value}
theorem u_eqc {cells' slots' : Nat} (e1 : cells = cells') (e2 : slots = slots') (kk : U G X cells' slots' ws pc lv st) : U G X cells slots ws pc lv st := by subst e1; subst e2; exact kk
end
section
variable {G : Gx} {X : Cx} {cc : ByteArray} {own : String} {Ts : List Cond} {cells slots : Nat} {pc pc' : Nat} {lv : List (Nat × Value)} {st st0 : List Value}
/-- a static call of the own class, whose cells stand in front -/
theorem u_callSA (h : CX G X cc own Ts) {y : MethodName} {wsy : List Cond} {rm R0 : Room} {As : List Value} {wc wr : va_W} {post : Option Value → va_W → Prop} {mc ms index n maxL : Nat} {bytes : ByteArray} {ret : Option FieldType} (hM : MC G y wsy rm As wc post mc ms) (hcw : CWd Ts (wsS own index y wsy) y wsy bytes maxL ret n) (hyC : y.cls = own) (hn : As.length = n) (hR0 : gR X = R0) (hfit : fitR rm R0 maxL mc ms) (hf : cells + mc ≤ R0.cells ∧ slots + ms ≤ R0.slots) (hroom : (st.map fun v => v.category).sum ≤ 8) (hst : st0 = As.reverse ++ st) (hdg : decode cc pc = .ok (.invokestatic index, 3)) (hpc : pc + 3 = pc') (kk : ∀ (v : Option Value) (u : va_W), post v u → U G X (cells + mc) (slots + ms) (u ++ wr) pc' lv (v.toList ++ st)) : U G X cells slots (wc ++ wr) pc lv st0 :=
  u_callS h hM hcw hyC hn hR0 hfit hf (List.range wc.length) (List.range' wc.length wr.length) (rng_l wc wr) (nd_iff _ List.nodup_range) (rng_r wc wr) (nd_iff _ List.nodup_range') (fun i h1 h2 => by rw [List.mem_range] at h2; rw [List.mem_range'_1] at h1; omega) hroom hst hdg hpc (fun v u hp => u_perm List.perm_append_comm (kk v u hp))
end
/-- is the trial's lock known, with this back -/
noncomputable def xHas (Z : Nat → Zf) (bk : Zf) (w : Zf) (b : Int32) : Nat → Bool
  | 0 => false
  | n + 1 => xHas Z bk w b n || (decide (bk n = b) && sameE w (Z n))
theorem xHas_of {Z : Nat → Zf} {bk w : Zf} {b : Int32} {k : Nat} : ∀ {n : Nat}, k < n → bk k = b → sameE w (Z k) = true → xHas Z bk w b n = true
  | 0, h, _, _ => absurd h (Nat.not_lt_zero k)
  | n + 1, h, e1, e2 => by
    simp only [xHas, Bool.or_eq_true]
    by_cases q : k = n
    · subst q
      refine Or.inr ?_
      rw [e1, e2, decide_eq_true rfl]
      rfl
    · exact Or.inl (xHas_of (by omega) e1 e2)
theorem xHas_no {Z : Nat → Zf} {bk w : Zf} {b : Int32} : ∀ {n : Nat}, (∀ k : Nat, k < n → ¬ (bk k = b ∧ sameE w (Z k) = true)) → xHas Z bk w b n = false
  | 0, _ => rfl
  | n + 1, h => by
    simp only [xHas]
    rw [xHas_no (fun k hk => h k (by omega))]
    cases e : decide (bk n = b)
    · rfl
    · cases e2 : sameE w (Z n)
      · rfl
      · exact absurd ⟨of_decide_eq_true e, e2⟩ (h n (by omega))
def xn (n : Nat) : Nat := if n < 300 then n + 1 else n
def xZ (Z : Nat → Zf) (n : Nat) (w : Zf) : Nat → Zf := if n < 300 then updZ Z n w else Z
def xB (bk : Zf) (n : Nat) (b : Int32) : Zf := if n < 300 then upd bk n b else bk
theorem xn_le {n : Nat} (h : n ≤ 300) : n ≤ xn n ∧ xn n ≤ 300 := by unfold xn; split <;> omega
