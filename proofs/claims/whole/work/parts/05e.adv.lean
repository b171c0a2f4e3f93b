theorem adv_eq {z : Zf} {v : Nat} (hv : v < 6) (hW : Wc z) (hL : Li z) : encC (stM z v) = encC (zlC z v) ∧ cntC (stM z v) = cnA z v ∧ linC (stM z v) = liA z v ∧ stM z v 53 = lnA z v ∧ stM z v 61 = z 61 := by
  sorry
theorem sum_step {z : Zf} {v : Nat} (hv : v < 6) (hW : Wf z) : sumZ (stM z v) 62 6 = sumZ z 62 6 + 1 := by
  sorry
def GoC (z : Zf) (v N : Nat) : Prop := GoOk z v N ∧ ∀ j : Nat, j ≤ N → Wc (itS z v j) ∧ Li (itS z v j)
def FiC (z : Zf) (N : Nat) : Prop := FiOk z N ∧ ∀ j i : Nat, j ≤ N → i ≤ 6 → Wc (rdZ (frZ z j) i) ∧ Li (rdZ (frZ z j) i)
theorem same_enc {z w : Zf} : (∀ i : Nat, i < 54 → encC z i = encC w i) ↔ encC z = encC w := by
  constructor
  · intro h
    funext j
    rcases Nat.lt_or_ge j 54 with q | q
    · exact h j q
    · rw [enc_hi q, enc_hi q]
  · intro h i _
    rw [h]
/-- the other way to draw: from the least on -/
def bitN (k v : Nat) : Bool := decide (nI k &&& (1 <<< (nI v &&& 31)) = 0)
theorem lot_bits : ((List.range 64).all fun k => (List.range 6).all fun v => decide (bitN k v = decide (bitM (nI k) v = 0))) = true := by decide +kernel
theorem lot_01 : ((List.range 64).all fun k => (List.range 6).all fun v => decide (bitM (nI k) v = 0) || decide (bitM (nI k) v = 1)) = true := by decide +kernel
theorem lot_one : ((List.range 64).all fun k => (List.range 6).all fun r => (List.range 6).all fun v => !(decide (bitM (nI k) v = 1) && decide (bitsM (nI k) v = nI r)) || decide (pickM (nI k) (nI r) 6 = nI v)) = true := by decide +kernel
def bcE (x : Int32) : Int32 :=
  let a := x - ((x.toUInt32 >>> ((1 : Int32).toUInt32 &&& Int32.toUInt32 31)).toInt32 &&& 1431655765)
  let b := (a &&& 858993459) + ((a.toUInt32 >>> ((2 : Int32).toUInt32 &&& Int32.toUInt32 31)).toInt32 &&& 858993459)
  let c := (b + (b.toUInt32 >>> ((4 : Int32).toUInt32 &&& Int32.toUInt32 31)).toInt32) &&& 252645135
  let d := c + (c.toUInt32 >>> ((8 : Int32).toUInt32 &&& Int32.toUInt32 31)).toInt32
  (d + (d.toUInt32 >>> ((16 : Int32).toUInt32 &&& Int32.toUInt32 31)).toInt32) &&& 63
theorem bc_all : ((List.range 64).all fun k => decide (bcE (nI k) = bitsM (nI k) 6)) = true := by decide +kernel
theorem bc_eq {k : Nat} (hk : k < 64) : bcE (nI k) = bitsM (nI k) 6 := by
  have h := List.all_eq_true.mp bc_all k (List.mem_range.mpr hk)
  simpa using h
noncomputable def sameE (z w : Zf) : Bool := @decide (encC z = encC w) (Classical.propDecidable _)
theorem sameE_t {z w : Zf} (h : encC z = encC w) : sameE z w = true := @decide_eq_true _ (Classical.propDecidable _) h
theorem sameE_f {z w : Zf} (h : ¬ encC z = encC w) : sameE z w = false := @decide_eq_false _ (Classical.propDecidable _) h
