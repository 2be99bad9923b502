def pcI (fk fo : Nat → Int32) : Prop := ∀ j, j < 5 → (fk j = 0 → (fo j).toInt < 6) ∧ (fk j = 1 → (fo j).toInt < 4) ∧ 0 ≤ (fo j).toInt ∧ (fo j).toInt < 14
theorem pcI_upd {fk fo k2 o2 : Nat → Int32} {n : Nat} {a b : Int32} (h : pcI fk fo) (hn : n < 2 ^ 31) (e1 : k2 = upd fk (nI n).toNatClampNeg a) (e2 : o2 = upd fo (nI n).toNatClampNeg b) (ha : (a = 0 → b.toInt < 6) ∧ (a = 1 → b.toInt < 4) ∧ 0 ≤ b.toInt ∧ b.toInt < 14) : pcI k2 o2 := by
  intro j hj
  rw [nI_clamp hn] at e1 e2
  rw [e1, e2]
  by_cases q : j = n
  · rw [q, pk_us, pk_us]; exact ha
  · rw [pk_un q, pk_un q]; exact h j hj
theorem shl5 {c : Nat} (h : c < 5) : 0 ≤ ((1 : Int32) <<< (nI c &&& 31)).toInt ∧ ((1 : Int32) <<< (nI c &&& 31)).toInt < 32 := by
  rcases (show c = 0 ∨ c = 1 ∨ c = 2 ∨ c = 3 ∨ c = 4 by omega) with rfl | rfl | rfl | rfl | rfl <;> decide
theorem sml {x : Int32} (h : 0 ≤ x.toInt ∧ x.toInt < 32) : x.toBitVec.toNat < 32 := by
  have h1 : x.toBitVec.toInt = x.toInt := rfl
  have h2 := BitVec.toInt_eq_toNat_cond x.toBitVec
  by_cases c : 2 * x.toBitVec.toNat < 2 ^ 32
  · rw [if_pos c] at h2; omega
  · rw [if_neg c] at h2
    have := x.toBitVec.isLt
    omega
theorem sml_of {x : Int32} (h : x.toBitVec.toNat < 32) : 0 ≤ x.toInt ∧ x.toInt < 32 := by
  have h1 : x.toInt = (x.toBitVec.toNat : Int) := by
    show x.toBitVec.toInt = _
    rw [BitVec.toInt_eq_toNat_of_lt (by omega)]
  omega
theorem shown5 {s x y z v : Int32} (hs : 0 ≤ s.toInt ∧ s.toInt < 32) (h1 : v = s &&& x) (h2 : 0 ≤ y.toInt ∧ y.toInt < 32) (h3 : z = v ||| y) : 0 ≤ z.toInt ∧ z.toInt < 32 := by
  apply sml_of
  have a := sml hs
  have b := sml h2
  have e : z.toBitVec.toNat = (s.toBitVec.toNat &&& x.toBitVec.toNat) ||| y.toBitVec.toNat := by
    rw [h3, h1]
    show ((s.toBitVec &&& x.toBitVec) ||| y.toBitVec).toNat = _
    rw [BitVec.toNat_or, BitVec.toNat_and]
  rw [e]
  exact Nat.or_lt_two_pow (n := 5) (Nat.lt_of_le_of_lt Nat.and_le_left a) b
