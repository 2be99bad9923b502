/-! numbers that don't overflow: bounds of longs and ints by their size without sign -/
def bd (x : Int64) (A : Nat) : Prop := x.toInt.natAbs ≤ A
def bi (x : Int32) (A : Nat) : Prop := x.toInt.natAbs ≤ A
theorem l_add {x y : Int64} (h1 : -2 ^ 63 ≤ x.toInt + y.toInt) (h2 : x.toInt + y.toInt < 2 ^ 63) : (x + y).toInt = x.toInt + y.toInt := by
  rw [Int64.toInt_add, Int.bmod_eq_of_le (by omega) (by omega)]
theorem l_sub {x y : Int64} (h1 : -2 ^ 63 ≤ x.toInt - y.toInt) (h2 : x.toInt - y.toInt < 2 ^ 63) : (x - y).toInt = x.toInt - y.toInt := by
  rw [Int64.toInt_sub, Int.bmod_eq_of_le (by omega) (by omega)]
theorem l_mul {x y : Int64} (h1 : -2 ^ 63 ≤ x.toInt * y.toInt) (h2 : x.toInt * y.toInt < 2 ^ 63) : (x * y).toInt = x.toInt * y.toInt := by
  rw [Int64.toInt_mul, Int.bmod_eq_of_le (by omega) (by omega)]
theorem l_neg {x : Int64} (h1 : -2 ^ 63 < x.toInt) : (-x).toInt = -x.toInt := by
  have h2 := x.toInt_lt
  rw [Int64.toInt_neg, Int.bmod_eq_of_le (by omega) (by omega)]
theorem bd_mono {x : Int64} {A B : Nat} (h : bd x A) (hAB : A ≤ B) : bd x B := Nat.le_trans h hAB
theorem bd_mul {x y : Int64} {A B : Nat} (hx : bd x A) (hy : bd y B) (h : A * B < 2 ^ 63) : bd (x * y) (A * B) := by
  have h1 : (x.toInt * y.toInt).natAbs ≤ A * B := by rw [Int.natAbs_mul]; exact Nat.mul_le_mul hx hy
  unfold bd
  generalize A * B = C at h h1 ⊢
  rw [l_mul (by omega) (by omega)]
  exact h1
theorem bd_add {x y : Int64} {A B : Nat} (hx : bd x A) (hy : bd y B) (h : A + B < 2 ^ 63) : bd (x + y) (A + B) := by
  unfold bd at hx hy ⊢
  rw [l_add (by omega) (by omega)]
  omega
theorem bd_sub {x y : Int64} {A B : Nat} (hx : bd x A) (hy : bd y B) (h : A + B < 2 ^ 63) : bd (x - y) (A + B) := by
  unfold bd at hx hy ⊢
  rw [l_sub (by omega) (by omega)]
  omega
theorem bd_neg {x : Int64} {A : Nat} (hx : bd x A) (h : A < 2 ^ 63) : bd (-x) A := by
  unfold bd at hx ⊢
  rw [l_neg (by omega)]
  omega
theorem bd_of {x : Int32} {A : Nat} (h : bi x A) : bd x.toInt64 A := by
  unfold bd
  rw [Int32.toInt_toInt64]
  exact h
theorem bi_of {x : Int32} {lo hi : Int} (h : lo ≤ x.toInt ∧ x.toInt < hi) {A : Nat} (h1 : -(A : Int) ≤ lo) (h2 : hi ≤ A + 1) : bi x A := by
  unfold bi
  omega
theorem bi_add {x y : Int32} {A B : Nat} (hx : bi x A) (hy : bi y B) (h : A + B < 2 ^ 31) : bi (x + y) (A + B) := by
  unfold bi at hx hy ⊢
  rw [i_add (by omega) (by omega)]
  omega
theorem bi_sub {x y : Int32} {A B : Nat} (hx : bi x A) (hy : bi y B) (h : A + B < 2 ^ 31) : bi (x - y) (A + B) := by
  unfold bi at hx hy ⊢
  rw [i_sub (by omega) (by omega)]
  omega
theorem bi_mul {x y : Int32} {A B : Nat} (hx : bi x A) (hy : bi y B) (h : A * B < 2 ^ 31) : bi (x * y) (A * B) := by
  have h1 : (x.toInt * y.toInt).natAbs ≤ A * B := by rw [Int.natAbs_mul]; exact Nat.mul_le_mul hx hy
  unfold bi
  generalize A * B = C at h h1 ⊢
  rw [i_mul (by omega) (by omega)]
  exact h1
theorem sh26 (x : Int64) : x <<< ((26 : Int32).toInt64 &&& 63) = x * 67108864 := by
  rw [show ((26 : Int32).toInt64 &&& 63) = (26 : Int64) by decide]
  refine Int64.toBitVec_inj.mp ?_
  rw [Int64.toBitVec_shiftLeft, Int64.toBitVec_mul]
  rw [show ((26 : Int64).toBitVec.smod 64) = 26#64 by decide]
  rw [BitVec.shiftLeft_eq', show (26#64).toNat = 26 by decide, BitVec.shiftLeft_eq_mul_twoPow]
  congr 1
theorem step_bd {fd ff fi fp fs fl : Nat → Int32} {h w q : Int32} (hh : bi h 10197) (hq : bi q 61) (h1 : bi (fd w.toNatClampNeg) 5000) (h2 : bi (ff w.toNatClampNeg) 5000) (h3 : 0 ≤ fi w.toNatClampNeg → bi (fp (fi w.toNatClampNeg).toNatClampNeg) 1000 ∧ bi (fs (fi w.toNatClampNeg).toNatClampNeg) 3 ∧ bi (fl (fi w.toNatClampNeg).toNatClampNeg) 100) : bd (stepF fd ff fi fp fs fl h w q) 60000000 := by
  have hA : bd (stepA fd ff h w q) 50000000 := by
    unfold stepA
    have hs : bd (fd w.toNatClampNeg + ff w.toNatClampNeg).toInt64 10000 := bd_of (bi_add h1 h2 (by decide))
    have hq1 : bd (1 - q).toInt64 62 := bd_of (bi_sub (x := 1) (A := 1) (by unfold bi; decide) hq (by decide))
    split
    · exact bd_mono (bd_sub (bd_mul (bd_mul (bd_neg (bd_of hh) (by decide)) hq1 (by decide)) hq1 (by decide)) hs (by decide)) (by decide)
    · exact bd_mono (bd_sub (bd_mul (bd_mul (bd_of hh) (bd_of hq) (by decide)) (bd_of hq) (by decide)) hs (by decide)) (by decide)
  unfold stepF
  split
  · rename_i h9
    obtain ⟨a, b, c⟩ := h3 h9
    exact bd_mono (bd_add (bd_sub hA (bd_of (bi_mul a b (by decide))) (by decide)) (bd_of (bi_mul c hq (by decide))) (by decide)) (by decide)
  · exact bd_mono hA (by decide)
theorem both_bd {fp : Nat → Int64} {s : Int64} {w q : Int32} (hs : bd s 60000000) (hp : bd (fp w.toNatClampNeg) 4000000) : bd (bothF fp s w q) (2 ^ 52) := by
  unfold bothF
  rw [sh26]
  have h1 : bd (s * 67108864) (60000000 * 67108864) := bd_mul hs (by unfold bd; decide) (by decide)
  have h2 : bd (if q ≤ 0 then -fp w.toNatClampNeg else fp w.toNatClampNeg) 4000000 := by
    split
    · exact bd_neg hp (by decide)
    · exact hp
  exact bd_mono (bd_add h1 h2 (by decide)) (by decide)
