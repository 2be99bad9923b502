/-! the bytes that feed lays behind THE TAPE -/
def bB (v : Int32) (j : Nat) : Int32 := match j with
  | 0 => v >>> ((24 : Int32) &&& 31) &&& 255
  | 1 => v >>> ((16 : Int32) &&& 31) &&& 255
  | 2 => v >>> ((8 : Int32) &&& 31) &&& 255
  | _ => v >>> ((0 : Int32) &&& 31) &&& 255
def fdB (a b c d e : Int32) (k : Nat) : Int32 := if k < 4 then bB a k else if k < 8 then bB b (k - 4) else if k < 12 then bB c (k - 8) else if k < 16 then bB d (k - 12) else bB e (k - 16)
theorem ap_s {f f1 f2 f3 f4 : Nat → Int32} {n : Nat} {v a b c d : Int32} (hn : n ≤ 596) (e1 : f1 = upd f (nI n).toNatClampNeg a) (e2 : f2 = upd f1 (nI (n + 1)).toNatClampNeg b) (e3 : f3 = upd f2 (nI (n + 2)).toNatClampNeg c) (e4 : f4 = upd f3 (nI (n + 3)).toNatClampNeg d) (ha : a = bB v 0) (hb : b = bB v 1) (hc : c = bB v 2) (hd : d = bB v 3) : ∀ k, f4 k = if k < n then f k else if k < n + 4 then bB v (k - n) else f k := by
  rw [nI_clamp (by omega)] at e1 e2 e3 e4
  intro k
  rw [e4, e3, e2, e1]
  by_cases c3 : k = n + 3
  · subst c3
    rw [pk_us, if_neg (by omega), if_pos (by omega), hd, show n + 3 - n = 3 by omega]
  rw [pk_un c3]
  by_cases c2 : k = n + 2
  · subst c2
    rw [pk_us, if_neg (by omega), if_pos (by omega), hc, show n + 2 - n = 2 by omega]
  rw [pk_un c2]
  by_cases c1 : k = n + 1
  · subst c1
    rw [pk_us, if_neg (by omega), if_pos (by omega), hb, show n + 1 - n = 1 by omega]
  rw [pk_un c1]
  by_cases c0 : k = n
  · subst c0
    rw [pk_us, if_neg (by omega), if_pos (by omega), ha, Nat.sub_self]
  rw [pk_un c0]
  by_cases h : k < n
  · rw [if_pos h]
  · rw [if_neg h, if_neg (by omega)]
theorem fd_s {t0 t1 t2 t3 t4 t5 : Nat → Int32} {n0 n1 n2 n3 n4 : Nat} {a b c d e : Int32} (q1 : n1 = n0 + 4) (q2 : n2 = n1 + 4) (q3 : n3 = n2 + 4) (q4 : n4 = n3 + 4) (h1 : ∀ k, t1 k = if k < n0 then t0 k else if k < n0 + 4 then bB a (k - n0) else t0 k) (h2 : ∀ k, t2 k = if k < n1 then t1 k else if k < n1 + 4 then bB b (k - n1) else t1 k) (h3 : ∀ k, t3 k = if k < n2 then t2 k else if k < n2 + 4 then bB c (k - n2) else t2 k) (h4 : ∀ k, t4 k = if k < n3 then t3 k else if k < n3 + 4 then bB d (k - n3) else t3 k) (h5 : ∀ k, t5 k = if k < n4 then t4 k else if k < n4 + 4 then bB e (k - n4) else t4 k) : ∀ k, k < n0 + 20 → t5 k = if k < n0 then t0 k else fdB a b c d e (k - n0) := by
  intro k hk
  by_cases c0 : k < n0
  · rw [h5, if_pos (by omega), h4, if_pos (by omega), h3, if_pos (by omega), h2, if_pos (by omega), h1, if_pos c0, if_pos c0]
  rw [if_neg c0]
  unfold fdB
  by_cases c1 : k < n0 + 4
  · rw [h5, if_pos (by omega), h4, if_pos (by omega), h3, if_pos (by omega), h2, if_pos (by omega), h1, if_neg (by omega), if_pos (by omega), if_pos (by omega)]
  by_cases c2 : k < n0 + 8
  · rw [h5, if_pos (by omega), h4, if_pos (by omega), h3, if_pos (by omega), h2, if_neg (by omega), if_pos (by omega), if_neg (by omega), if_pos (by omega), show k - n1 = k - n0 - 4 by omega]
  by_cases c3 : k < n0 + 12
  · rw [h5, if_pos (by omega), h4, if_pos (by omega), h3, if_neg (by omega), if_pos (by omega), if_neg (by omega), if_neg (by omega), if_pos (by omega), show k - n2 = k - n0 - 8 by omega]
  by_cases c4 : k < n0 + 16
  · rw [h5, if_pos (by omega), h4, if_neg (by omega), if_pos (by omega), if_neg (by omega), if_neg (by omega), if_neg (by omega), if_pos (by omega), show k - n3 = k - n0 - 12 by omega]
  rw [h5, if_neg (by omega), if_pos (by omega), if_neg (by omega), if_neg (by omega), if_neg (by omega), if_neg (by omega), show k - n4 = k - n0 - 16 by omega]
theorem rb_b {x : Int32} : vp_nar .byte (x.toInt8.toInt32) &&& 255 = x &&& 255 := by
  show (x.toInt8.toInt32).toInt8.toInt32 &&& 255 = x &&& 255
  apply Int32.toBitVec_inj.mp
  show ((((x.toBitVec.signExtend 8).signExtend 32).signExtend 8).signExtend 32) &&& 255#32 = x.toBitVec &&& 255#32
  apply BitVec.eq_of_getLsbD_eq
  intro i hi
  have h255 : (255#32).getLsbD i = decide (i < 8) := by
    revert i
    decide
  rw [BitVec.getLsbD_and, BitVec.getLsbD_and, h255]
  by_cases c : i < 8
  · have c32 : decide (i < 32) = true := decide_eq_true hi
    have c8 : decide (i < 8) = true := decide_eq_true c
    rw [BitVec.getLsbD_signExtend, c32, if_pos c, BitVec.getLsbD_signExtend, c8, if_pos hi, BitVec.getLsbD_signExtend, c32, if_pos c, BitVec.getLsbD_signExtend, c8, if_pos hi]
    simp
  · simp [c]
theorem rb_m {k : Nat} (hk : k < 20) : nI k - nI k / 4 * 4 = nI (k % 4) := by
  have h4 : nI k / 4 = nI (k / 4) := pk_div (d := 4) (by omega) (by decide) (by decide)
  have h5 : nI (k / 4) * 4 = nI (k / 4 * 4) := pk_mul _ 4
  rw [h4, h5]
  apply Int32.toInt_inj.mp
  rw [i_sub (by rw [nI_toInt (by omega), nI_toInt (by omega)]; omega) (by rw [nI_toInt (by omega), nI_toInt (by omega)]; omega), nI_toInt (by omega), nI_toInt (by omega), nI_toInt (by omega)]
  omega
theorem rb_v {v s0 s1 s2 w z : Int32} {k : Nat} (hk : k < 20) (e0 : s0 = nI k - nI k / 4 * 4) (e1 : s1 = 8 * s0) (e2 : s2 = 24 - s1) (ew : w = v >>> (s2 &&& 31)) (ez : z = w.toInt8.toInt32) : vp_nar .byte z &&& 255 = bB v (k % 4) := by
  rw [ez, rb_b, ew, e2, e1, e0, rb_m hk]
  have h : k % 4 < 4 := Nat.mod_lt _ (by decide)
  rcases (show k % 4 = 0 ∨ k % 4 = 1 ∨ k % 4 = 2 ∨ k % 4 = 3 by omega) with q | q | q | q <;> rw [q]
  · rw [show (24 - 8 * nI 0 &&& 31 : Int32) = (24 : Int32) &&& 31 by decide]; rfl
  · rw [show (24 - 8 * nI 1 &&& 31 : Int32) = (16 : Int32) &&& 31 by decide]; rfl
  · rw [show (24 - 8 * nI 2 &&& 31 : Int32) = (8 : Int32) &&& 31 by decide]; rfl
  · rw [show (24 - 8 * nI 3 &&& 31 : Int32) = (0 : Int32) &&& 31 by decide]; rfl
theorem rf_s {f t t2 : Nat → Int32} {n k m : Nat} {x : Int32} {B : Nat → Int32} (h : ∀ j, j < n + k → t j &&& 255 = if j < n then f j &&& 255 else B (j - n)) (hm : m = n + k) (e : t2 = upd t (nI m).toNatClampNeg x) (hx : x &&& 255 = B k) (hn : n + k < 2 ^ 31) : ∀ j, j < n + (k + 1) → t2 j &&& 255 = if j < n then f j &&& 255 else B (j - n) := by
  intro j hj
  rw [e, hm, nI_clamp hn]
  by_cases c : j = n + k
  · subst c
    rw [pk_us, hx, if_neg (by omega), Nat.add_sub_cancel_left]
  · rw [pk_un c]
    exact h j (by omega)
theorem fdB_0 {a b c d e : Int32} {k : Nat} (h : k < 4) : fdB a b c d e k = bB a (k % 4) := by
  unfold fdB
  rw [if_pos h, Nat.mod_eq_of_lt h]
theorem fdB_1 {a b c d e : Int32} {k : Nat} (h0 : ¬ k < 4) (h : k < 8) : fdB a b c d e k = bB b (k % 4) := by
  unfold fdB
  rw [if_neg h0, if_pos h, show k % 4 = k - 4 by omega]
theorem fdB_2 {a b c d e : Int32} {k : Nat} (h0 : ¬ k < 8) (h : k < 12) : fdB a b c d e k = bB c (k % 4) := by
  unfold fdB
  rw [if_neg (by omega), if_neg h0, if_pos h, show k % 4 = k - 8 by omega]
theorem fdB_3 {a b c d e : Int32} {k : Nat} (h0 : ¬ k < 12) (h : k < 16) : fdB a b c d e k = bB d (k % 4) := by
  unfold fdB
  rw [if_neg (by omega), if_neg (by omega), if_neg h0, if_pos h, show k % 4 = k - 12 by omega]
theorem fdB_4 {a b c d e : Int32} {k : Nat} (h0 : ¬ k < 16) (h : k < 20) : fdB a b c d e k = bB e (k % 4) := by
  unfold fdB
  rw [if_neg (by omega), if_neg (by omega), if_neg (by omega), if_neg h0, show k % 4 = k - 16 by omega]
