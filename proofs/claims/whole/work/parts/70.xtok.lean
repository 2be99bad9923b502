/-! tokens of a TEXT, purely: T its bytes, n how many of them are the TEXT -/
def rE (P : Int32 → Bool) (T : Nat → Int32) (n : Nat) : Nat → Nat → Nat
  | 0, a => a
  | f + 1, a => if a < n ∧ P (T a) = true then rE P T n f (a + 1) else a
def rN (P : Int32 → Bool) (T : Nat → Int32) (n a : Nat) : Nat := rE P T n (n - a) a
theorem rE_eq {P : Int32 → Bool} {T : Nat → Int32} {n : Nat} : ∀ (f a e : Nat), a ≤ e → e ≤ n → n - a ≤ f → (∀ j, a ≤ j → j < e → P (T j) = true) → (e < n → P (T e) = false) → rE P T n f a = e
  | 0, a, e, h1, h2, h3, _, _ => by
    show a = e
    omega
  | f + 1, a, e, h1, h2, h3, h4, h5 => by
    show (if a < n ∧ P (T a) = true then rE P T n f (a + 1) else a) = e
    by_cases h : a < e
    · rw [if_pos ⟨by omega, h4 a (Nat.le_refl _) h⟩]
      exact rE_eq f (a + 1) e (by omega) h2 (by omega) (fun j hj hl => h4 j (by omega) hl) h5
    · have e1 : a = e := by omega
      subst e1
      rw [if_neg (fun q => by rw [h5 q.1] at q; exact absurd q.2 (by decide))]
theorem rN_eq {P : Int32 → Bool} {T : Nat → Int32} {n a e : Nat} (h1 : a ≤ e) (h2 : e ≤ n) (h4 : ∀ j, a ≤ j → j < e → P (T j) = true) (h5 : e < n → P (T e) = false) : rN P T n a = e := rE_eq _ a e h1 h2 (Nat.le_refl _) h4 h5
def bBl (c : Int32) : Bool := decide (c = 32)
def bLt (c : Int32) : Bool := decide (97 ≤ c.toInt ∧ c.toInt ≤ 122)
def bDg (c : Int32) : Bool := decide (48 ≤ c.toInt ∧ c.toInt ≤ 57)
def tkP (T : Nat → Int32) (n a : Nat) : Nat := rN bBl T n a
/-- where the token at p ends (a sign that begins none: behind it) -/
def tkE0 (T : Nat → Int32) (n p : Nat) : Nat := if n ≤ p then p else if bLt (T p) = true then rN bLt T n p else if bDg (T p) = true then rN bDg T n p else p + 1
def tkE (T : Nat → Int32) (n a : Nat) : Nat := tkE0 T n (tkP T n a)
/-- 0 the end, 1 a WORD, 2 a WHOLE, 3 ';', 4 '-', 5 no token -/
def tkS0 (T : Nat → Int32) (n p : Nat) : Nat := if n ≤ p then 0 else if bLt (T p) = true then (if rN bLt T n p - p ≤ 8 then 1 else 5) else if bDg (T p) = true then (if rN bDg T n p - p ≤ 4 then 2 else 5) else if T p = 59 then 3 else if T p = 45 then 4 else 5
def tkS (T : Nat → Int32) (n a : Nat) : Nat := tkS0 T n (tkP T n a)
def wvT (T : Nat → Int32) (p : Nat) : Nat → Int64
  | 0 => 0
  | k + 1 => 32 * wvT T p k + (T (p + k) - 97 + 1).toInt64
def dvT (T : Nat → Int32) (p : Nat) : Nat → Int32
  | 0 => 0
  | k + 1 => 10 * dvT T p k + T (p + k) - 48
def tkW (T : Nat → Int32) (n a : Nat) : Int64 := wvT T (tkP T n a) (tkE T n a - tkP T n a)
def tkN (T : Nat → Int32) (n a : Nat) : Int32 := dvT T (tkP T n a) (tkE T n a - tkP T n a)
/-! the reference's fields of a token: place p, end e, sort s, mark m, number u, word w -/
def mS : Nat → Int32
  | 0 => 1
  | 1 => 2
  | 2 => 3
  | 3 => 4
  | 4 => 4
  | _ => 0
def mTk (T : Nat → Int32) (n a p e : Nat) (s m u : Int32) (w : Int64) : Prop := p = tkP T n a ∧ (tkS T n a ≠ 5 → e = tkE T n a) ∧ s = mS (tkS T n a) ∧ (tkS T n a = 3 → m = 59) ∧ (tkS T n a = 4 → m = 45) ∧ (tkS T n a = 1 → w = tkW T n a) ∧ (tkS T n a = 2 → u = tkN T n a)
/-- the class's: start ts, end e, token tk, value v -/
def xTk (T : Nat → Int32) (n a ts e : Nat) (tk : Int32) (v : Int64) : Prop := ts = tkP T n a ∧ e = tkE T n a ∧ tk = nI (tkS T n a) ∧ (tkS T n a = 1 → v = tkW T n a) ∧ (tkS T n a = 2 → v.toInt32 = tkN T n a)
theorem l_dig (x : Int64) (c : Int32) : (x * 10 + c.toInt64 - 48).toInt32 = 10 * x.toInt32 + c - 48 := by
  rw [Int64.toInt32_sub, Int64.toInt32_add, Int64.toInt32_mul, Int32.toInt32_toInt64, Int32.mul_comm]
  rfl
theorem l_let (x : Int64) (y : Int32) (h : 0 ≤ y.toInt ∧ y.toInt < 32) : (x <<< 5) ||| y.toInt64 = 32 * x + y.toInt64 := by
  apply Int64.toBitVec_inj.mp
  have hy : y.toInt64.toBitVec.toNat = y.toInt.toNat := by
    have h1 : y.toInt64.toInt = y.toInt := Int32.toInt_toInt64 y
    have h2 : y.toInt64.toBitVec.toInt = y.toInt := h1
    have h3 : y.toInt64.toBitVec.toInt = (y.toInt64.toBitVec.toNat : Int) ∨ y.toInt64.toBitVec.toInt = (y.toInt64.toBitVec.toNat : Int) - 2 ^ 64 := by
      rw [BitVec.toInt_eq_toNat_cond]
      split
      · exact Or.inl rfl
      · exact Or.inr rfl
    have h4 := y.toInt64.toBitVec.isLt
    omega
  have hx : (x <<< 5 : Int64).toBitVec = x.toBitVec <<< 5 := rfl
  have hm : (32 * x : Int64).toBitVec = x.toBitVec <<< 5 := by
    show (32 : Int64).toBitVec * x.toBitVec = _
    rw [BitVec.mul_comm, BitVec.shiftLeft_eq_mul_twoPow]
    rfl
  show (x <<< 5 : Int64).toBitVec ||| y.toInt64.toBitVec = (32 * x : Int64).toBitVec + y.toInt64.toBitVec
  rw [hx, hm]
  refine (BitVec.add_eq_or_of_and_eq_zero _ _ ?_).symm
  apply BitVec.eq_of_getLsbD_eq
  intro i hi
  rw [BitVec.getLsbD_and, BitVec.getLsbD_shiftLeft, BitVec.getLsbD_zero]
  by_cases q : i < 5
  · simp [q]
  · have : y.toInt64.toBitVec.getLsbD i = false := by
      rw [BitVec.getLsbD, Nat.testBit_lt_two_pow]
      calc y.toInt64.toBitVec.toNat < 2 ^ 5 := by omega
        _ ≤ 2 ^ i := Nat.pow_le_pow_right (by decide) (by omega)
    rw [this, Bool.and_false]
/-! steps of the runs, over the reference's bytes -/
theorem byT {f T : Nat → Int32} {n k : Nat} {r : Int32} (hT : ∀ k, k < n → f k &&& 255 = T k) (hr : r = byF f n k) (hk : k < n) : r = T k := by
  rw [hr]; unfold byF; rw [if_pos hk]; exact hT k hk
theorem run_s {P : Int32 → Bool} {f T : Nat → Int32} {n a b : Nat} {r : Int32} (h : ∀ j, a ≤ j → j < b → P (T j) = true) (hT : ∀ k, k < n → f k &&& 255 = T k) (hr : r = byF f n b) (hp : P r = true) (hb : b < n) : ∀ j, a ≤ j → j < b + 1 → P (T j) = true := by
  intro j h1 h2
  by_cases e : j = b
  · rw [e, ← byT hT hr hb]; exact hp
  · exact h j h1 (by omega)
theorem run_e {P : Int32 → Bool} {f T : Nat → Int32} {n b : Nat} {r : Int32} (hT : ∀ k, k < n → f k &&& 255 = T k) (hr : r = byF f n b) (hp : P r = false) : b < n → P (T b) = false := fun hb => by rw [← byT hT hr hb]; exact hp
theorem wv_s {T : Nat → Int32} {a c : Nat} {w v : Int64} {r : Int32} (hw : w = wvT T a c) (hr : r = T (a + c)) (hv : v = 32 * w + (r - 97 + 1).toInt64) : v = wvT T a (c + 1) := by rw [hv, hw, hr]; rfl
theorem dv_s {T : Nat → Int32} {a c : Nat} {w v r : Int32} (hw : w = dvT T a c) (hr : r = T (a + c)) (hv : v = 10 * w + r - 48) : v = dvT T a (c + 1) := by rw [hv, hw, hr]; rfl
theorem tkE_l {T : Nat → Int32} {n a p e : Nat} (hp : tkP T n a = p) (hn : p < n) (hl : bLt (T p) = true) (he : rN bLt T n p = e) : tkE T n a = e ∧ tkS T n a = (if e - p ≤ 8 then 1 else 5) := by
  constructor
  · unfold tkE tkE0; rw [hp, if_neg (by omega), if_pos hl, he]
  · unfold tkS tkS0; rw [hp, if_neg (by omega), if_pos hl, he]
theorem tkE_d {T : Nat → Int32} {n a p e : Nat} (hp : tkP T n a = p) (hn : p < n) (hl : bLt (T p) = false) (hd : bDg (T p) = true) (he : rN bDg T n p = e) : tkE T n a = e ∧ tkS T n a = (if e - p ≤ 4 then 2 else 5) := by
  have hl' : ¬ bLt (T p) = true := by rw [hl]; decide
  constructor
  · unfold tkE tkE0; rw [hp, if_neg (by omega), if_neg hl', if_pos hd, he]
  · unfold tkS tkS0; rw [hp, if_neg (by omega), if_neg hl', if_pos hd, he]
theorem tkE_o {T : Nat → Int32} {n a p : Nat} (hp : tkP T n a = p) (hn : p < n) (hl : bLt (T p) = false) (hd : bDg (T p) = false) : tkE T n a = p + 1 ∧ tkS T n a = (if T p = 59 then 3 else if T p = 45 then 4 else 5) := by
  have hl' : ¬ bLt (T p) = true := by rw [hl]; decide
  have hd' : ¬ bDg (T p) = true := by rw [hd]; decide
  constructor
  · unfold tkE tkE0; rw [hp, if_neg (by omega), if_neg hl', if_neg hd']
  · unfold tkS tkS0; rw [hp, if_neg (by omega), if_neg hl', if_neg hd']
theorem tkE_n {T : Nat → Int32} {n a p : Nat} (hp : tkP T n a = p) (hn : n ≤ p) : tkE T n a = p ∧ tkS T n a = 0 := by
  constructor
  · unfold tkE tkE0; rw [hp, if_pos hn]
  · unfold tkS tkS0; rw [hp, if_pos hn]
/-- the record out of the sort -/
theorem mTk_of {T : Nat → Int32} {n a p e k : Nat} {s m u : Int32} {w : Int64} (hp : tkP T n a = p) (hS : tkS T n a = k) (hE : k ≠ 5 → tkE T n a = e) (hs : s = mS k) (h3 : k = 3 → m = 59) (h4 : k = 4 → m = 45) (h1 : k = 1 → w = wvT T p (e - p)) (h2 : k = 2 → u = dvT T p (e - p)) : mTk T n a p e s m u w := by
  refine ⟨hp.symm, ?_, ?_, ?_, ?_, ?_, ?_⟩
  · intro h; rw [hS] at h; exact (hE h).symm
  · rw [hS]; exact hs
  · intro h; exact h3 (hS.symm.trans h)
  · intro h; exact h4 (hS.symm.trans h)
  · intro h
    have hk : k = 1 := hS.symm.trans h
    unfold tkW
    rw [hp, hE (by rw [hk]; decide)]
    exact h1 hk
  · intro h
    have hk : k = 2 := hS.symm.trans h
    unfold tkN
    rw [hp, hE (by rw [hk]; decide)]
    exact h2 hk
theorem mT_end {T : Nat → Int32} {n a p : Nat} {m u : Int32} {w : Int64} (hp : tkP T n a = p) (hn : n ≤ p) : mTk T n a p p 1 m u w :=
  mTk_of (k := 0) hp (tkE_n hp hn).2 (fun _ => (tkE_n hp hn).1) rfl (fun h => absurd h (by decide)) (fun h => absurd h (by decide)) (fun h => absurd h (by decide)) (fun h => absurd h (by decide))
theorem mT_word {T : Nat → Int32} {n a p e c : Nat} {m u : Int32} {w : Int64} (hp : tkP T n a = p) (hn : p < n) (hl : bLt (T p) = true) (he : rN bLt T n p = e) (hc : e = p + c) (h8 : c ≤ 8) (hw : w = wvT T p c) : mTk T n a p e 2 m u w := by
  have h := tkE_l hp hn hl he
  rw [if_pos (by omega)] at h
  exact mTk_of (k := 1) hp h.2 (fun _ => h.1) rfl (fun h => absurd h (by decide)) (fun h => absurd h (by decide)) (fun _ => by rw [hw, show e - p = c from by omega]) (fun h => absurd h (by decide))
theorem mT_badw {T : Nat → Int32} {n a p e c : Nat} {m u : Int32} {w : Int64} (hp : tkP T n a = p) (hn : p < n) (hl : bLt (T p) = true) (he : rN bLt T n p = e) (hc : e = p + c) (h8 : 8 < c) : mTk T n a p e 0 m u w := by
  have h := tkE_l hp hn hl he
  rw [if_neg (by omega)] at h
  exact mTk_of (k := 5) hp h.2 (fun q => absurd rfl q) rfl (fun h => absurd h (by decide)) (fun h => absurd h (by decide)) (fun h => absurd h (by decide)) (fun h => absurd h (by decide))
theorem mT_num {T : Nat → Int32} {n a p e c : Nat} {m u : Int32} {w : Int64} (hp : tkP T n a = p) (hn : p < n) (hl : bLt (T p) = false) (hd : bDg (T p) = true) (he : rN bDg T n p = e) (hc : e = p + c) (h4 : c ≤ 4) (hu : u = dvT T p c) : mTk T n a p e 3 m u w := by
  have h := tkE_d hp hn hl hd he
  rw [if_pos (by omega)] at h
  exact mTk_of (k := 2) hp h.2 (fun _ => h.1) rfl (fun h => absurd h (by decide)) (fun h => absurd h (by decide)) (fun h => absurd h (by decide)) (fun _ => by rw [hu, show e - p = c from by omega])
theorem mT_badn {T : Nat → Int32} {n a p e c : Nat} {m u : Int32} {w : Int64} (hp : tkP T n a = p) (hn : p < n) (hl : bLt (T p) = false) (hd : bDg (T p) = true) (he : rN bDg T n p = e) (hc : e = p + c) (h4 : 4 < c) : mTk T n a p e 0 m u w := by
  have h := tkE_d hp hn hl hd he
  rw [if_neg (by omega)] at h
  exact mTk_of (k := 5) hp h.2 (fun q => absurd rfl q) rfl (fun h => absurd h (by decide)) (fun h => absurd h (by decide)) (fun h => absurd h (by decide)) (fun h => absurd h (by decide))
theorem mT_semi {T : Nat → Int32} {n a p : Nat} {m u : Int32} {w : Int64} (hp : tkP T n a = p) (hn : p < n) (hl : bLt (T p) = false) (hd : bDg (T p) = false) (hm : m = T p) (h5 : m = 59) : mTk T n a p (p + 1) 4 m u w := by
  have h := tkE_o hp hn hl hd
  rw [if_pos (hm.symm.trans h5)] at h
  exact mTk_of (k := 3) hp h.2 (fun _ => h.1) rfl (fun _ => h5) (fun h => absurd h (by decide)) (fun h => absurd h (by decide)) (fun h => absurd h (by decide))
theorem mT_dash {T : Nat → Int32} {n a p : Nat} {m u : Int32} {w : Int64} (hp : tkP T n a = p) (hn : p < n) (hl : bLt (T p) = false) (hd : bDg (T p) = false) (hm : m = T p) (h5 : m = 45) : mTk T n a p (p + 1) 4 m u w := by
  have h := tkE_o hp hn hl hd
  rw [if_neg (by rw [← hm, h5]; decide), if_pos (hm.symm.trans h5)] at h
  exact mTk_of (k := 4) hp h.2 (fun _ => h.1) rfl (fun h => absurd h (by decide)) (fun _ => h5) (fun h => absurd h (by decide)) (fun h => absurd h (by decide))
theorem mT_bad {T : Nat → Int32} {n a p e : Nat} {r m u : Int32} {w : Int64} (hp : tkP T n a = p) (hn : p < n) (hl : bLt (T p) = false) (hd : bDg (T p) = false) (hm : r = T p) (h3 : r ≠ 59) (h4 : r ≠ 45) : mTk T n a p e 0 m u w := by
  have h := tkE_o hp hn hl hd
  rw [if_neg (by rw [← hm]; exact h3), if_neg (by rw [← hm]; exact h4)] at h
  exact mTk_of (k := 5) hp h.2 (fun q => absurd rfl q) rfl (fun h => absurd h (by decide)) (fun h => absurd h (by decide)) (fun h => absurd h (by decide)) (fun h => absurd h (by decide))
theorem mS_1 {k : Nat} (h : mS k = 1) : k = 0 := by
  match k, h with
  | 0, _ => rfl
  | 1, h => exact absurd h (by decide)
  | 2, h => exact absurd h (by decide)
  | 3, h => exact absurd h (by decide)
  | 4, h => exact absurd h (by decide)
  | k + 5, h => exact absurd h (by show ¬ (0 : Int32) = 1; decide)
theorem mS_2 {k : Nat} (h : mS k = 2) : k = 1 := by
  match k, h with
  | 0, h => exact absurd h (by decide)
  | 1, _ => rfl
  | 2, h => exact absurd h (by decide)
  | 3, h => exact absurd h (by decide)
  | 4, h => exact absurd h (by decide)
  | k + 5, h => exact absurd h (by show ¬ (0 : Int32) = 2; decide)
theorem mS_3 {k : Nat} (h : mS k = 3) : k = 2 := by
  match k, h with
  | 0, h => exact absurd h (by decide)
  | 1, h => exact absurd h (by decide)
  | 2, _ => rfl
  | 3, h => exact absurd h (by decide)
  | 4, h => exact absurd h (by decide)
  | k + 5, h => exact absurd h (by show ¬ (0 : Int32) = 3; decide)
theorem mS_4 {k : Nat} (h : mS k = 4) : k = 3 ∨ k = 4 := by
  match k, h with
  | 0, h => exact absurd h (by decide)
  | 1, h => exact absurd h (by decide)
  | 2, h => exact absurd h (by decide)
  | 3, _ => exact Or.inl rfl
  | 4, _ => exact Or.inr rfl
  | k + 5, h => exact absurd h (by show ¬ (0 : Int32) = 4; decide)
theorem mT_w {T : Nat → Int32} {n a p e : Nat} {s m u : Int32} {w : Int64} (h : mTk T n a p e s m u w) (hs : s = 2) : tkS T n a = 1 := mS_2 (h.2.2.1.symm.trans hs)
theorem mT_n {T : Nat → Int32} {n a p e : Nat} {s m u : Int32} {w : Int64} (h : mTk T n a p e s m u w) (hs : s = 3) : tkS T n a = 2 := mS_3 (h.2.2.1.symm.trans hs)
theorem mT_at {T : Nat → Int32} {n a p e k : Nat} {s m u : Int32} {w : Int64} (h : mTk T n a p e s m u w) (hs : tkS T n a = k) (hk : k ≠ 5) : e = tkE T n a := h.2.1 (by rw [hs]; exact hk)
theorem mT_go {T : Nat → Int32} {n a p e k p2 e2 : Nat} {s m u s2 m2 u2 : Int32} {w w2 : Int64} (h : mTk T n a p e s m u w) (hs : tkS T n a = k) (hk : k ≠ 5) (h2 : mTk T n e p2 e2 s2 m2 u2 w2) : mTk T n (tkE T n a) p2 e2 s2 m2 u2 w2 := by rw [← mT_at h hs hk]; exact h2
/-! signs and the end -/
theorem sg_t {T : Nat → Int32} {n a p e : Nat} {s m u : Int32} {w : Int64} (h : mTk T n a p e s m u w) (h4 : s = 4) (h5 : m = 59) : tkS T n a = 3 := by
  rcases mS_4 (h.2.2.1.symm.trans h4) with q | q
  · exact q
  · exact absurd (h5.symm.trans (h.2.2.2.2.1 q)) (by decide)
theorem sg_f {T : Nat → Int32} {n a p e : Nat} {s m u : Int32} {w : Int64} (h : mTk T n a p e s m u w) (h4 : ¬ (s = 4 ∧ m = 59)) : tkS T n a ≠ 3 := by
  intro q
  exact h4 ⟨by rw [h.2.2.1, q]; rfl, h.2.2.2.1 q⟩
theorem ds_t {T : Nat → Int32} {n a p e : Nat} {s m u : Int32} {w : Int64} (h : mTk T n a p e s m u w) (h4 : s = 4) (h5 : m = 45) : tkS T n a = 4 := by
  rcases mS_4 (h.2.2.1.symm.trans h4) with q | q
  · exact absurd (h5.symm.trans (h.2.2.2.1 q)) (by decide)
  · exact q
theorem ds_f {T : Nat → Int32} {n a p e : Nat} {s m u : Int32} {w : Int64} (h : mTk T n a p e s m u w) (h4 : ¬ (s = 4 ∧ m = 45)) : tkS T n a ≠ 4 := by
  intro q
  exact h4 ⟨by rw [h.2.2.1, q]; rfl, h.2.2.2.2.1 q⟩
theorem en_t {T : Nat → Int32} {n a p e : Nat} {s m u : Int32} {w : Int64} (h : mTk T n a p e s m u w) (h1 : s = 1) : tkS T n a = 0 := mS_1 (h.2.2.1.symm.trans h1)
theorem en_f {T : Nat → Int32} {n a p e : Nat} {s m u : Int32} {w : Int64} (h : mTk T n a p e s m u w) (h1 : s ≠ 1) : tkS T n a ≠ 0 := by
  intro q
  exact h1 (by rw [h.2.2.1, q]; rfl)
/-! the lines of a BOOK, purely. E: a FAULT's number and place -/
def sb {α β : Type} (x : Sum (Int32 × Nat) α) (k : α → Sum (Int32 × Nat) β) : Sum (Int32 × Nat) β := match x with
  | .inl e => .inl e
  | .inr a => k a
theorem sb_l {α β : Type} {x : Sum (Int32 × Nat) α} {k : α → Sum (Int32 × Nat) β} {e : Int32 × Nat} (h : x = .inl e) : sb x k = .inl e := by rw [h]; rfl
theorem sb_r {α β : Type} {x : Sum (Int32 × Nat) α} {k : α → Sum (Int32 × Nat) β} {a : α} {y : Sum (Int32 × Nat) β} (h : x = .inr a) (h2 : k a = y) : sb x k = y := by rw [h]; exact h2
def fnd (f : Nat → Int64) (w : Int64) : Nat → Nat → Option Nat
  | 0, _ => none
  | c + 1, k => if f k = w then some k else fnd f w c (k + 1)
theorem fnd_some {f : Nat → Int64} {w : Int64} : ∀ (c i k : Nat), i ≤ k → k < i + c → f k = w → (∀ j, i ≤ j → j < k → f j ≠ w) → fnd f w c i = some k
  | 0, i, k, h1, h2, _, _ => by omega
  | c + 1, i, k, h1, h2, h3, h4 => by
    show (if f i = w then some i else fnd f w c (i + 1)) = some k
    by_cases e : i = k
    · rw [e, if_pos h3]
    · rw [if_neg (h4 i (Nat.le_refl _) (by omega))]
      exact fnd_some c (i + 1) k (by omega) (by omega) h3 (fun j hj hl => h4 j (by omega) hl)
theorem fnd_none {f : Nat → Int64} {w : Int64} : ∀ (c i : Nat), (∀ j, i ≤ j → j < i + c → f j ≠ w) → fnd f w c i = none
  | 0, _, _ => rfl
  | c + 1, i, h => by
    show (if f i = w then some i else fnd f w c (i + 1)) = none
    rw [if_neg (h i (Nat.le_refl _) (by omega))]
    exact fnd_none c (i + 1) (fun j hj hl => h j (by omega) (by omega))
theorem fnd_eq {f g : Nat → Int64} {w : Int64} : ∀ (c i : Nat), (∀ j, i ≤ j → j < i + c → f j = g j) → fnd f w c i = fnd g w c i
  | 0, _, _ => rfl
  | c + 1, i, h => by
    show (if f i = w then some i else fnd f w c (i + 1)) = (if g i = w then some i else fnd g w c (i + 1))
    rw [h i (Nat.le_refl _) (by omega), fnd_eq c (i + 1) (fun j hj hl => h j (by omega) (by omega))]
/-- a WORD that may be a NAME: none of way, door, pair, fan, face -/
def isNm (T : Nat → Int32) (n a : Nat) : Bool := decide (tkS T n a = 1 ∧ tkW T n a ≠ 23609 ∧ tkW T n a ≠ 146930 ∧ tkW T n a ≠ 525618 ∧ tkW T n a ≠ 6190 ∧ tkW T n a ≠ 197733)
def isWd (T : Nat → Int32) (n a : Nat) (c : Int64) : Bool := decide (tkS T n a = 1 ∧ tkW T n a = c)
def fNeed (T : Nat → Int32) (n a : Nat) (c : Int64) : Sum (Int32 × Nat) Nat := if isWd T n a c = true then .inr (tkE T n a) else .inl (1, tkP T n a)
def fWhole (T : Nat → Int32) (n a : Nat) (lo hi : Int32) : Sum (Int32 × Nat) (Nat × Int32) := if tkS T n a = 2 then (if lo.toInt ≤ (tkN T n a).toInt ∧ (tkN T n a).toInt ≤ hi.toInt then .inr (tkE T n a, tkN T n a) else .inl (4, tkP T n a)) else .inl (1, tkP T n a)
def fLead (T : Nat → Int32) (n a : Nat) (c : Int64) (lo hi : Int32) : Sum (Int32 × Nat) (Nat × Int32) := sb (fNeed T n a c) (fun a => fWhole T n a lo hi)
def fFresh (T : Nat → Int32) (n a an : Nat) (nm : Nat → Int64) (full : Int32) : Sum (Int32 × Nat) (Nat × Int64) := if isNm T n a = true then (match fnd nm (tkW T n a) an 0 with
  | some _ => .inl (3, tkP T n a)
  | none => if full = 0 then .inr (tkE T n a, tkW T n a) else .inl (5, tkP T n a)) else .inl (1, tkP T n a)
def fTold (T : Nat → Int32) (n a an : Nat) (nm : Nat → Int64) (kd nb : Nat → Int32) (kk : Int32) : Sum (Int32 × Nat) Int32 := if isNm T n a = true then (match fnd nm (tkW T n a) an 0 with
  | some k => if kd k = kk then .inr (nb k) else .inl (2, tkP T n a)
  | none => .inl (2, tkP T n a)) else .inl (1, tkP T n a)
/-- a KNOT: its number, how many there are then, their names -/
def fKnot (T : Nat → Int32) (n a ak : Nat) (kn : Nat → Int64) (first : Int32) : Sum (Int32 × Nat) (Nat × Int32 × Nat × (Nat → Int64)) := if isNm T n a = true then (match fnd kn (tkW T n a) ak 0 with
  | some k => if nI k = first then .inl (3, tkP T n a) else .inr (tkE T n a, nI k, ak, kn)
  | none => if ak = 10 then .inl (5, tkP T n a) else .inr (tkE T n a, nI ak, ak + 1, vp_updL kn ak (tkW T n a))) else .inl (1, tkP T n a)
def fIn (T : Nat → Int32) (n a an : Nat) (nm : Nat → Int64) (kd nb has : Nat → Int32) : Sum (Int32 × Nat) (Nat × Int32) := sb (fNeed T n a 302) (fun a => sb (fTold T n a an nm kd nb 0) (fun w => if has w.toNatClampNeg = -2 then .inr (tkE T n a, w) else .inl (3, tkP T n a)))
def fDraught (T : Nat → Int32) (n a : Nat) : Sum (Int32 × Nat) (Nat × Int32) := if isWd T n a 4900691220 = true then (if tkS T n (tkE T n a) = 4 then sb (fWhole T n (tkE T n (tkE T n a)) 0 5000) (fun x => .inr (x.1, -x.2)) else fWhole T n (tkE T n a) 0 5000) else .inr (a, 0)
theorem wd_t {T : Nat → Int32} {n a p e : Nat} {s m u : Int32} {w c : Int64} (h : mTk T n a p e s m u w) (q1 : s = 2) (q2 : w = c) : isWd T n a c = true := by
  have h1 := mT_w h q1
  exact decide_eq_true ⟨h1, (h.2.2.2.2.2.1 h1).symm.trans q2⟩
theorem wd_f {T : Nat → Int32} {n a p e : Nat} {s m u : Int32} {w c : Int64} (h : mTk T n a p e s m u w) (q : ¬ (s = 2 ∧ w = c)) : isWd T n a c = false := by
  refine decide_eq_false (fun z => q ⟨?_, ?_⟩)
  · rw [h.2.2.1, z.1]; rfl
  · exact (h.2.2.2.2.2.1 z.1).trans z.2
theorem nm_t {T : Nat → Int32} {n a p e : Nat} {s m u : Int32} {w : Int64} (h : mTk T n a p e s m u w) (hs : s = 2) (f1 : ¬ (s = 2 ∧ w = 23609)) (f2 : ¬ (s = 2 ∧ w = 146930)) (f3 : ¬ (s = 2 ∧ w = 525618)) (f4 : ¬ (s = 2 ∧ w = 6190)) (f5 : ¬ (s = 2 ∧ w = 197733)) : isNm T n a = true := by
  have h1 := mT_w h hs
  have h2 := h.2.2.2.2.2.1 h1
  rw [h2] at f1 f2 f3 f4 f5
  exact decide_eq_true ⟨h1, fun q => f1 ⟨hs, q⟩, fun q => f2 ⟨hs, q⟩, fun q => f3 ⟨hs, q⟩, fun q => f4 ⟨hs, q⟩, fun q => f5 ⟨hs, q⟩⟩
theorem nm_f0 {T : Nat → Int32} {n a p e : Nat} {s m u : Int32} {w : Int64} (h : mTk T n a p e s m u w) (hs : s ≠ 2) : isNm T n a = false := by
  refine decide_eq_false (fun z => hs ?_)
  rw [h.2.2.1, z.1]; rfl
theorem nm_fw {T : Nat → Int32} {n a p e : Nat} {s m u : Int32} {w c : Int64} (h : mTk T n a p e s m u w) (q1 : s = 2) (q2 : w = c) (hc : c = 23609 ∨ c = 146930 ∨ c = 525618 ∨ c = 6190 ∨ c = 197733) : isNm T n a = false := by
  have h2 := (h.2.2.2.2.2.1 (mT_w h q1)).symm.trans q2
  refine decide_eq_false (fun z => ?_)
  rw [h2] at z
  obtain ⟨-, z1, z2, z3, z4, z5⟩ := z
  rcases hc with hc | hc | hc | hc | hc
  · exact z1 hc
  · exact z2 hc
  · exact z3 hc
  · exact z4 hc
  · exact z5 hc
theorem nwd {s : Int32} {w d c : Int64} (e : d = c) (f : ¬ (s = 2 ∧ w = d)) : ¬ (s = 2 ∧ w = c) := by rw [← e]; exact f
theorem need_t {T : Nat → Int32} {n a : Nat} {c : Int64} (h : isWd T n a c = true) : fNeed T n a c = .inr (tkE T n a) := by unfold fNeed; rw [if_pos h]
theorem need_f {T : Nat → Int32} {n a p e : Nat} {s m u : Int32} {w c : Int64} (h : mTk T n a p e s m u w) (hf : isWd T n a c = false) : fNeed T n a c = .inl (1, p) := by unfold fNeed; rw [if_neg (by rw [hf]; decide), h.1]
theorem whole_t {T : Nat → Int32} {n a p e : Nat} {s m u lo hi : Int32} {w : Int64} (h : mTk T n a p e s m u w) (hs : s = 3) (h1 : lo.toInt ≤ u.toInt) (h2 : u.toInt ≤ hi.toInt) : fWhole T n a lo hi = .inr (tkE T n a, u) := by
  have hk := mT_n h hs
  have hu := h.2.2.2.2.2.2 hk
  unfold fWhole
  rw [if_pos hk, ← hu, if_pos ⟨h1, h2⟩]
theorem whole_4 {T : Nat → Int32} {n a p e : Nat} {s m u lo hi : Int32} {w : Int64} (h : mTk T n a p e s m u w) (hs : s = 3) (h1 : ¬ (lo.toInt ≤ u.toInt ∧ u.toInt ≤ hi.toInt)) : fWhole T n a lo hi = .inl (4, p) := by
  have hk := mT_n h hs
  have hu := h.2.2.2.2.2.2 hk
  unfold fWhole
  rw [if_pos hk, ← hu, if_neg h1, h.1]
theorem whole_1 {T : Nat → Int32} {n a p e : Nat} {s m u lo hi : Int32} {w : Int64} (h : mTk T n a p e s m u w) (hs : s ≠ 3) : fWhole T n a lo hi = .inl (1, p) := by
  unfold fWhole
  rw [if_neg (fun q => hs (by rw [h.2.2.1, q]; rfl)), h.1]
theorem isNm_1 {T : Nat → Int32} {n a : Nat} (h : isNm T n a = true) : tkS T n a = 1 := (of_decide_eq_true h).1
theorem isNm_w {T : Nat → Int32} {n a p e : Nat} {s m u : Int32} {w : Int64} (h : mTk T n a p e s m u w) (hn : isNm T n a = true) : w = tkW T n a := h.2.2.2.2.2.1 (isNm_1 hn)
theorem fnd_s {f : Nat → Int64} {w w2 : Int64} {n k : Nat} (e : w = w2) (hk : k < n) (he : f k = w) (hl : ∀ j, j < k → f j ≠ w) : fnd f w2 n 0 = some k := by
  subst e
  exact fnd_some n 0 k (Nat.zero_le _) (by omega) he (fun j _ h => hl j h)
theorem fnd_n {f : Nat → Int64} {w w2 : Int64} {n : Nat} (e : w = w2) (hl : ∀ j, j < n → f j ≠ w) : fnd f w2 n 0 = none := by
  subst e
  exact fnd_none n 0 (fun j _ h => hl j (by omega))
theorem fresh_1 {T : Nat → Int32} {n a p e an : Nat} {s m u fu : Int32} {w : Int64} {nm : Nat → Int64} (h : mTk T n a p e s m u w) (hn : isNm T n a = false) : fFresh T n a an nm fu = .inl (1, p) := by
  unfold fFresh
  rw [if_neg (by rw [hn]; decide), h.1]
theorem fresh_3 {T : Nat → Int32} {n a p e an k : Nat} {s m u fu : Int32} {w : Int64} {nm : Nat → Int64} (h : mTk T n a p e s m u w) (hn : isNm T n a = true) (hk : k < an) (he : nm k = w) (hl : ∀ j, j < k → nm j ≠ w) : fFresh T n a an nm fu = .inl (3, p) := by
  unfold fFresh
  rw [if_pos hn, fnd_s (isNm_w h hn) hk he hl, h.1]
theorem fresh_5 {T : Nat → Int32} {n a p e an : Nat} {s m u fu : Int32} {w : Int64} {nm : Nat → Int64} (h : mTk T n a p e s m u w) (hn : isNm T n a = true) (hl : ∀ j, j < an → nm j ≠ w) (hf : fu ≠ 0) : fFresh T n a an nm fu = .inl (5, p) := by
  unfold fFresh
  rw [if_pos hn, fnd_n (isNm_w h hn) hl, h.1]
  exact if_neg hf
theorem fresh_t {T : Nat → Int32} {n a p e an : Nat} {s m u fu : Int32} {w : Int64} {nm : Nat → Int64} (h : mTk T n a p e s m u w) (hn : isNm T n a = true) (hl : ∀ j, j < an → nm j ≠ w) (hf : fu = 0) : fFresh T n a an nm fu = .inr (tkE T n a, w) := by
  unfold fFresh
  rw [if_pos hn, fnd_n (isNm_w h hn) hl, isNm_w h hn]
  exact if_pos hf
theorem told_1 {T : Nat → Int32} {n a p e an : Nat} {s m u kk : Int32} {w : Int64} {nm : Nat → Int64} {kd nb : Nat → Int32} (h : mTk T n a p e s m u w) (hn : isNm T n a = false) : fTold T n a an nm kd nb kk = .inl (1, p) := by
  unfold fTold
  rw [if_neg (by rw [hn]; decide), h.1]
theorem told_2 {T : Nat → Int32} {n a p e an : Nat} {s m u kk : Int32} {w : Int64} {nm : Nat → Int64} {kd nb : Nat → Int32} (h : mTk T n a p e s m u w) (hn : isNm T n a = true) (hl : ∀ j, j < an → nm j ≠ w) : fTold T n a an nm kd nb kk = .inl (2, p) := by
  unfold fTold
  rw [if_pos hn, fnd_n (isNm_w h hn) hl, h.1]
theorem told_k {T : Nat → Int32} {n a p e an k : Nat} {s m u kk v : Int32} {w : Int64} {nm : Nat → Int64} {kd nb : Nat → Int32} (h : mTk T n a p e s m u w) (hn : isNm T n a = true) (hk : k < an) (he : nm k = w) (hl : ∀ j, j < k → nm j ≠ w) (hv : v = kd k) (hc : v ≠ kk) : fTold T n a an nm kd nb kk = .inl (2, p) := by
  unfold fTold
  rw [if_pos hn, fnd_s (isNm_w h hn) hk he hl, h.1]
  exact if_neg (by rw [← hv]; exact hc)
theorem told_t {T : Nat → Int32} {n a p e an k : Nat} {s m u kk v r : Int32} {w : Int64} {nm : Nat → Int64} {kd nb : Nat → Int32} (h : mTk T n a p e s m u w) (hn : isNm T n a = true) (hk : k < an) (he : nm k = w) (hl : ∀ j, j < k → nm j ≠ w) (hv : v = kd k) (hc : v = kk) (hr : r = nb k) : fTold T n a an nm kd nb kk = .inr r := by
  unfold fTold
  rw [if_pos hn, fnd_s (isNm_w h hn) hk he hl, hr]
  exact if_pos (hv.symm.trans hc)
theorem knot_1 {T : Nat → Int32} {n a p e ak : Nat} {s m u f1 : Int32} {w : Int64} {kn : Nat → Int64} (h : mTk T n a p e s m u w) (hn : isNm T n a = false) : fKnot T n a ak kn f1 = .inl (1, p) := by
  unfold fKnot
  rw [if_neg (by rw [hn]; decide), h.1]
theorem knot_3 {T : Nat → Int32} {n a p e ak k : Nat} {s m u f1 : Int32} {w : Int64} {kn : Nat → Int64} (h : mTk T n a p e s m u w) (hn : isNm T n a = true) (hk : k < ak) (he : kn k = w) (hl : ∀ j, j < k → kn j ≠ w) (hf : nI k = f1) : fKnot T n a ak kn f1 = .inl (3, p) := by
  unfold fKnot
  rw [if_pos hn, fnd_s (isNm_w h hn) hk he hl, h.1]
  exact if_pos hf
theorem knot_t {T : Nat → Int32} {n a p e ak k : Nat} {s m u f1 : Int32} {w : Int64} {kn : Nat → Int64} (h : mTk T n a p e s m u w) (hn : isNm T n a = true) (hk : k < ak) (he : kn k = w) (hl : ∀ j, j < k → kn j ≠ w) (hf : nI k ≠ f1) : fKnot T n a ak kn f1 = .inr (tkE T n a, nI k, ak, kn) := by
  unfold fKnot
  rw [if_pos hn, fnd_s (isNm_w h hn) hk he hl]
  exact if_neg hf
theorem knot_5 {T : Nat → Int32} {n a p e ak : Nat} {s m u f1 : Int32} {w : Int64} {kn : Nat → Int64} (h : mTk T n a p e s m u w) (hn : isNm T n a = true) (hl : ∀ j, j < ak → kn j ≠ w) (hf : ak = 10) : fKnot T n a ak kn f1 = .inl (5, p) := by
  unfold fKnot
  rw [if_pos hn, fnd_n (isNm_w h hn) hl, h.1]
  exact if_pos hf
theorem knot_n {T : Nat → Int32} {n a p e ak : Nat} {s m u f1 : Int32} {w : Int64} {kn k2 : Nat → Int64} (h : mTk T n a p e s m u w) (hn : isNm T n a = true) (hl : ∀ j, j < ak → kn j ≠ w) (hf : ak ≠ 10) (hk : ak < 2 ^ 31) (hu : k2 = vp_updL kn (nI ak).toNatClampNeg w) : fKnot T n a ak kn f1 = .inr (tkE T n a, nI ak, ak + 1, k2) := by
  unfold fKnot
  rw [if_pos hn, fnd_n (isNm_w h hn) hl, hu, nI_clamp hk, isNm_w h hn]
  exact if_neg hf
/-! the lines: behind each the position, and what was told -/
def fDoor (T : Nat → Int32) (n a an : Nat) (nm : Nat → Int64) (kd nb : Nat → Int32) (ad : Nat) (di : Nat → Int32) : Sum (Int32 × Nat) (Nat × Int64 × Int32 × Int32) := sb (fFresh T n (tkE T n a) an nm (if ad = 6 then 1 else 0)) (fun x => sb (fIn T n x.1 an nm kd nb di) (fun y => sb (fNeed T n y.1 89) (fun b => sb (fWhole T n b 1 99) (fun z => .inr (z.1, x.2, y.2, z.2)))))
def fFan (T : Nat → Int32) (n a an : Nat) (nm : Nat → Int64) (kd nb : Nat → Int32) (af : Nat) (fi : Nat → Int32) : Sum (Int32 × Nat) (Nat × Int64 × Int32 × Int32 × Int32 × Int32) := sb (fFresh T n (tkE T n a) an nm (if af = 4 then 1 else 0)) (fun x => sb (fIn T n x.1 an nm kd nb fi) (fun y => sb (fNeed T n y.1 546408) (fun b => sb (fWhole T n b 1 999) (fun z => sb (fNeed T n z.1 198028) (fun b => sb (fWhole T n b 0 99) (fun v => sb (fNeed T n v.1 114292) (fun b => sb (fWhole T n b 1 99) (fun u => .inr (u.1, x.2, y.2, z.2, v.2, u.2)))))))))
def fFace (T : Nat → Int32) (n a an : Nat) (nm : Nat → Int64) (kd nb : Nat → Int32) (ae : Nat) (fc : Nat → Int32) : Sum (Int32 × Nat) (Nat × Int64 × Int32 × Int32 × Int32) := sb (fFresh T n (tkE T n a) an nm (if ae = 4 then 1 else 0)) (fun x => sb (fIn T n x.1 an nm kd nb fc) (fun y => sb (fNeed T n y.1 7219) (fun b => sb (fWhole T n b 0 999) (fun z => sb (fNeed T n z.1 464036) (fun b => sb (fWhole T n b 0 60) (fun v => .inr (v.1, x.2, y.2, z.2, v.2)))))))
def fPair (T : Nat → Int32) (n a an : Nat) (nm : Nat → Int64) (kd nb : Nat → Int32) (ap : Nat) : Sum (Int32 × Nat) (Nat × Int32 × Int32) := sb (fTold T n (tkE T n a) an nm kd nb 1) (fun o => if ap = 3 then .inl (5, tkP T n (tkE T n a)) else sb (fTold T n (tkE T n (tkE T n a)) an nm kd nb 1) (fun t => if t = o then .inl (3, tkP T n (tkE T n (tkE T n a))) else .inr (tkE T n (tkE T n (tkE T n a)), o, t)))
def fWay (T : Nat → Int32) (n a an : Nat) (nm : Nat → Int64) (aw ak : Nat) (kn : Nat → Int64) : Sum (Int32 × Nat) (Nat × Int64 × Int32 × Int32 × Nat × (Nat → Int64) × Int32 × Int32 × Int32 × Int32) := sb (fFresh T n (tkE T n a) an nm (if aw = 14 then 1 else 0)) (fun x => sb (fKnot T n x.1 ak kn (-1)) (fun y => sb (fKnot T n y.1 y.2.2.1 y.2.2.2 y.2.1) (fun z => sb (fNeed T n z.1 278335666) (fun b => sb (fWhole T n b 1 99) (fun h => sb (fNeed T n h.1 632645) (fun b => sb (fWhole T n b 1 999) (fun i => sb (fNeed T n i.1 755083) (fun b => sb (fWhole T n b 1 99) (fun k => sb (fDraught T n k.1) (fun d => .inr (d.1, x.2, y.2.1, z.2.1, z.2.2.1, z.2.2.2, h.2, i.2, k.2, d.2)))))))))))
/-- where the reader is, the names (how many, which, of what, their numbers), the KNOTS, how many WAYS, DOORS, PAIRS, FANS, FACES, what stands in the WAYS -/
abbrev RSt : Type := Nat × Nat × (Nat → Int64) × (Nat → Int32) × (Nat → Int32) × Nat × (Nat → Int64) × Nat × Nat × Nat × Nat × Nat × (Nat → Int32) × (Nat → Int32) × (Nat → Int32)
def fLine (T : Nat → Int32) (n : Nat) : RSt → Sum (Int32 × Nat) RSt
  | (a, an, nm, kd, nb, ak, kn, aw, ad, ap, af, ae, di, fi, fc) =>
    if isWd T n a 23609 = true then sb (fWay T n a an nm aw ak kn) (fun x => .inr (x.1, an + 1, vp_updL nm an x.2.1, upd kd an 0, upd nb an (nI aw), x.2.2.2.2.1, x.2.2.2.2.2.1, aw + 1, ad, ap, af, ae, upd di aw (-2), upd fi aw (-2), upd fc aw (-2)))
    else if isWd T n a 146930 = true then sb (fDoor T n a an nm kd nb ad di) (fun x => .inr (x.1, an + 1, vp_updL nm an x.2.1, upd kd an 1, upd nb an (nI ad), ak, kn, aw, ad + 1, ap, af, ae, upd di x.2.2.1.toNatClampNeg (nI ad), fi, fc))
    else if isWd T n a 525618 = true then sb (fPair T n a an nm kd nb ap) (fun x => .inr (x.1, an, nm, kd, nb, ak, kn, aw, ad, ap + 1, af, ae, di, fi, fc))
    else if isWd T n a 6190 = true then sb (fFan T n a an nm kd nb af fi) (fun x => .inr (x.1, an + 1, vp_updL nm an x.2.1, upd kd an 2, upd nb an (nI af), ak, kn, aw, ad, ap, af + 1, ae, di, upd fi x.2.2.1.toNatClampNeg (nI af), fc))
    else if isWd T n a 197733 = true then sb (fFace T n a an nm kd nb ae fc) (fun x => .inr (x.1, an + 1, vp_updL nm an x.2.1, upd kd an 3, upd nb an (nI ae), ak, kn, aw, ad, ap, af, ae + 1, di, fi, upd fc x.2.2.1.toNatClampNeg (nI ae)))
    else .inl (1, tkP T n a)
def fLines (T : Nat → Int32) (n : Nat) : Nat → RSt → Sum (Int32 × Nat) RSt
  | 0, σ => .inl (1, tkP T n σ.1)
  | f + 1, σ => sb (fLine T n σ) (fun τ => if tkS T n τ.1 = 3 then fLines T n f (tkE T n τ.1, τ.2) else if tkS T n τ.1 = 0 then .inr τ else .inl (1, tkP T n τ.1))
def fBook (T : Nat → Int32) (n : Nat) : Sum (Int32 × Nat) RSt := fLines T n 601 (0, 0, fun _ => 0, fun _ => 0, fun _ => 0, 0, fun _ => 0, 0, 0, 0, 0, 0, fun _ => 0, fun _ => 0, fun _ => 0)
/-! steps of a PAIR's line, of a draught, of the lines -/
theorem pair_1 {T : Nat → Int32} {n a an ap : Nat} {nm : Nat → Int64} {kd nb : Nat → Int32} {e : Int32 × Nat} (h : fTold T n (tkE T n a) an nm kd nb 1 = .inl e) : fPair T n a an nm kd nb ap = .inl e := sb_l h
theorem pair_5 {T : Nat → Int32} {n a an ap p : Nat} {nm : Nat → Int64} {kd nb : Nat → Int32} {o : Int32} (h : fTold T n (tkE T n a) an nm kd nb 1 = .inr o) (h3 : ap = 3) (hp : p = tkP T n (tkE T n a)) : fPair T n a an nm kd nb ap = .inl (5, p) := by
  unfold fPair
  rw [sb_r h rfl, hp]
  exact if_pos h3
theorem pair_2 {T : Nat → Int32} {n a an ap : Nat} {nm : Nat → Int64} {kd nb : Nat → Int32} {o : Int32} {e : Int32 × Nat} (h : fTold T n (tkE T n a) an nm kd nb 1 = .inr o) (h3 : ap ≠ 3) (h2 : fTold T n (tkE T n (tkE T n a)) an nm kd nb 1 = .inl e) : fPair T n a an nm kd nb ap = .inl e := by
  unfold fPair
  rw [sb_r h rfl]
  exact (if_neg h3).trans (sb_l h2)
theorem pair_3 {T : Nat → Int32} {n a an ap p : Nat} {nm : Nat → Int64} {kd nb : Nat → Int32} {o t : Int32} (h : fTold T n (tkE T n a) an nm kd nb 1 = .inr o) (h3 : ap ≠ 3) (h2 : fTold T n (tkE T n (tkE T n a)) an nm kd nb 1 = .inr t) (ht : t = o) (hp : p = tkP T n (tkE T n (tkE T n a))) : fPair T n a an nm kd nb ap = .inl (3, p) := by
  unfold fPair
  rw [sb_r h rfl, hp]
  exact (if_neg h3).trans (sb_r h2 (if_pos ht))
theorem pair_t {T : Nat → Int32} {n a an ap : Nat} {nm : Nat → Int64} {kd nb : Nat → Int32} {o t : Int32} (h : fTold T n (tkE T n a) an nm kd nb 1 = .inr o) (h3 : ap ≠ 3) (h2 : fTold T n (tkE T n (tkE T n a)) an nm kd nb 1 = .inr t) (ht : t ≠ o) : fPair T n a an nm kd nb ap = .inr (tkE T n (tkE T n (tkE T n a)), o, t) := by
  unfold fPair
  rw [sb_r h rfl]
  exact (if_neg h3).trans (sb_r h2 (if_neg ht))
theorem dr_0 {T : Nat → Int32} {n a : Nat} (h : isWd T n a 4900691220 = false) : fDraught T n a = .inr (a, 0) := by
  unfold fDraught
  exact if_neg (by rw [h]; decide)
theorem dr_m {T : Nat → Int32} {n a b : Nat} {v : Int32} (h : isWd T n a 4900691220 = true) (h4 : tkS T n (tkE T n a) = 4) (h2 : fWhole T n (tkE T n (tkE T n a)) 0 5000 = .inr (b, v)) : fDraught T n a = .inr (b, -v) := by
  unfold fDraught
  exact (if_pos h).trans ((if_pos h4).trans (sb_r h2 rfl))
theorem dr_me {T : Nat → Int32} {n a : Nat} {e : Int32 × Nat} (h : isWd T n a 4900691220 = true) (h4 : tkS T n (tkE T n a) = 4) (h2 : fWhole T n (tkE T n (tkE T n a)) 0 5000 = .inl e) : fDraught T n a = .inl e := by
  unfold fDraught
  exact (if_pos h).trans ((if_pos h4).trans (sb_l h2))
theorem dr_p {T : Nat → Int32} {n a : Nat} {x : Sum (Int32 × Nat) (Nat × Int32)} (h : isWd T n a 4900691220 = true) (h4 : tkS T n (tkE T n a) ≠ 4) (h2 : fWhole T n (tkE T n a) 0 5000 = x) : fDraught T n a = x := by
  unfold fDraught
  exact (if_pos h).trans ((if_neg h4).trans h2)
theorem isWd_1 {T : Nat → Int32} {n a : Nat} {c : Int64} (h : isWd T n a c = true) : tkS T n a = 1 := (of_decide_eq_true h).1
theorem ln_s {T : Nat → Int32} {n f : Nat} {σ τ : RSt} (h : fLine T n σ = .inr τ) (h3 : tkS T n τ.1 = 3) : fLines T n (f + 1) σ = fLines T n f (tkE T n τ.1, τ.2) := by
  show sb (fLine T n σ) _ = _
  rw [sb_r h rfl]
  exact if_pos h3
theorem ln_e {T : Nat → Int32} {n f : Nat} {σ τ : RSt} (h : fLine T n σ = .inr τ) (h3 : tkS T n τ.1 ≠ 3) : fLines T n (f + 1) σ = if tkS T n τ.1 = 0 then .inr τ else .inl (1, tkP T n τ.1) := by
  show sb (fLine T n σ) _ = _
  rw [sb_r h rfl]
  exact if_neg h3
theorem ln_l {T : Nat → Int32} {n f : Nat} {σ : RSt} {e : Int32 × Nat} (h : fLine T n σ = .inl e) : fLines T n (f + 1) σ = .inl e := sb_l h
/-! what a line leaves -/
theorem ntb {b : Bool} (h : b = false) : ¬ b = true := by rw [h]; decide
theorem line_way {T : Nat → Int32} {n a an ak aw ad ap af ae : Nat} {nm kn : Nat → Int64} {kd nb di fi fc : Nat → Int32} {x : Nat × Int64 × Int32 × Int32 × Nat × (Nat → Int64) × Int32 × Int32 × Int32 × Int32} {nm2 kn2 : Nat → Int64} {kd2 nb2 di2 fi2 fc2 : Nat → Int32} {ak2 : Nat} (h : isWd T n a 23609 = true) (hx : fWay T n a an nm aw ak kn = .inr x) (e1 : nm2 = vp_updL nm an x.2.1) (e2 : kd2 = upd kd an 0) (e3 : nb2 = upd nb an (nI aw)) (e4 : ak2 = x.2.2.2.2.1) (e5 : kn2 = x.2.2.2.2.2.1) (e6 : di2 = upd di aw (-2)) (e7 : fi2 = upd fi aw (-2)) (e8 : fc2 = upd fc aw (-2)) : fLine T n (a, an, nm, kd, nb, ak, kn, aw, ad, ap, af, ae, di, fi, fc) = .inr (x.1, an + 1, nm2, kd2, nb2, ak2, kn2, aw + 1, ad, ap, af, ae, di2, fi2, fc2) := by
  subst e1 e2 e3 e4 e5 e6 e7 e8
  exact (if_pos h).trans (sb_r hx rfl)
theorem line_way_l {T : Nat → Int32} {n a an ak aw ad ap af ae : Nat} {nm kn : Nat → Int64} {kd nb di fi fc : Nat → Int32} {e : Int32 × Nat} (h : isWd T n a 23609 = true) (hx : fWay T n a an nm aw ak kn = .inl e) : fLine T n (a, an, nm, kd, nb, ak, kn, aw, ad, ap, af, ae, di, fi, fc) = .inl e := (if_pos h).trans (sb_l hx)
theorem line_door {T : Nat → Int32} {n a an ak aw ad ap af ae : Nat} {nm kn : Nat → Int64} {kd nb di fi fc : Nat → Int32} {x : Nat × Int64 × Int32 × Int32} {nm2 : Nat → Int64} {kd2 nb2 di2 : Nat → Int32} (q0 : isWd T n a 23609 = false) (h : isWd T n a 146930 = true) (hx : fDoor T n a an nm kd nb ad di = .inr x) (e1 : nm2 = vp_updL nm an x.2.1) (e2 : kd2 = upd kd an 1) (e3 : nb2 = upd nb an (nI ad)) (e4 : di2 = upd di x.2.2.1.toNatClampNeg (nI ad)) : fLine T n (a, an, nm, kd, nb, ak, kn, aw, ad, ap, af, ae, di, fi, fc) = .inr (x.1, an + 1, nm2, kd2, nb2, ak, kn, aw, ad + 1, ap, af, ae, di2, fi, fc) := by
  subst e1 e2 e3 e4
  exact (if_neg (ntb q0)).trans ((if_pos h).trans (sb_r hx rfl))
theorem line_door_l {T : Nat → Int32} {n a an ak aw ad ap af ae : Nat} {nm kn : Nat → Int64} {kd nb di fi fc : Nat → Int32} {e : Int32 × Nat} (q0 : isWd T n a 23609 = false) (h : isWd T n a 146930 = true) (hx : fDoor T n a an nm kd nb ad di = .inl e) : fLine T n (a, an, nm, kd, nb, ak, kn, aw, ad, ap, af, ae, di, fi, fc) = .inl e := (if_neg (ntb q0)).trans ((if_pos h).trans (sb_l hx))
theorem line_pair {T : Nat → Int32} {n a an ak aw ad ap af ae : Nat} {nm kn : Nat → Int64} {kd nb di fi fc : Nat → Int32} {x : Nat × Int32 × Int32} (q0 : isWd T n a 23609 = false) (q1 : isWd T n a 146930 = false) (h : isWd T n a 525618 = true) (hx : fPair T n a an nm kd nb ap = .inr x)  : fLine T n (a, an, nm, kd, nb, ak, kn, aw, ad, ap, af, ae, di, fi, fc) = .inr (x.1, an, nm, kd, nb, ak, kn, aw, ad, ap + 1, af, ae, di, fi, fc) := by
  exact (if_neg (ntb q0)).trans ((if_neg (ntb q1)).trans ((if_pos h).trans (sb_r hx rfl)))
theorem line_pair_l {T : Nat → Int32} {n a an ak aw ad ap af ae : Nat} {nm kn : Nat → Int64} {kd nb di fi fc : Nat → Int32} {e : Int32 × Nat} (q0 : isWd T n a 23609 = false) (q1 : isWd T n a 146930 = false) (h : isWd T n a 525618 = true) (hx : fPair T n a an nm kd nb ap = .inl e) : fLine T n (a, an, nm, kd, nb, ak, kn, aw, ad, ap, af, ae, di, fi, fc) = .inl e := (if_neg (ntb q0)).trans ((if_neg (ntb q1)).trans ((if_pos h).trans (sb_l hx)))
theorem line_fan {T : Nat → Int32} {n a an ak aw ad ap af ae : Nat} {nm kn : Nat → Int64} {kd nb di fi fc : Nat → Int32} {x : Nat × Int64 × Int32 × Int32 × Int32 × Int32} {nm2 : Nat → Int64} {kd2 nb2 fi2 : Nat → Int32} (q0 : isWd T n a 23609 = false) (q1 : isWd T n a 146930 = false) (q2 : isWd T n a 525618 = false) (h : isWd T n a 6190 = true) (hx : fFan T n a an nm kd nb af fi = .inr x) (e1 : nm2 = vp_updL nm an x.2.1) (e2 : kd2 = upd kd an 2) (e3 : nb2 = upd nb an (nI af)) (e4 : fi2 = upd fi x.2.2.1.toNatClampNeg (nI af)) : fLine T n (a, an, nm, kd, nb, ak, kn, aw, ad, ap, af, ae, di, fi, fc) = .inr (x.1, an + 1, nm2, kd2, nb2, ak, kn, aw, ad, ap, af + 1, ae, di, fi2, fc) := by
  subst e1 e2 e3 e4
  exact (if_neg (ntb q0)).trans ((if_neg (ntb q1)).trans ((if_neg (ntb q2)).trans ((if_pos h).trans (sb_r hx rfl))))
theorem line_fan_l {T : Nat → Int32} {n a an ak aw ad ap af ae : Nat} {nm kn : Nat → Int64} {kd nb di fi fc : Nat → Int32} {e : Int32 × Nat} (q0 : isWd T n a 23609 = false) (q1 : isWd T n a 146930 = false) (q2 : isWd T n a 525618 = false) (h : isWd T n a 6190 = true) (hx : fFan T n a an nm kd nb af fi = .inl e) : fLine T n (a, an, nm, kd, nb, ak, kn, aw, ad, ap, af, ae, di, fi, fc) = .inl e := (if_neg (ntb q0)).trans ((if_neg (ntb q1)).trans ((if_neg (ntb q2)).trans ((if_pos h).trans (sb_l hx))))
theorem line_face {T : Nat → Int32} {n a an ak aw ad ap af ae : Nat} {nm kn : Nat → Int64} {kd nb di fi fc : Nat → Int32} {x : Nat × Int64 × Int32 × Int32 × Int32} {nm2 : Nat → Int64} {kd2 nb2 fc2 : Nat → Int32} (q0 : isWd T n a 23609 = false) (q1 : isWd T n a 146930 = false) (q2 : isWd T n a 525618 = false) (q3 : isWd T n a 6190 = false) (h : isWd T n a 197733 = true) (hx : fFace T n a an nm kd nb ae fc = .inr x) (e1 : nm2 = vp_updL nm an x.2.1) (e2 : kd2 = upd kd an 3) (e3 : nb2 = upd nb an (nI ae)) (e4 : fc2 = upd fc x.2.2.1.toNatClampNeg (nI ae)) : fLine T n (a, an, nm, kd, nb, ak, kn, aw, ad, ap, af, ae, di, fi, fc) = .inr (x.1, an + 1, nm2, kd2, nb2, ak, kn, aw, ad, ap, af, ae + 1, di, fi, fc2) := by
  subst e1 e2 e3 e4
  exact (if_neg (ntb q0)).trans ((if_neg (ntb q1)).trans ((if_neg (ntb q2)).trans ((if_neg (ntb q3)).trans ((if_pos h).trans (sb_r hx rfl)))))
theorem line_face_l {T : Nat → Int32} {n a an ak aw ad ap af ae : Nat} {nm kn : Nat → Int64} {kd nb di fi fc : Nat → Int32} {e : Int32 × Nat} (q0 : isWd T n a 23609 = false) (q1 : isWd T n a 146930 = false) (q2 : isWd T n a 525618 = false) (q3 : isWd T n a 6190 = false) (h : isWd T n a 197733 = true) (hx : fFace T n a an nm kd nb ae fc = .inl e) : fLine T n (a, an, nm, kd, nb, ak, kn, aw, ad, ap, af, ae, di, fi, fc) = .inl e := (if_neg (ntb q0)).trans ((if_neg (ntb q1)).trans ((if_neg (ntb q2)).trans ((if_neg (ntb q3)).trans ((if_pos h).trans (sb_l hx)))))
theorem line_0 {T : Nat → Int32} {n a an ak aw ad ap af ae : Nat} {nm kn : Nat → Int64} {kd nb di fi fc : Nat → Int32} {p : Nat} (q0 : isWd T n a 23609 = false) (q1 : isWd T n a 146930 = false) (q2 : isWd T n a 525618 = false) (q3 : isWd T n a 6190 = false) (q4 : isWd T n a 197733 = false) (hp : p = tkP T n a) : fLine T n (a, an, nm, kd, nb, ak, kn, aw, ad, ap, af, ae, di, fi, fc) = .inl (1, p) := by rw [hp]; exact (if_neg (ntb q0)).trans ((if_neg (ntb q1)).trans ((if_neg (ntb q2)).trans ((if_neg (ntb q3)).trans ((if_neg (ntb q4))))))
theorem ln_go {T : Nat → Int32} {n f g : Nat} {σ τ σ2 : RSt} {W : Sum (Int32 × Nat) RSt} (hW : W = fLines T n (f + 1) σ) (h : fLine T n σ = .inr τ) (h3 : tkS T n τ.1 = 3) (hf : f = g + 1) (he : (tkE T n τ.1, τ.2) = σ2) : W = fLines T n (g + 1) σ2 := by
  subst hf he
  exact hW.trans (ln_s h h3)
theorem ln_st {T : Nat → Int32} {n f : Nat} {σ τ : RSt} {W : Sum (Int32 × Nat) RSt} (hW : W = fLines T n (f + 1) σ) (h : fLine T n σ = .inr τ) (h3 : tkS T n τ.1 ≠ 3) : W = if tkS T n τ.1 = 0 then .inr τ else .inl (1, tkP T n τ.1) := hW.trans (ln_e h h3)
theorem ln_no {T : Nat → Int32} {n a p : Nat} {τ : RSt} {W : Sum (Int32 × Nat) RSt} (hW : W = if tkS T n a = 0 then .inr τ else .inl (1, tkP T n a)) (h : tkS T n a ≠ 0) (hp : p = tkP T n a) : W = .inl (1, p) := by
  rw [hW, if_neg h, hp]
theorem ln_ye {T : Nat → Int32} {n a : Nat} {τ : RSt} {W : Sum (Int32 × Nat) RSt} (hW : W = if tkS T n a = 0 then .inr τ else .inl (1, tkP T n a)) (h : tkS T n a = 0) : W = .inr τ := by
  rw [hW, if_pos h]
