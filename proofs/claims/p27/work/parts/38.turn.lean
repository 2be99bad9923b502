/-! the round that the reference turns: its knots, its end, and what it does to the AIR -/
def itN (g : Nat → Nat) (v : Nat) : Nat → Nat
  | 0 => v
  | i + 1 => g (itN g v i)
theorem itN_s (g : Nat → Nat) (v i : Nat) : itN g (g v) i = itN g v (i + 1) := by
  induction i with
  | zero => rfl
  | succ i ih => show g (itN g (g v) i) = g (itN g v (i + 1)); rw [ih]
theorem itN_add (g : Nat → Nat) (v i j : Nat) : itN g (itN g v i) j = itN g v (i + j) := by
  induction j with
  | zero => rfl
  | succ j ih => show g (itN g (itN g v i) j) = g (itN g v (i + j)); rw [ih]
def gN (P ff ft : Nat → Int32) (v : Nat) : Nat := (cfF P ff ft (nI v)).toNatClampNeg
theorem pc_some {p : Int32} {t : Nat} (h : pcode p = some t) (hp : -1 ≤ p.toInt ∧ p.toInt < 28) : p = nI t ∧ t < 28 := by
  unfold pcode at h
  by_cases e : p = -1
  · rw [if_pos e] at h; cases h
  · rw [if_neg e] at h
    have e2 : p.toInt ≠ -1 := fun q => e (Int32.toInt_inj.mp q)
    obtain ⟨j, hj, rfl⟩ := i_of (x := p) (n := 28) (by omega) (by omega) (by decide)
    rw [nI_toInt (by omega)] at h
    have := Option.some.inj h
    have e3 : j = t := by omega
    rw [e3] at hj ⊢
    exact ⟨rfl, hj⟩
theorem cf_src {P ff ft : Nat → Int32} {v t : Nat} (hv : v < 2 ^ 31) (hp : P v = nI t) (ht : t < 28) : cfF P ff ft (nI v) = if t % 2 = 0 then ff (nI (t / 2)).toNatClampNeg else ft (nI (t / 2)).toNatClampNeg := by
  unfold cfF
  rw [nI_clamp hv, hp]
  have h1 : nI t / 2 = nI (t / 2) := pk_div (d := 2) (by omega) (by decide) (by decide)
  have h2 : nI t - nI t / 2 * 2 = nI (t % 2) := pk_rem (d := 2) (by omega) (by decide) (by decide)
  rw [h2, h1]
  by_cases e : t % 2 = 0
  · rw [if_pos e, if_pos (by rw [e]; rfl)]
  · rw [if_neg e, if_neg (show ¬ nI (t % 2) = 0 from fun q => e ((nI_eq (b := 0) (by omega) (by decide)).mp q))]
/-- the knots of the chain: all below N, none without an arc -/
theorem chain_nodes {P ff ft : Nat → Int32} {N nw v0 : Nat} {len : Nat → Int} {Q : Nat → Option Nat} (hN : N ≤ 10) (hnw : nw ≤ 14) (hP : rg P 10 (-1) 28) (hff : ∀ i, i < nw → 0 ≤ (ff i).toInt ∧ (ff i).toInt < N) (hft : ∀ i, i < nw → 0 ≤ (ft i).toInt ∧ (ft i).toInt < N)
    (hQ : ∀ v, v < N → pcode (P v) = Q v) (hQm : ∀ v t, v < N → Q v = some t → t < 2 * nw) : ∀ (k v : Nat), v < N → (∃ u x, bf_C (aS ff ft) len Q k v u x) → ∀ i, i ≤ k → itN (gN P ff ft) v i < N ∧ (i < k → ∃ t, t < 2 * nw ∧ P (itN (gN P ff ft) v i) = nI t ∧ Q (itN (gN P ff ft) v i) = some t ∧ gN P ff ft (itN (gN P ff ft) v i) = aS ff ft t) := by
  intro k
  induction k with
  | zero => intro v hv _ i hi; rw [Nat.le_zero.mp hi]; exact ⟨hv, fun h => absurd h (Nat.not_lt_zero _)⟩
  | succ k ih =>
    intro v hv ⟨u, x, hC⟩
    obtain ⟨t, y, h1, h2, -⟩ := hC
    have ht := hQm v t hv h1
    have hp := pc_some ((hQ v hv).trans h1) (hP v (by omega))
    have hg : gN P ff ft v = aS ff ft t := by
      unfold gN aS
      rw [cf_src (by omega) hp.1 hp.2]
      split <;> rfl
    have hlt : aS ff ft t < N := by
      have hcl : (nI (t / 2)).toNatClampNeg = t / 2 := nI_clamp (by omega)
      unfold aS
      rw [hcl]
      split
      · exact (clampI (hff _ (by omega)) (by omega)).2
      · exact (clampI (hft _ (by omega)) (by omega)).2
    have ih1 := ih (aS ff ft t) hlt ⟨u, y, h2⟩
    intro i hi
    cases i with
    | zero => exact ⟨hv, fun _ => ⟨t, ht, hp.1, h1, hg⟩⟩
    | succ i =>
      have := ih1 i (by omega)
      rw [← hg, itN_s] at this
      exact ⟨this.1, fun h => this.2 (by omega)⟩
/-- behind n steps on fewer than n + 1 knots one goes round: the round's least length p, its knots all different -/
theorem round_of {g : Nat → Nat} {N v : Nat} (h : ∀ i, i ≤ N → itN g v i < N) : ∃ p, 0 < p ∧ p ≤ N ∧ itN g (itN g v N) p = itN g v N ∧ (∀ q, 0 < q → q < p → itN g (itN g v N) q ≠ itN g v N) ∧ (∀ q r, q < r → r < p → itN g (itN g v N) q ≠ itN g (itN g v N) r) ∧ ∀ q, ∃ i, i < N ∧ itN g (itN g v N) q = itN g v i := by
  obtain ⟨i, j, h1, h2, h3⟩ := bf_pigeon N (itN g v) h
  -- from i on it is periodic with j - i
  have hper : ∀ k, itN g v (i + k + (j - i)) = itN g v (i + k) := by
    intro k
    induction k with
    | zero => show itN g v (i + 0 + (j - i)) = itN g v (i + 0); rw [show i + 0 + (j - i) = j by omega, show i + 0 = i by omega]; exact h3.symm
    | succ k ih =>
      rw [show i + (k + 1) + (j - i) = (i + k + (j - i)) + 1 by omega, show i + (k + 1) = (i + k) + 1 by omega]
      show g (itN g v (i + k + (j - i))) = g (itN g v (i + k))
      rw [ih]
  have hpN : itN g (itN g v N) (j - i) = itN g v N := by
    rw [itN_add]
    have := hper (N - i)
    rw [show i + (N - i) + (j - i) = N + (j - i) by omega, show i + (N - i) = N by omega] at this
    exact this
  obtain ⟨p, ⟨hp0, hp1⟩, hp2⟩ := pk_least (fun q => 0 < q ∧ itN g (itN g v N) q = itN g v N) ⟨j - i, by omega, hpN⟩
  have hpj : p ≤ j - i := Nat.not_lt.mp (fun q => hp2 _ q ⟨by omega, hpN⟩)
  refine ⟨p, hp0, by omega, hp1, fun q hq0 hq e => hp2 q hq ⟨hq0, e⟩, ?_, ?_⟩
  · intro q r hqr hrp e
    -- then one would be back earlier
    have e2 : itN g (itN g v N) (q + (p - r)) = itN g (itN g v N) (r + (p - r)) := by rw [← itN_add, ← itN_add, e]
    rw [show r + (p - r) = p by omega, hp1] at e2
    exact hp2 _ (by omega) ⟨by omega, e2⟩
  · have hall : ∀ n, i ≤ n → ∃ k, k < N ∧ itN g v n = itN g v k := by
      intro n
      induction n using Nat.strongRecOn with
      | ind n ih =>
        intro hn
        by_cases hx : n < j
        · by_cases hy : n < N
          · exact ⟨n, hy, rfl⟩
          · exact absurd hx (by omega)
        · obtain ⟨k, hk, he⟩ := ih (n - (j - i)) (by omega) (by omega)
          refine ⟨k, hk, ?_⟩
          rw [← he]
          have := hper (n - (j - i) - i)
          rw [show i + (n - (j - i) - i) + (j - i) = n by omega, show i + (n - (j - i) - i) = n - (j - i) by omega] at this
          exact this
    intro q
    rw [itN_add]
    exact hall (N + q) (by omega)
/-- the AIR behind q knots of the round, whose arcs are tt 0, tt 1 .. -/
def airF (tt : Nat → Nat) (fa : Nat → Int32) : Nat → Nat → Int32
  | 0 => fa
  | q + 1 => upd (airF tt fa q) (tt q / 2) (airF tt fa q (tt q / 2) + (if tt q % 2 = 0 then 1 else -1))
def hit (tt : Nat → Nat) (q t : Nat) : Prop := ∃ r, r < q ∧ tt r = t
theorem air_in {fb fa : Nat → Int32} {tt : Nat → Nat} {p : Nat} (hfa : rg fa 14 (-60) 61) (hd : ∀ q r, q < r → r < p → tt q ≠ tt r) (hlt : ∀ q, q < p → tt q < 28) (hok : ∀ q, q < p → aK fb fa (tt q) = true) : ∀ q, q ≤ p → ∀ w, w < 14 →
    ∃ u d : Int, (u = 0 ∨ (u = 1 ∧ hit tt q (2 * w) ∧ (fa w).toInt < 60)) ∧ (d = 0 ∨ (d = 1 ∧ hit tt q (2 * w + 1) ∧ -60 < (fa w).toInt)) ∧ (airF tt fa q w).toInt = (fa w).toInt + u - d := by
  intro q
  induction q with
  | zero => intro _ w _; exact ⟨0, 0, Or.inl rfl, Or.inl rfl, by show (fa w).toInt = _; omega⟩
  | succ q ih =>
    intro hq w hw
    obtain ⟨u, d, hu, hd1, he⟩ := ih (by omega) w hw
    have hup : ∀ {t}, hit tt q t → hit tt (q + 1) t := fun ⟨r, a, b⟩ => ⟨r, by omega, b⟩
    have hno : ∀ {t}, tt q = t → ¬ hit tt q t := fun e ⟨r, a, b⟩ => hd r q a (by omega) (b.trans e.symm)
    have ht := hlt q (by omega)
    have hk := hok q (by omega)
    have hr := hfa w hw
    by_cases e : w = tt q / 2
    · have hcl : (nI (tt q / 2)).toNatClampNeg = tt q / 2 := nI_clamp (by omega)
      unfold aK mayF at hk
      rw [hcl, ← e] at hk
      by_cases e2 : tt q % 2 = 0
      · have et : tt q = 2 * w := by omega
        rw [if_pos e2] at hk
        have h60 : (fa w).toInt < 60 := by
          have hk1 : ¬ (if fb w = 0 then (if (1 : Int32) = 0 then (if fa w ≤ (-60) then (0 : Int32) else 1) else (if 60 ≤ fa w then 0 else 1)) else 0) = 0 := by simpa using hk
          by_cases c1 : fb w = 0
          · rw [if_pos c1, if_neg (by decide)] at hk1
            by_cases c2 : (60 : Int32) ≤ fa w
            · rw [if_pos c2] at hk1; exact absurd rfl hk1
            · exact i_nle c2
          · rw [if_neg c1] at hk1; exact absurd rfl hk1
        rcases hu with rfl | ⟨-, hx, -⟩
        · refine ⟨1, d, Or.inr ⟨rfl, ⟨q, by omega, et⟩, h60⟩, hd1.imp id (fun ⟨a, b, c⟩ => ⟨a, hup b, c⟩), ?_⟩
          show (upd (airF tt fa q) (tt q / 2) _ w).toInt = _
          rw [← e, pk_us, if_pos e2, i_add (by have h9 : (1 : Int32).toInt = 1 := rfl; omega) (by have h9 : (1 : Int32).toInt = 1 := rfl; omega), he]
          have h9 : (1 : Int32).toInt = 1 := rfl
          omega
        · exact absurd hx (hno et)
      · have et : tt q = 2 * w + 1 := by omega
        rw [if_neg e2] at hk
        have h60 : -60 < (fa w).toInt := by
          have hk1 : ¬ (if fb w = 0 then (if (0 : Int32) = 0 then (if fa w ≤ (-60) then (0 : Int32) else 1) else (if 60 ≤ fa w then 0 else 1)) else 0) = 0 := by simpa using hk
          by_cases c1 : fb w = 0
          · rw [if_pos c1, if_pos rfl] at hk1
            by_cases c2 : fa w ≤ (-60 : Int32)
            · rw [if_pos c2] at hk1; exact absurd rfl hk1
            · exact i_nle c2
          · rw [if_neg c1] at hk1; exact absurd rfl hk1
        rcases hd1 with rfl | ⟨-, hx, -⟩
        · refine ⟨u, 1, hu.imp id (fun ⟨a, b, c⟩ => ⟨a, hup b, c⟩), Or.inr ⟨rfl, ⟨q, by omega, et⟩, h60⟩, ?_⟩
          show (upd (airF tt fa q) (tt q / 2) _ w).toInt = _
          have h9 : (-1 : Int32).toInt = -1 := rfl
          rw [← e, pk_us, if_neg e2, i_add (by omega) (by omega), he]
          omega
        · exact absurd hx (hno et)
    · refine ⟨u, d, hu.imp id (fun ⟨a, b, c⟩ => ⟨a, hup b, c⟩), hd1.imp id (fun ⟨a, b, c⟩ => ⟨a, hup b, c⟩), ?_⟩
      show (upd (airF tt fa q) (tt q / 2) _ w).toInt = _
      rw [pk_un e]
      exact he
