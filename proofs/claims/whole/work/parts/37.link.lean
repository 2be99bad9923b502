/-! the reference's passes are Bellman and Ford's -/
def pcode (p : Int32) : Option Nat := if p = -1 then none else some p.toInt.toNat
def aS (ff ft : Nat → Int32) (t : Nat) : Nat := if t % 2 = 0 then (ff (nI (t / 2)).toNatClampNeg).toNatClampNeg else (ft (nI (t / 2)).toNatClampNeg).toNatClampNeg
def aN (fa : Nat → Int32) (bo : Int32 → Int32 → Int64) (t : Nat) : Int := if t % 2 = 0 then (bo (nI (t / 2)) (fa (nI (t / 2)).toNatClampNeg + 1)).toInt else (-bo (nI (t / 2)) (fa (nI (t / 2)).toNatClampNeg)).toInt
def aK (fb fa : Nat → Int32) (t : Nat) : Bool := if t % 2 = 0 then !decide (mayF fb fa (nI (t / 2)) 1 = 0) else !decide (mayF fb fa (nI (t / 2)) 0 = 0)
/-- labels and last arcs of the machine beside those of the theory, for the knots below N -/
def Rel (N : Nat) (L : Nat → Int64) (P : Nat → Int32) (S : (Nat → Int) × (Nat → Option Nat)) : Prop := ∀ v, v < N → (L v).toInt = S.1 v ∧ pcode (P v) = S.2 v
def Lbd (N : Nat) (L : Nat → Int64) (C : Nat) : Prop := ∀ v, v < N → -(C : Int) ≤ (L v).toInt ∧ (L v).toInt ≤ 0
/-- who fell: none since, or a knot whose label is lower now -/
def Fel (N : Nat) (L0 L : Nat → Int64) (f0 f : Int32) : Prop := f = f0 ∨ ∃ v, v < N ∧ f.toInt = v ∧ (L v).toInt < (L0 v).toInt
theorem rel_step {src dst : Nat → Nat} {len : Nat → Int} {ok : Nat → Bool} {N t C B a b : Nat} {L L0 : Nat → Int64} {P : Nat → Int32} {S : (Nat → Int) × (Nat → Option Nat)} {l : Int64} {k : Bool} {fe f0 code fb : Int32}
    (hR : Rel N L P S) (hL : Lbd N L C) (hF : Fel N L0 L f0 fe) (hle : ∀ v, v < N → (L v).toInt ≤ (L0 v).toInt) (ha : a < N) (hb : b < N) (hs : src t = a) (hd : dst t = b) (hn : len t = l.toInt) (hk : ok t = k) (hl : bd l B) (hCB : C + B < 2 ^ 62) (hc : pcode code = some t) (hfb : fb.toInt = b) :
    ∀ st : (Nat → Int64) × (Nat → Int32) × Int32, st = (if k = false then (L, P, fe) else if L a + l < L b then (vp_updL L b (L a + l), upd P b code, fb) else (L, P, fe)) →
      Rel N st.1 st.2.1 (bf_r src dst len ok t S.1 S.2) ∧ Lbd N st.1 (C + B) ∧ Fel N L0 st.1 f0 st.2.2 ∧ ∀ v, v < N → (st.1 v).toInt ≤ (L0 v).toInt := by
  have hadd : (L a + l).toInt = S.1 (src t) + len t := by
    have := hL a ha
    unfold bd at hl
    rw [l_add (by omega) (by omega), hn, hs, (hR a ha).1]
  have hlt : L a + l < L b ↔ S.1 (src t) + len t < S.1 (dst t) := by
    rw [Int64.lt_iff_toInt_lt, hadd, hd, (hR b hb).1]
  have hmono : Lbd N L (C + B) := fun v hv => by have := hL v hv; omega
  intro st hst
  by_cases h1 : k = false
  · rw [if_pos h1] at hst
    subst hst
    have : bf_r src dst len ok t S.1 S.2 = (S.1, S.2) := by unfold bf_r; rw [if_neg (by rw [hk, h1]; intro q; exact absurd q.1 (by decide))]
    rw [this]
    exact ⟨hR, hmono, hF, hle⟩
  · rw [if_neg h1] at hst
    have hk1 : ok t = true := by rw [hk]; cases k <;> first | rfl | exact absurd rfl h1
    by_cases h2 : L a + l < L b
    · rw [if_pos h2] at hst
      subst hst
      have : bf_r src dst len ok t S.1 S.2 = (fun v => if v = dst t then S.1 (src t) + len t else S.1 v, fun v => if v = dst t then some t else S.2 v) := by unfold bf_r; rw [if_pos ⟨hk1, hlt.mp h2⟩]
      rw [this]
      have hlow : (L a + l).toInt < (L b).toInt := Int64.lt_iff_toInt_lt.mp h2
      refine ⟨fun v hv => ?_, fun v hv => ?_, Or.inr ⟨b, hb, hfb, ?_⟩, fun v hv => ?_⟩
      · dsimp only
        rw [hd]
        by_cases e : v = b
        · rw [if_pos e, if_pos e, e, pk_uLs, pk_us]
          exact ⟨hadd, hc⟩
        · rw [if_neg e, if_neg e, pk_uLn e, pk_un e]
          exact hR v hv
      · dsimp only
        by_cases e : v = b
        · rw [e, pk_uLs]
          have h3 := hL a ha
          have h4 := hL b hb
          unfold bd at hl
          rw [l_add (by omega) (by omega)] at hlow ⊢
          omega
        · rw [pk_uLn e]; exact hmono v hv
      · dsimp only
        rw [pk_uLs]
        have := hle b hb
        omega
      · dsimp only
        by_cases e : v = b
        · rw [e, pk_uLs]
          have := hle b hb
          omega
        · rw [pk_uLn e]; exact hle v hv
    · rw [if_neg h2] at hst
      subst hst
      have : bf_r src dst len ok t S.1 S.2 = (S.1, S.2) := by unfold bf_r; rw [if_neg (fun q => h2 (hlt.mpr q.2))]
      rw [this]
      exact ⟨hR, hmono, hF, hle⟩
theorem if_nd {p : Prop} [Decidable p] {α : Type} {x y : α} : (if (!decide p) = false then x else y) = if p then x else y := by by_cases h : p <;> simp [h]
section LK
variable {fb fa ff ft : Nat → Int32} {bo : Int32 → Int32 → Int64} {N nw B : Nat}
theorem clampI {x : Int32} {n : Nat} (h : 0 ≤ x.toInt ∧ x.toInt < n) (hn : n ≤ 2 ^ 31) : x.toInt = x.toNatClampNeg ∧ x.toNatClampNeg < n := by
  obtain ⟨j, hj, rfl⟩ := i_of h.1 h.2 hn
  rw [nI_clamp (by omega), nI_toInt (by omega)]
  exact ⟨rfl, hj⟩
/-- ONE PASS of the reference -/
theorem low_bf (hnw : nw ≤ 14) (hN : N ≤ 10) (hff : ∀ i, i < nw → 0 ≤ (ff i).toInt ∧ (ff i).toInt < N) (hft : ∀ i, i < nw → 0 ≤ (ft i).toInt ∧ (ft i).toInt < N) (hbo : ∀ i, i < nw → bd (bo (nI i) (fa (nI i).toNatClampNeg + 1)) B ∧ bd (bo (nI i) (fa (nI i).toNatClampNeg)) B) (hB : B ≤ 2 ^ 52)
    {L : Nat → Int64} {P : Nat → Int32} {S : (Nat → Int) × (Nat → Option Nat)} {f0 : Int32} {C : Nat} (hR : Rel N L P S) (hL : Lbd N L C) (hC : C + 28 * B < 2 ^ 62) : ∀ i, i ≤ nw → ∀ st, st = lowF fb fa ff ft bo i (L, P, f0) →
      Rel N st.1 st.2.1 (bf_k (aS ff ft) (aS ft ff) (aN fa bo) (aK fb fa) (2 * i) S) ∧ Lbd N st.1 (C + 2 * i * B) ∧ Fel N L st.1 f0 st.2.2 ∧ ∀ v, v < N → (st.1 v).toInt ≤ (L v).toInt := by
  intro i
  induction i with
  | zero =>
    intro _ st hst
    rw [hst]
    exact ⟨hR, by show Lbd N L (C + 2 * 0 * B); rw [show C + 2 * 0 * B = C by omega]; exact hL, Or.inl rfl, fun v _ => Int.le_refl _⟩
  | succ i ih =>
    intro hi st hst
    obtain ⟨r1, r2, r3, r4⟩ := ih (by omega) _ rfl
    have hcl : (nI i).toNatClampNeg = i := nI_clamp (by omega)
    have cf := clampI (hff i (by omega)) (by omega)
    have ct := clampI (hft i (by omega)) (by omega)
    have e0 : 2 * i % 2 = 0 := by omega
    have e1 : (2 * i + 1) % 2 = 1 := by omega
    have d0 : 2 * i / 2 = i := by omega
    have d1 : (2 * i + 1) / 2 = i := by omega
    have hb1 : 2 * i * B ≤ 26 * B := Nat.mul_le_mul_right B (by omega)
    have hbd := hbo i (by omega)
    obtain ⟨q1, q2, q3, q4⟩ := rel_step (src := aS ff ft) (dst := aS ft ff) (len := aN fa bo) (ok := aK fb fa) (t := 2 * i) (B := B) (k := !decide (mayF fb fa (nI i) 1 = 0)) (l := bo (nI i) (fa (nI i).toNatClampNeg + 1)) (code := nI (2 * i + 0)) (fb := ft (nI i).toNatClampNeg)
      r1 r2 r3 r4 (a := (ff (nI i).toNatClampNeg).toNatClampNeg) (b := (ft (nI i).toNatClampNeg).toNatClampNeg) (by rw [hcl]; exact cf.2) (by rw [hcl]; exact ct.2) (by unfold aS; rw [if_pos e0, d0]) (by unfold aS; rw [if_pos e0, d0]) (by unfold aN; rw [if_pos e0, d0]) (by unfold aK; rw [if_pos e0, d0]) hbd.1 (by omega)
      (by unfold pcode; rw [if_neg (fun q => by have := congrArg Int32.toInt q; rw [nI_toInt (by omega)] at this; have h9 : (-1 : Int32).toInt = -1 := rfl; omega), nI_toInt (by omega)]; rfl) (by rw [hcl]; exact ct.1)
      (relU fb fa ff ft bo i (lowF fb fa ff ft bo i (L, P, f0))) (by unfold relU; rw [if_nd])
    obtain ⟨p1, p2, p3, p4⟩ := rel_step (src := aS ff ft) (dst := aS ft ff) (len := aN fa bo) (ok := aK fb fa) (t := 2 * i + 1) (B := B) (k := !decide (mayF fb fa (nI i) 0 = 0)) (l := -bo (nI i) (fa (nI i).toNatClampNeg)) (code := nI (2 * i + 1)) (fb := ff (nI i).toNatClampNeg)
      q1 q2 q3 q4 (a := (ft (nI i).toNatClampNeg).toNatClampNeg) (b := (ff (nI i).toNatClampNeg).toNatClampNeg) (by rw [hcl]; exact ct.2) (by rw [hcl]; exact cf.2) (by unfold aS; rw [if_neg (by omega), d1]) (by unfold aS; rw [if_neg (by omega), d1]) (by unfold aN; rw [if_neg (by omega), d1]) (by unfold aK; rw [if_neg (by omega), d1]) (bd_neg hbd.2 (by omega)) (by omega)
      (by unfold pcode; rw [if_neg (fun q => by have := congrArg Int32.toInt q; rw [nI_toInt (by omega)] at this; have h9 : (-1 : Int32).toInt = -1 := rfl; omega), nI_toInt (by omega)]; rfl) (by rw [hcl]; exact cf.1)
      st (by
        rw [hst]
        show relD fb fa ff ft bo i (relU fb fa ff ft bo i (lowF fb fa ff ft bo i (L, P, f0))) = _
        unfold relD
        rw [if_nd])
    refine ⟨p1, ?_, p3, p4⟩
    have hx : C + 2 * i * B + B + B = C + 2 * (i + 1) * B := by
      have : 2 * (i + 1) * B = 2 * i * B + B + B := by rw [Nat.mul_add, Nat.add_mul]; omega
      omega
    rw [← hx]
    exact p2
end LK
