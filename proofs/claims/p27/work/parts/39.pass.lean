/-! the reference's passes, and the round out of them -/
section PSS
variable {fb fa ff ft : Nat → Int32} {bo : Int32 → Int32 → Int64} {nk nw : Nat}
def BJ (fb fa ff ft : Nat → Int32) (bo : Int32 → Int32 → Int64) (nw j : Nat) : (Nat → Int) × (Nat → Option Nat) := bf_j (aS ff ft) (aS ft ff) (aN fa bo) (aK fb fa) (2 * nw) j (fun _ => 0, fun _ => none)
def PS (fb fa ff ft : Nat → Int32) (bo : Int32 → Int32 → Int64) (nk nw rd : Nat) (fe : Int32) (lf : Nat → Int64) (cf : Nat → Int32) : Prop :=
  Rel nk lf cf (BJ fb fa ff ft bo nw rd) ∧ Lbd nk lf (rd * 126100789566373888) ∧ (rd = 0 ∨ fe = -1 ∨ ∃ v, v < nk ∧ fe.toInt = v ∧ (BJ fb fa ff ft bo nw rd).1 v < (BJ fb fa ff ft bo nw (rd - 1)).1 v)
theorem PS_0 {fe : Int32} {lf : Nat → Int64} {cf : Nat → Int32} (h : ∀ v, v < nk → lf v = 0 ∧ cf v = -1) : PS fb fa ff ft bo nk nw 0 fe lf cf := by
  refine ⟨fun v hv => ?_, fun v hv => ?_, Or.inl rfl⟩
  · rw [(h v hv).1, (h v hv).2]
    exact ⟨rfl, rfl⟩
  · rw [(h v hv).1, show (0 : Int64).toInt = 0 from rfl]
    omega
theorem ini_s {lf lf' : Nat → Int64} {cf cf' : Nat → Int32} {k : Nat} (h : ∀ v, v < k → lf v = 0 ∧ cf v = -1) (e1 : lf' = vp_updL lf (nI k).toNatClampNeg 0) (e2 : cf' = upd cf (nI k).toNatClampNeg (-1)) (hk : k < 2 ^ 31) : ∀ v, v < k + 1 → lf' v = 0 ∧ cf' v = -1 := by
  intro v hv
  rw [nI_clamp hk] at e1 e2
  rw [e1, e2]
  by_cases e : v = k
  · rw [e, pk_uLs, pk_us]; exact ⟨rfl, rfl⟩
  · rw [pk_uLn e, pk_un e]; exact h v (by omega)
/-- what the passes take as given: so many ways and knots, the ends of ways, the size of a step's worth, the AIR's bounds -/
def PG (fa ff ft : Nat → Int32) (bo : Int32 → Int32 → Int64) (nk nw : Nat) : Prop := nw ≤ 14 ∧ nk ≤ 10 ∧ (∀ i, i < nw → 0 ≤ (ff i).toInt ∧ (ff i).toInt < nk) ∧ (∀ i, i < nw → 0 ≤ (ft i).toInt ∧ (ft i).toInt < nk) ∧ (∀ i, i < nw → ∀ q : Int32, bi q 61 → bd (bo (nI i) q) 4503599627370496) ∧ rg fa 14 (-60) 61
theorem PS_s (G : PG fa ff ft bo nk nw) {rd : Nat} {fe u : Int32} {lf lf2 : Nat → Int64} {cf cf2 : Nat → Int32} (h : PS fb fa ff ft bo nk nw rd fe lf cf) (hrd : rd ≤ nk) (e : (lf2, cf2, u) = lowF fb fa ff ft bo nw (lf, cf, -1)) : PS fb fa ff ft bo nk nw (rd + 1) u lf2 cf2 := by
  obtain ⟨hnw, hnk, hff, hft, hbo, hfa⟩ := G
  have hb : ∀ i, i < nw → bd (bo (nI i) (fa (nI i).toNatClampNeg + 1)) 4503599627370496 ∧ bd (bo (nI i) (fa (nI i).toNatClampNeg)) 4503599627370496 := by
    intro i hi
    have hr := hfa i (by omega)
    have hcl : (nI i).toNatClampNeg = i := nI_clamp (by omega)
    rw [hcl]
    have h9 : (1 : Int32).toInt = 1 := rfl
    refine ⟨hbo i hi _ ?_, hbo i hi _ ?_⟩
    · unfold bi; rw [i_add (by omega) (by omega)]; omega
    · unfold bi; omega
  obtain ⟨r1, r2, r3, r4⟩ := low_bf (fb := fb) (f0 := -1) hnw hnk hff hft hb (by decide) h.1 h.2.1 (by omega) nw (Nat.le_refl _) _ e
  dsimp only at r1 r2 r3 r4
  refine ⟨r1, fun v hv => ?_, ?_⟩
  · have h1 := r2 v hv
    have h2 : 2 * nw * 4503599627370496 ≤ 28 * 4503599627370496 := Nat.mul_le_mul_right _ (by omega)
    omega
  · rcases r3 with h3 | ⟨v, hv, h3, h4⟩
    · exact Or.inr (Or.inl h3)
    · refine Or.inr (Or.inr ⟨v, hv, h3, ?_⟩)
      have e1 : (BJ fb fa ff ft bo nw (rd + 1)).1 v = (lf2 v).toInt := (r1 v hv).1.symm
      have e2 : (BJ fb fa ff ft bo nw (rd + 1 - 1)).1 v = (lf v).toInt := (h.1 v hv).1.symm
      rw [e1, e2]
      exact h4
/-- THE ROUND, when the last pass still lowered somebody -/
theorem PS_round (G : PG fa ff ft bo nk nw) {fe : Int32} {lf : Nat → Int64} {cf : Nat → Int32} (h : PS fb fa ff ft bo nk nw (nk + 1) fe lf cf) (hP : rg cf 10 (-1) 28) (hne : ¬ fe = -1) :
    ∃ (v0 : Nat) (tt : Nat → Nat) (p : Nat), fe = nI v0 ∧ (∀ i, i ≤ nk → itN (gN cf ff ft) v0 i < nk ∧ cfF cf ff ft (nI (itN (gN cf ff ft) v0 i)) = nI (itN (gN cf ff ft) v0 (i + 1))) ∧ 0 < p ∧ itN (gN cf ff ft) (itN (gN cf ff ft) v0 nk) p = itN (gN cf ff ft) v0 nk ∧ (∀ q, 0 < q → q < p → itN (gN cf ff ft) (itN (gN cf ff ft) v0 nk) q ≠ itN (gN cf ff ft) v0 nk) ∧
      (∀ q, q < p → itN (gN cf ff ft) (itN (gN cf ff ft) v0 nk) q < nk ∧ cf (itN (gN cf ff ft) (itN (gN cf ff ft) v0 nk) q) = nI (tt q) ∧ tt q < 28 ∧ cfF cf ff ft (nI (itN (gN cf ff ft) (itN (gN cf ff ft) v0 nk) q)) = nI (itN (gN cf ff ft) (itN (gN cf ff ft) v0 nk) (q + 1))) ∧
      ∀ q, q ≤ p → rg (airF tt fa q) 14 (-60) 61 := by
  have G' := G
  obtain ⟨hnw, hnk, hff, hft, hbo, hfa⟩ := G
  obtain ⟨hR, -, hF⟩ := h
  rcases hF with hF | hF | ⟨v0, hv0, hfv, hlow⟩
  · exact absurd hF (by omega)
  · exact absurd hF hne
  · have hch := bf_chain (src := aS ff ft) (dst := aS ft ff) (len := aN fa bo) (ok := aK fb fa) (m := 2 * nw) (j := nk) (v := v0) hlow
    have hI := bf_I_j (src := aS ff ft) (dst := aS ft ff) (len := aN fa bo) (ok := aK fb fa) (m := 2 * nw) (nk + 1) (S := (fun _ => 0, fun _ => none)) (fun v => Or.inl ⟨rfl, rfl⟩)
    have hQm : ∀ v t, v < nk → (BJ fb fa ff ft bo nw (nk + 1)).2 v = some t → t < 2 * nw := by
      intro v t _ ht
      rcases hI v with ⟨a, -⟩ | ⟨t9, a, -, -, d, -⟩
      · exact absurd (ht.symm.trans a) (by simp)
      · have := Option.some.inj (ht.symm.trans d); omega
    have hQk : ∀ v t, (BJ fb fa ff ft bo nw (nk + 1)).2 v = some t → aK fb fa t = true ∧ aS ft ff t = v := by
      intro v t ht
      rcases hI v with ⟨a, -⟩ | ⟨t9, -, b, c, d, -⟩
      · exact absurd (ht.symm.trans a) (by simp)
      · have := Option.some.inj (ht.symm.trans d); rw [this]; exact ⟨b, c⟩
    have hn := chain_nodes (v0 := 0) (len := aN fa bo) hnk hnw hP hff hft (fun v hv => (hR v hv).2) hQm (nk + 1) v0 hv0 (hch (nk + 1) (Nat.le_refl _))
    have hcf : ∀ (u t : Nat), u < nk → t < 2 * nw → cf u = nI t → gN cf ff ft u = aS ff ft t → cfF cf ff ft (nI u) = nI (gN cf ff ft u) := by
      intro u t hu ht he hg
      have h1 := cf_src (ff := ff) (ft := ft) (by omega : u < 2 ^ 31) he (by omega)
      have hcl : (nI (t / 2)).toNatClampNeg = t / 2 := nI_clamp (by omega)
      rw [hcl] at h1
      have h2 : 0 ≤ (cfF cf ff ft (nI u)).toInt ∧ (cfF cf ff ft (nI u)).toInt < nk := by
        rw [h1]
        split
        · exact hff _ (by omega)
        · exact hft _ (by omega)
      have h3 := (clampI h2 (by omega)).1
      refine Int32.toInt_inj.mp ?_
      rw [nI_toInt (by have := (clampI h2 (by omega)).2; show (cfF cf ff ft (nI u)).toNatClampNeg < 2 ^ 31; omega)]
      exact h3
    obtain ⟨p, hp0, hp1, hp2, hp3, hp4, hp5⟩ := round_of (g := gN cf ff ft) (N := nk) (v := v0) (fun i hi => (hn i (by omega)).1)
    have hat : ∀ q, ∃ t, t < 2 * nw ∧ cf (itN (gN cf ff ft) (itN (gN cf ff ft) v0 nk) q) = nI t ∧ (BJ fb fa ff ft bo nw (nk + 1)).2 (itN (gN cf ff ft) (itN (gN cf ff ft) v0 nk) q) = some t ∧ gN cf ff ft (itN (gN cf ff ft) (itN (gN cf ff ft) v0 nk) q) = aS ff ft t ∧ itN (gN cf ff ft) (itN (gN cf ff ft) v0 nk) q < nk := by
      intro q
      obtain ⟨i, hi, he⟩ := hp5 q
      rw [he]
      obtain ⟨t, a, b, c, d⟩ := (hn i (by omega)).2 (by omega)
      exact ⟨t, a, b, c, d, (hn i (by omega)).1⟩
    refine ⟨v0, fun q => (hat q).choose, p, ?_, fun i hi => ⟨(hn i (by omega)).1, ?_⟩, hp0, hp2, hp3, fun q hq => ?_, fun q hq => ?_⟩
    · refine Int32.toInt_inj.mp ?_
      rw [nI_toInt (by omega)]; exact hfv
    · obtain ⟨t, a, b, c, d⟩ := (hn i (by omega)).2 (by omega)
      exact hcf _ t (hn i (by omega)).1 a b d
    · obtain ⟨a, b, c, d, e⟩ := (hat q).choose_spec
      exact ⟨e, b, Nat.lt_of_lt_of_le a (by omega), hcf _ _ e a b d⟩
    · have hdist : ∀ q r, q < r → r < p → (hat q).choose ≠ (hat r).choose := by
        intro q r hqr hr e
        obtain ⟨-, -, c1, -, -⟩ := (hat q).choose_spec
        obtain ⟨-, -, c2, -, -⟩ := (hat r).choose_spec
        refine hp4 q r hqr hr ?_
        rw [← (hQk _ _ c1).2, ← (hQk _ _ c2).2, e]
      have hair := air_in (fb := fb) (fa := fa) (tt := fun q => (hat q).choose) (p := p) hfa hdist (fun q _ => by have := (hat q).choose_spec.1; omega) (fun q _ => (hQk _ _ (hat q).choose_spec.2.2.1).1) q hq
      intro w hw
      obtain ⟨u, d, hu, hd, he⟩ := hair w hw
      have hr := hfa w hw
      rcases hu with rfl | ⟨rfl, -, hu⟩ <;> rcases hd with rfl | ⟨rfl, -, hd⟩ <;> omega
end PSS
