theorem cpy_all {f g f2 : Nat → Int32} {n : Int32} (e : f2 = va_cpy f g (0 : Int32).toNatClampNeg (0 : Int32).toNatClampNeg n.toNatClampNeg) {k : Nat} (hk : n.toNatClampNeg = k := by rfl) : ∀ j, j < k → f2 j = f j := by
  intro j hj
  have h0 : (0 : Int32).toNatClampNeg = 0 := by decide
  rw [e, h0, hk]
  unfold va_cpy
  rw [if_pos ⟨Nat.zero_le _, by omega⟩]
  congr 1
  omega
theorem rg_cp {f f2 : Nat → Int32} {n : Nat} {lo hi : Int} (h : rg f n lo hi) (e : ∀ j, j < n → f2 j = f j) : rg f2 n lo hi := fun j hj => by rw [e j hj]; exact h j hj
theorem lk_0_1 (x : Int32) : x = 0 ∨ x = 1 ∨ (¬ x = 0 ∧ ¬ x = 1) := by
  by_cases a : x = 0
  · exact Or.inl a
  · by_cases b : x = 1
    · exact Or.inr (Or.inl b)
    · exact Or.inr (Or.inr ⟨a, b⟩)
theorem lkd_0_1 {x : Int32} {d a b : Int} (h : ¬ x = 0 ∧ ¬ x = 1) : Op.lookupswitch.offset [(0, a), (1, b)] d x.toInt = d := by
  have h0 : ¬ x.toInt = 0 := fun e => h.1 (Int32.toInt_inj.mp e)
  have h1 : ¬ x.toInt = 1 := fun e => h.2 (Int32.toInt_inj.mp e)
  rw [Op.lookupswitch.offset_cons, if_neg (fun e => h0 e.symm), Op.lookupswitch.offset_cons, if_neg (fun e => h1 e.symm), Op.lookupswitch.offset_nil]
theorem mabs_ne {x v : Int32} (h : v = if 0 ≤ x then x else 0 - x) (hx : ¬ x = 0) : ¬ v = 0 := by
  intro e
  by_cases c : 0 ≤ x
  · rw [if_pos c] at h; exact hx (h.symm.trans e)
  · rw [if_neg c] at h
    rw [h] at e
    have h1 : x = 0 := by
      have h2 := congrArg (fun y => 0 - y) e
      simpa using h2
    exact hx h1
