theorem ref_of_exactly {t : Term} {cls : String} {args : Array Value} {s : State} (h : (Cond.exactly t cls).before args s = true) : ∃ a, t.eval args s none [] s = some (.ref a) := by
  simp only [Cond.before, Cond.holds, Cond.value] at h
  cases hv : t.eval args s none [] s with
  | none => simp [hv] at h
  | some v =>
    cases v with
    | ref a => exact ⟨a, rfl⟩
    | _ => cases hf : s.vm.findClass cls <;> simp [hv, hf] at h
theorem tX_in : ∀ q ∈ tX, Cond.exactly (.string q.1 q.2.1) "java/lang/String" ∈ flatC (Jvm.Cond.and given_1 narrow_1) := by decide +kernel
theorem tX_w {q : String × Nat × String} (h : q ∈ tX) : Cond.stringRef q.1 q.2.1 q.2.2 ∈ lw_tbl := by
  obtain ⟨w, hw, e⟩ := List.mem_filterMap.mp h
  cases w <;> first | (cases e; exact hw) | cases e
theorem gw_start {b : Nat} {s : State} (hts : ∀ w ∈ lw_tbl, w.before #[Value.ref b] s = true) (hgv : (Jvm.Cond.and given_1 narrow_1).before #[Value.ref b] s = true) : GW s.heap.size s := by
  have hs := flat_of_before _ hgv
  have hA : ∀ a : Nat, a < s.heap.size → ¬ (fun q : Nat => s.heap.size ≤ q) a := fun a h => Nat.not_le.mpr h
  refine ⟨fun w hw => va_Nw.of (isN_tab (wN_t hw).2) (hts w (wN_t hw).1), fun q hq => ?_, ?_, ?_⟩
  · obtain ⟨a, ha⟩ := ref_of_exactly (hs _ (tX_in q hq))
    exact ⟨a, vk_R.of (hts _ (tX_w hq)) ha⟩
  · exact vx_Zqof (hts _ (by decide +kernel)) (hts _ (by decide +kernel)) (hs _ (by decide +kernel)) hA
  · exact vx_Zqof (hts _ (by decide +kernel)) (hts _ (by decide +kernel)) (hs _ (by decide +kernel)) hA
theorem len6 {L : Nat} {v u : Int32} (hL : L ≤ 6) (hv : v = Int32.ofNat L) (hu : u = v - 6) (h : ¬ u < 0) : L = 6 := by
  subst hv
  subst hu
  rcases (show L = 0 ∨ L = 1 ∨ L = 2 ∨ L = 3 ∨ L = 4 ∨ L = 5 ∨ L = 6 by omega) with rfl | rfl | rfl | rfl | rfl | rfl | rfl <;> first | rfl | exact absurd (by decide) h
