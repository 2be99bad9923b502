theorem dJ7_fill_53178_0 : decode cJ7_fill_53178 0 = .ok (.iconst 0, 1) := by decide +kernel
theorem dJ7_fill_53178_1 : decode cJ7_fill_53178 1 = .ok (.istore_n 2, 1) := by decide +kernel
theorem dJ7_fill_53178_2 : decode cJ7_fill_53178 2 = .ok (.aload_n 0, 1) := by decide +kernel
theorem dJ7_fill_53178_3 : decode cJ7_fill_53178 3 = .ok (.arraylength, 1) := by decide +kernel
theorem dJ7_fill_53178_4 : decode cJ7_fill_53178 4 = .ok (.istore_n 3, 1) := by decide +kernel
theorem dJ7_fill_53178_5 : decode cJ7_fill_53178 5 = .ok (.iload_n 2, 1) := by decide +kernel
theorem dJ7_fill_53178_6 : decode cJ7_fill_53178 6 = .ok (.iload_n 3, 1) := by decide +kernel
theorem dJ7_fill_53178_7 : decode cJ7_fill_53178 7 = .ok (.if_icmp .ge 13, 3) := by decide +kernel
theorem dJ7_fill_53178_10 : decode cJ7_fill_53178 10 = .ok (.aload_n 0, 1) := by decide +kernel
theorem dJ7_fill_53178_11 : decode cJ7_fill_53178 11 = .ok (.iload_n 2, 1) := by decide +kernel
theorem dJ7_fill_53178_12 : decode cJ7_fill_53178 12 = .ok (.iload_n 1, 1) := by decide +kernel
theorem dJ7_fill_53178_13 : decode cJ7_fill_53178 13 = .ok (.iastore, 1) := by decide +kernel
theorem dJ7_fill_53178_14 : decode cJ7_fill_53178 14 = .ok (.iinc 2 1, 3) := by decide +kernel
theorem dJ7_fill_53178_17 : decode cJ7_fill_53178 17 = .ok (.goto (-12), 3) := by decide +kernel
theorem dJ7_fill_53178_20 : decode cJ7_fill_53178 20 = .ok (.return_, 1) := by decide +kernel
theorem dJ7_fill_d0a16_0 : decode cJ7_fill_d0a16 0 = .ok (.iconst 0, 1) := by decide +kernel
theorem dJ7_fill_d0a16_1 : decode cJ7_fill_d0a16 1 = .ok (.istore_n 3, 1) := by decide +kernel
theorem dJ7_fill_d0a16_2 : decode cJ7_fill_d0a16 2 = .ok (.aload_n 0, 1) := by decide +kernel
theorem dJ7_fill_d0a16_3 : decode cJ7_fill_d0a16 3 = .ok (.arraylength, 1) := by decide +kernel
theorem dJ7_fill_d0a16_4 : decode cJ7_fill_d0a16 4 = .ok (.istore 4, 2) := by decide +kernel
theorem dJ7_fill_d0a16_6 : decode cJ7_fill_d0a16 6 = .ok (.iload_n 3, 1) := by decide +kernel
theorem dJ7_fill_d0a16_7 : decode cJ7_fill_d0a16 7 = .ok (.iload 4, 2) := by decide +kernel
theorem dJ7_fill_d0a16_9 : decode cJ7_fill_d0a16 9 = .ok (.if_icmp .ge 13, 3) := by decide +kernel
theorem dJ7_fill_d0a16_12 : decode cJ7_fill_d0a16 12 = .ok (.aload_n 0, 1) := by decide +kernel
theorem dJ7_fill_d0a16_13 : decode cJ7_fill_d0a16 13 = .ok (.iload_n 3, 1) := by decide +kernel
theorem dJ7_fill_d0a16_14 : decode cJ7_fill_d0a16 14 = .ok (.lload_n 1, 1) := by decide +kernel
theorem dJ7_fill_d0a16_15 : decode cJ7_fill_d0a16 15 = .ok (.lastore, 1) := by decide +kernel
theorem dJ7_fill_d0a16_16 : decode cJ7_fill_d0a16 16 = .ok (.iinc 3 1, 3) := by decide +kernel
theorem dJ7_fill_d0a16_19 : decode cJ7_fill_d0a16 19 = .ok (.goto (-13), 3) := by decide +kernel
theorem dJ7_fill_d0a16_22 : decode cJ7_fill_d0a16 22 = .ok (.return_, 1) := by decide +kernel
theorem fillL_s {y y2 : Nat → Int64} {i : Nat} {v c : Int64} (h : ∀ j, j < i → y j = c) (e : y2 = vp_updL y (nI i).toNatClampNeg v) (ev : v = c) (hi : i < 2 ^ 31) : ∀ j, j < i + 1 → y2 j = c := by
  intro j hj
  rw [nI_clamp hi] at e
  rw [e]
  by_cases q : j = i
  · rw [q]; unfold vp_updL; rw [if_pos rfl]; exact ev
  · unfold vp_updL; rw [if_neg q]; exact h j (by omega)
theorem half_lt {x v : Int32} (h : v = x / 2) (h1 : 0 < x.toInt) (h2 : x.toInt ≤ 4) : 0 ≤ v.toInt ∧ v.toInt < x.toInt := by
  rcases (show x.toInt = 1 ∨ x.toInt = 2 ∨ x.toInt = 3 ∨ x.toInt = 4 by omega) with e | e | e | e
  · rw [h, show x = 1 from Int32.toInt_inj.mp e]; decide
  · rw [h, show x = 2 from Int32.toInt_inj.mp e]; decide
  · rw [h, show x = 3 from Int32.toInt_inj.mp e]; decide
  · rw [h, show x = 4 from Int32.toInt_inj.mp e]; decide
set_option maxHeartbeats 4000000 in
set_option maxRecDepth 100000 in
theorem c_fill14 (l : Launch) (dC : Nat → ClassId) (dI : Nat → Nat → Nat) (n0 : Nat) (atx : Nat → Nat × Nat) (sz : Nat) (a : Nat) (ka : ClassId) (f : Nat → Int32) (v : Int32) : Met l yJ7_fill_53178 (wM yJ7_fill_53178 cJ7_fill_53178 4 none) ({ frames := 0, cells := 0, slots := 0, locals := 0 }) (va_Pc [.ref a, .int v] (fun U => U.heap.size = sz ∧ n0 ≤ sz ∧ GW n0 atx U ∧ va_P (dC, dI) classes [(a, .inl (ka, 14, .inl f))] U.heap ∧ va_K (dC, dI) classes [(ka, .int)] U ∧ va_D (fun q => n0 ≤ q) [(a, .inl (ka, 14, .inl f))])) (va_Qv (fun _ : Unit => True) (fun (_ : Unit) (t : State) => ∃ (f2 : Nat → Int32), (∀ j, j < 14 → f2 j = v) ∧ va_P (dC, dI) classes [(a, .inl (ka, 14, .inl f2))] t.heap ∧ va_K (dC, dI) classes [(ka, .int)] t ∧ va_D (va_A [(a, .inl (ka, 14, .inl f))] sz) [(a, .inl (ka, 14, .inl f2))]) (va_A [(a, .inl (ka, 14, .inl f))] sz)) 0 0 (va_A [(a, .inl (ka, 14, .inl f))] sz) := by
  refine Met.ofW (cc := cJ7_fill_53178) (maxL := 4) (ret := none) (by decide) rfl ?_
  intro p e s m args below meth c s₁ B hml hv
  obtain ⟨rfl, hsz, hn0, hG, hP, hK, hD0⟩ := hv
  have hx := B.exec
  have hb := B.bytes
  have hr := B.returns
  have hts := atoms_spec (ws := wM yJ7_fill_53178 cJ7_fill_53178 4 none) B.pre
  have hown : s.vm.findClass RJ7 = some m.cls := findClass_of_methodNamed B.named
  have hlocks := B.notSynchronized
  subst hsz
  have hD := hD0.self (sz := s.heap.size)
  have hA0 := vA_n0 hD0 hn0
  generalize hAe : va_A [(a, .inl (ka, 14, .inl f))] s.heap.size = A at hD hA0 ⊢
  have hA : ∀ q : Nat, s.heap.size ≤ q → A q := fun q h => by rw [← hAe]; exact Or.inr h
  have hS : va_S A s.heap s.heap [] := va_S.rf
  have hl := lv_entry ([.ref a, .int v]) (n := 4) (Nat.le_of_ble_eq_true rfl)
  rw [lg_entry_eq]
  generalize (lg_sl ([.ref a, .int v]) ++ List.replicate (4 - (lg_sl ([.ref a, .int v])).length) Slot.unset).toArray = ls at hl ⊢
  have hl : lv_has ls 4 [(0, .ref a), (1, .int v)] := hl
  refine lv_iconst (v := 0) hx hb dJ7_fill_53178_0 (by decide) ?_
  refine lv_istore_n (lv' := [(2, .int 0), (0, .ref a), (1, .int v)]) hx hb dJ7_fill_53178_1 rfl hl (by decide) rfl (fun ls hl => ?_)
  refine lv_aload_n hx hb dJ7_fill_53178_2 rfl (lv_at hl 1 rfl) ?_
  refine va_alen (v := 14) hx hb hK hP 0 0 rfl rfl rfl dJ7_fill_53178_3 ?_
  refine lv_istore_n (lv' := [(3, .int 14), (2, .int 0), (0, .ref a), (1, .int v)]) hx hb dJ7_fill_53178_4 rfl hl (by decide) rfl (fun ls hl => ?_)
  refine W_lp2 (I := fun (i : Nat) (g : Nat → Int32) H locs ls => (i ≤ 14) ∧ (∀ j, j < i → g j = v) ∧ va_P (dC, dI) classes [(a, .inl (ka, 14, .inl g))] H ∧ va_D A [(a, .inl (ka, 14, .inl g))] ∧ va_S A s.heap H locs ∧ lv_has ls 4 [(0, .ref a), (1, .int v), (2, .int (nI i)), (3, .int 14)]) (μ := fun (i : Nat) (g : Nat → Int32) => 14 - i) ?_ 0 f _ _ _ ⟨(by first | with_reducible assumption | omega | exact vp_in_iff.mpr (by omega) | exact vp_in_nI (by omega) (by omega) | exact ⟨by omega, by omega⟩), (fun j hj => absurd hj (Nat.not_lt_zero j)), hP, hD, hS, lv_sub hl [2, 3, 1, 0] rfl⟩
  intro i g H locs ls hI ih_1
  obtain ⟨hi, hg, hP, hD, hS, hl⟩ := hI
  refine lv_iload_n hx hb dJ7_fill_53178_5 rfl (lv_at hl 2 rfl) ?_
  refine lv_iload_n hx hb dJ7_fill_53178_6 rfl (lv_at hl 3 rfl) ?_
  refine lv_icmp_ge (tgt := 20) hx hb dJ7_fill_53178_7 (by decide) (fun c_2 => ?_) (fun c_2 => ?_)
  · skip
    have g_3 := n_ge (a := i) (b := 14) c_2 (by omega) (by omega)
    have hK9 := hK.sub (tys' := [(ka, .int)]) [0] rfl
    exact W.vret hx hb hr (fun t ht hW => ⟨⟨(), rfl, trivial, g, (fun j hj => hg j (by omega)), by rw [ht]; exact hP.sub [0] rfl, va_K.moved hW.alike hK9, hD.sub [0] (by decide) rfl⟩, hS.F ht⟩) hS.2.2 dJ7_fill_53178_20
  · skip
    have g_4 := n_nge (a := i) (b := 14) c_2 (by omega) (by omega)
    refine lv_aload_n hx hb dJ7_fill_53178_10 rfl (lv_at hl 0 rfl) ?_
    refine lv_iload_n hx hb dJ7_fill_53178_11 rfl (lv_at hl 2 rfl) ?_
    refine lv_iload_n hx hb dJ7_fill_53178_12 rfl (lv_at hl 1 rfl) ?_
    refine va_iast hx hb hK hP hD hS 0 0 rfl rfl (vp_in_nI (n := i) (by omega) (by omega)) dJ7_fill_53178_13 (fun H locs hP hD hS => ?_)
    obtain ⟨f_5, ef_5⟩ : ∃ f9, f9 = (upd g (nI i).toNatClampNeg v) := ⟨_, rfl⟩
    obtain ⟨hP, hD⟩ : s3_w (dC, dI) classes A [(a, .inl (ka, 14, .inl f_5))] H := ⟨(by rw [ef_5]; exact hP), (by rw [ef_5]; exact hD)⟩
    refine lv_iinc (v := (nI (i + 1))) (lv' := [(2, .int (nI (i + 1))), (0, .ref a), (1, .int v), (3, .int 14)]) hx hb dJ7_fill_53178_14 hl (k := 2) rfl (nI_add _ 1) (by decide) rfl (fun ls hl => ?_)
    refine lv_goto (tgt := 5) hx hb dJ7_fill_53178_17 (by decide) ?_
    exact ih_1 (i + 1) f_5 _ _ _ ⟨(by first | with_reducible assumption | omega | exact vp_in_iff.mpr (by omega) | exact vp_in_nI (by omega) (by omega) | exact ⟨by omega, by omega⟩), (fill_s hg ef_5 rfl (by omega)), hP.sub [0] rfl, hD.sub [0] (by decide) rfl, hS, lv_sub hl [1, 2, 0, 3] rfl⟩ (by omega)
set_option maxHeartbeats 4000000 in
set_option maxRecDepth 100000 in
theorem c_fill10 (l : Launch) (dC : Nat → ClassId) (dI : Nat → Nat → Nat) (n0 : Nat) (atx : Nat → Nat × Nat) (sz : Nat) (a : Nat) (ka : ClassId) (f : Nat → Int32) (v : Int32) : Met l yJ7_fill_53178 (wM yJ7_fill_53178 cJ7_fill_53178 4 none) ({ frames := 0, cells := 0, slots := 0, locals := 0 }) (va_Pc [.ref a, .int v] (fun U => U.heap.size = sz ∧ n0 ≤ sz ∧ GW n0 atx U ∧ va_P (dC, dI) classes [(a, .inl (ka, 10, .inl f))] U.heap ∧ va_K (dC, dI) classes [(ka, .int)] U ∧ va_D (fun q => n0 ≤ q) [(a, .inl (ka, 10, .inl f))])) (va_Qv (fun _ : Unit => True) (fun (_ : Unit) (t : State) => ∃ (f2 : Nat → Int32), (∀ j, j < 10 → f2 j = v) ∧ va_P (dC, dI) classes [(a, .inl (ka, 10, .inl f2))] t.heap ∧ va_K (dC, dI) classes [(ka, .int)] t ∧ va_D (va_A [(a, .inl (ka, 10, .inl f))] sz) [(a, .inl (ka, 10, .inl f2))]) (va_A [(a, .inl (ka, 10, .inl f))] sz)) 0 0 (va_A [(a, .inl (ka, 10, .inl f))] sz) := by
  refine Met.ofW (cc := cJ7_fill_53178) (maxL := 4) (ret := none) (by decide) rfl ?_
  intro p e s m args below meth c s₁ B hml hv
  obtain ⟨rfl, hsz, hn0, hG, hP, hK, hD0⟩ := hv
  have hx := B.exec
  have hb := B.bytes
  have hr := B.returns
  have hts := atoms_spec (ws := wM yJ7_fill_53178 cJ7_fill_53178 4 none) B.pre
  have hown : s.vm.findClass RJ7 = some m.cls := findClass_of_methodNamed B.named
  have hlocks := B.notSynchronized
  subst hsz
  have hD := hD0.self (sz := s.heap.size)
  have hA0 := vA_n0 hD0 hn0
  generalize hAe : va_A [(a, .inl (ka, 10, .inl f))] s.heap.size = A at hD hA0 ⊢
  have hA : ∀ q : Nat, s.heap.size ≤ q → A q := fun q h => by rw [← hAe]; exact Or.inr h
  have hS : va_S A s.heap s.heap [] := va_S.rf
  have hl := lv_entry ([.ref a, .int v]) (n := 4) (Nat.le_of_ble_eq_true rfl)
  rw [lg_entry_eq]
  generalize (lg_sl ([.ref a, .int v]) ++ List.replicate (4 - (lg_sl ([.ref a, .int v])).length) Slot.unset).toArray = ls at hl ⊢
  have hl : lv_has ls 4 [(0, .ref a), (1, .int v)] := hl
  refine lv_iconst (v := 0) hx hb dJ7_fill_53178_0 (by decide) ?_
  refine lv_istore_n (lv' := [(2, .int 0), (0, .ref a), (1, .int v)]) hx hb dJ7_fill_53178_1 rfl hl (by decide) rfl (fun ls hl => ?_)
  refine lv_aload_n hx hb dJ7_fill_53178_2 rfl (lv_at hl 1 rfl) ?_
  refine va_alen (v := 10) hx hb hK hP 0 0 rfl rfl rfl dJ7_fill_53178_3 ?_
  refine lv_istore_n (lv' := [(3, .int 10), (2, .int 0), (0, .ref a), (1, .int v)]) hx hb dJ7_fill_53178_4 rfl hl (by decide) rfl (fun ls hl => ?_)
  refine W_lp2 (I := fun (i : Nat) (g : Nat → Int32) H locs ls => (i ≤ 10) ∧ (∀ j, j < i → g j = v) ∧ va_P (dC, dI) classes [(a, .inl (ka, 10, .inl g))] H ∧ va_D A [(a, .inl (ka, 10, .inl g))] ∧ va_S A s.heap H locs ∧ lv_has ls 4 [(0, .ref a), (1, .int v), (2, .int (nI i)), (3, .int 10)]) (μ := fun (i : Nat) (g : Nat → Int32) => 10 - i) ?_ 0 f _ _ _ ⟨(by first | with_reducible assumption | omega | exact vp_in_iff.mpr (by omega) | exact vp_in_nI (by omega) (by omega) | exact ⟨by omega, by omega⟩), (fun j hj => absurd hj (Nat.not_lt_zero j)), hP, hD, hS, lv_sub hl [2, 3, 1, 0] rfl⟩
  intro i g H locs ls hI ih_1
  obtain ⟨hi, hg, hP, hD, hS, hl⟩ := hI
  refine lv_iload_n hx hb dJ7_fill_53178_5 rfl (lv_at hl 2 rfl) ?_
  refine lv_iload_n hx hb dJ7_fill_53178_6 rfl (lv_at hl 3 rfl) ?_
  refine lv_icmp_ge (tgt := 20) hx hb dJ7_fill_53178_7 (by decide) (fun c_2 => ?_) (fun c_2 => ?_)
  · skip
    have g_3 := n_ge (a := i) (b := 10) c_2 (by omega) (by omega)
    have hK9 := hK.sub (tys' := [(ka, .int)]) [0] rfl
    exact W.vret hx hb hr (fun t ht hW => ⟨⟨(), rfl, trivial, g, (fun j hj => hg j (by omega)), by rw [ht]; exact hP.sub [0] rfl, va_K.moved hW.alike hK9, hD.sub [0] (by decide) rfl⟩, hS.F ht⟩) hS.2.2 dJ7_fill_53178_20
  · skip
    have g_4 := n_nge (a := i) (b := 10) c_2 (by omega) (by omega)
    refine lv_aload_n hx hb dJ7_fill_53178_10 rfl (lv_at hl 0 rfl) ?_
    refine lv_iload_n hx hb dJ7_fill_53178_11 rfl (lv_at hl 2 rfl) ?_
    refine lv_iload_n hx hb dJ7_fill_53178_12 rfl (lv_at hl 1 rfl) ?_
    refine va_iast hx hb hK hP hD hS 0 0 rfl rfl (vp_in_nI (n := i) (by omega) (by omega)) dJ7_fill_53178_13 (fun H locs hP hD hS => ?_)
    obtain ⟨f_5, ef_5⟩ : ∃ f9, f9 = (upd g (nI i).toNatClampNeg v) := ⟨_, rfl⟩
    obtain ⟨hP, hD⟩ : s3_w (dC, dI) classes A [(a, .inl (ka, 10, .inl f_5))] H := ⟨(by rw [ef_5]; exact hP), (by rw [ef_5]; exact hD)⟩
    refine lv_iinc (v := (nI (i + 1))) (lv' := [(2, .int (nI (i + 1))), (0, .ref a), (1, .int v), (3, .int 10)]) hx hb dJ7_fill_53178_14 hl (k := 2) rfl (nI_add _ 1) (by decide) rfl (fun ls hl => ?_)
    refine lv_goto (tgt := 5) hx hb dJ7_fill_53178_17 (by decide) ?_
    exact ih_1 (i + 1) f_5 _ _ _ ⟨(by first | with_reducible assumption | omega | exact vp_in_iff.mpr (by omega) | exact vp_in_nI (by omega) (by omega) | exact ⟨by omega, by omega⟩), (fill_s hg ef_5 rfl (by omega)), hP.sub [0] rfl, hD.sub [0] (by decide) rfl, hS, lv_sub hl [1, 2, 0, 3] rfl⟩ (by omega)
set_option maxHeartbeats 4000000 in
set_option maxRecDepth 100000 in
theorem c_fill4 (l : Launch) (dC : Nat → ClassId) (dI : Nat → Nat → Nat) (n0 : Nat) (atx : Nat → Nat × Nat) (sz : Nat) (a : Nat) (ka : ClassId) (f : Nat → Int32) (v : Int32) : Met l yJ7_fill_53178 (wM yJ7_fill_53178 cJ7_fill_53178 4 none) ({ frames := 0, cells := 0, slots := 0, locals := 0 }) (va_Pc [.ref a, .int v] (fun U => U.heap.size = sz ∧ n0 ≤ sz ∧ GW n0 atx U ∧ va_P (dC, dI) classes [(a, .inl (ka, 4, .inl f))] U.heap ∧ va_K (dC, dI) classes [(ka, .int)] U ∧ va_D (fun q => n0 ≤ q) [(a, .inl (ka, 4, .inl f))])) (va_Qv (fun _ : Unit => True) (fun (_ : Unit) (t : State) => ∃ (f2 : Nat → Int32), (∀ j, j < 4 → f2 j = v) ∧ va_P (dC, dI) classes [(a, .inl (ka, 4, .inl f2))] t.heap ∧ va_K (dC, dI) classes [(ka, .int)] t ∧ va_D (va_A [(a, .inl (ka, 4, .inl f))] sz) [(a, .inl (ka, 4, .inl f2))]) (va_A [(a, .inl (ka, 4, .inl f))] sz)) 0 0 (va_A [(a, .inl (ka, 4, .inl f))] sz) := by
  refine Met.ofW (cc := cJ7_fill_53178) (maxL := 4) (ret := none) (by decide) rfl ?_
  intro p e s m args below meth c s₁ B hml hv
  obtain ⟨rfl, hsz, hn0, hG, hP, hK, hD0⟩ := hv
  have hx := B.exec
  have hb := B.bytes
  have hr := B.returns
  have hts := atoms_spec (ws := wM yJ7_fill_53178 cJ7_fill_53178 4 none) B.pre
  have hown : s.vm.findClass RJ7 = some m.cls := findClass_of_methodNamed B.named
  have hlocks := B.notSynchronized
  subst hsz
  have hD := hD0.self (sz := s.heap.size)
  have hA0 := vA_n0 hD0 hn0
  generalize hAe : va_A [(a, .inl (ka, 4, .inl f))] s.heap.size = A at hD hA0 ⊢
  have hA : ∀ q : Nat, s.heap.size ≤ q → A q := fun q h => by rw [← hAe]; exact Or.inr h
  have hS : va_S A s.heap s.heap [] := va_S.rf
  have hl := lv_entry ([.ref a, .int v]) (n := 4) (Nat.le_of_ble_eq_true rfl)
  rw [lg_entry_eq]
  generalize (lg_sl ([.ref a, .int v]) ++ List.replicate (4 - (lg_sl ([.ref a, .int v])).length) Slot.unset).toArray = ls at hl ⊢
  have hl : lv_has ls 4 [(0, .ref a), (1, .int v)] := hl
  refine lv_iconst (v := 0) hx hb dJ7_fill_53178_0 (by decide) ?_
  refine lv_istore_n (lv' := [(2, .int 0), (0, .ref a), (1, .int v)]) hx hb dJ7_fill_53178_1 rfl hl (by decide) rfl (fun ls hl => ?_)
  refine lv_aload_n hx hb dJ7_fill_53178_2 rfl (lv_at hl 1 rfl) ?_
  refine va_alen (v := 4) hx hb hK hP 0 0 rfl rfl rfl dJ7_fill_53178_3 ?_
  refine lv_istore_n (lv' := [(3, .int 4), (2, .int 0), (0, .ref a), (1, .int v)]) hx hb dJ7_fill_53178_4 rfl hl (by decide) rfl (fun ls hl => ?_)
  refine W_lp2 (I := fun (i : Nat) (g : Nat → Int32) H locs ls => (i ≤ 4) ∧ (∀ j, j < i → g j = v) ∧ va_P (dC, dI) classes [(a, .inl (ka, 4, .inl g))] H ∧ va_D A [(a, .inl (ka, 4, .inl g))] ∧ va_S A s.heap H locs ∧ lv_has ls 4 [(0, .ref a), (1, .int v), (2, .int (nI i)), (3, .int 4)]) (μ := fun (i : Nat) (g : Nat → Int32) => 4 - i) ?_ 0 f _ _ _ ⟨(by first | with_reducible assumption | omega | exact vp_in_iff.mpr (by omega) | exact vp_in_nI (by omega) (by omega) | exact ⟨by omega, by omega⟩), (fun j hj => absurd hj (Nat.not_lt_zero j)), hP, hD, hS, lv_sub hl [2, 3, 1, 0] rfl⟩
  intro i g H locs ls hI ih_1
  obtain ⟨hi, hg, hP, hD, hS, hl⟩ := hI
  refine lv_iload_n hx hb dJ7_fill_53178_5 rfl (lv_at hl 2 rfl) ?_
  refine lv_iload_n hx hb dJ7_fill_53178_6 rfl (lv_at hl 3 rfl) ?_
  refine lv_icmp_ge (tgt := 20) hx hb dJ7_fill_53178_7 (by decide) (fun c_2 => ?_) (fun c_2 => ?_)
  · skip
    have g_3 := n_ge (a := i) (b := 4) c_2 (by omega) (by omega)
    have hK9 := hK.sub (tys' := [(ka, .int)]) [0] rfl
    exact W.vret hx hb hr (fun t ht hW => ⟨⟨(), rfl, trivial, g, (fun j hj => hg j (by omega)), by rw [ht]; exact hP.sub [0] rfl, va_K.moved hW.alike hK9, hD.sub [0] (by decide) rfl⟩, hS.F ht⟩) hS.2.2 dJ7_fill_53178_20
  · skip
    have g_4 := n_nge (a := i) (b := 4) c_2 (by omega) (by omega)
    refine lv_aload_n hx hb dJ7_fill_53178_10 rfl (lv_at hl 0 rfl) ?_
    refine lv_iload_n hx hb dJ7_fill_53178_11 rfl (lv_at hl 2 rfl) ?_
    refine lv_iload_n hx hb dJ7_fill_53178_12 rfl (lv_at hl 1 rfl) ?_
    refine va_iast hx hb hK hP hD hS 0 0 rfl rfl (vp_in_nI (n := i) (by omega) (by omega)) dJ7_fill_53178_13 (fun H locs hP hD hS => ?_)
    obtain ⟨f_5, ef_5⟩ : ∃ f9, f9 = (upd g (nI i).toNatClampNeg v) := ⟨_, rfl⟩
    obtain ⟨hP, hD⟩ : s3_w (dC, dI) classes A [(a, .inl (ka, 4, .inl f_5))] H := ⟨(by rw [ef_5]; exact hP), (by rw [ef_5]; exact hD)⟩
    refine lv_iinc (v := (nI (i + 1))) (lv' := [(2, .int (nI (i + 1))), (0, .ref a), (1, .int v), (3, .int 4)]) hx hb dJ7_fill_53178_14 hl (k := 2) rfl (nI_add _ 1) (by decide) rfl (fun ls hl => ?_)
    refine lv_goto (tgt := 5) hx hb dJ7_fill_53178_17 (by decide) ?_
    exact ih_1 (i + 1) f_5 _ _ _ ⟨(by first | with_reducible assumption | omega | exact vp_in_iff.mpr (by omega) | exact vp_in_nI (by omega) (by omega) | exact ⟨by omega, by omega⟩), (fill_s hg ef_5 rfl (by omega)), hP.sub [0] rfl, hD.sub [0] (by decide) rfl, hS, lv_sub hl [1, 2, 0, 3] rfl⟩ (by omega)
set_option maxHeartbeats 4000000 in
set_option maxRecDepth 100000 in
theorem c_fill32 (l : Launch) (dC : Nat → ClassId) (dI : Nat → Nat → Nat) (n0 : Nat) (atx : Nat → Nat × Nat) (sz : Nat) (a : Nat) (ka : ClassId) (f : Nat → Int32) (v : Int32) : Met l yJ7_fill_53178 (wM yJ7_fill_53178 cJ7_fill_53178 4 none) ({ frames := 0, cells := 0, slots := 0, locals := 0 }) (va_Pc [.ref a, .int v] (fun U => U.heap.size = sz ∧ n0 ≤ sz ∧ GW n0 atx U ∧ va_P (dC, dI) classes [(a, .inl (ka, 32, .inl f))] U.heap ∧ va_K (dC, dI) classes [(ka, .int)] U ∧ va_D (fun q => n0 ≤ q) [(a, .inl (ka, 32, .inl f))])) (va_Qv (fun _ : Unit => True) (fun (_ : Unit) (t : State) => ∃ (f2 : Nat → Int32), (∀ j, j < 32 → f2 j = v) ∧ va_P (dC, dI) classes [(a, .inl (ka, 32, .inl f2))] t.heap ∧ va_K (dC, dI) classes [(ka, .int)] t ∧ va_D (va_A [(a, .inl (ka, 32, .inl f))] sz) [(a, .inl (ka, 32, .inl f2))]) (va_A [(a, .inl (ka, 32, .inl f))] sz)) 0 0 (va_A [(a, .inl (ka, 32, .inl f))] sz) := by
  refine Met.ofW (cc := cJ7_fill_53178) (maxL := 4) (ret := none) (by decide) rfl ?_
  intro p e s m args below meth c s₁ B hml hv
  obtain ⟨rfl, hsz, hn0, hG, hP, hK, hD0⟩ := hv
  have hx := B.exec
  have hb := B.bytes
  have hr := B.returns
  have hts := atoms_spec (ws := wM yJ7_fill_53178 cJ7_fill_53178 4 none) B.pre
  have hown : s.vm.findClass RJ7 = some m.cls := findClass_of_methodNamed B.named
  have hlocks := B.notSynchronized
  subst hsz
  have hD := hD0.self (sz := s.heap.size)
  have hA0 := vA_n0 hD0 hn0
  generalize hAe : va_A [(a, .inl (ka, 32, .inl f))] s.heap.size = A at hD hA0 ⊢
  have hA : ∀ q : Nat, s.heap.size ≤ q → A q := fun q h => by rw [← hAe]; exact Or.inr h
  have hS : va_S A s.heap s.heap [] := va_S.rf
  have hl := lv_entry ([.ref a, .int v]) (n := 4) (Nat.le_of_ble_eq_true rfl)
  rw [lg_entry_eq]
  generalize (lg_sl ([.ref a, .int v]) ++ List.replicate (4 - (lg_sl ([.ref a, .int v])).length) Slot.unset).toArray = ls at hl ⊢
  have hl : lv_has ls 4 [(0, .ref a), (1, .int v)] := hl
  refine lv_iconst (v := 0) hx hb dJ7_fill_53178_0 (by decide) ?_
  refine lv_istore_n (lv' := [(2, .int 0), (0, .ref a), (1, .int v)]) hx hb dJ7_fill_53178_1 rfl hl (by decide) rfl (fun ls hl => ?_)
  refine lv_aload_n hx hb dJ7_fill_53178_2 rfl (lv_at hl 1 rfl) ?_
  refine va_alen (v := 32) hx hb hK hP 0 0 rfl rfl rfl dJ7_fill_53178_3 ?_
  refine lv_istore_n (lv' := [(3, .int 32), (2, .int 0), (0, .ref a), (1, .int v)]) hx hb dJ7_fill_53178_4 rfl hl (by decide) rfl (fun ls hl => ?_)
  refine W_lp2 (I := fun (i : Nat) (g : Nat → Int32) H locs ls => (i ≤ 32) ∧ (∀ j, j < i → g j = v) ∧ va_P (dC, dI) classes [(a, .inl (ka, 32, .inl g))] H ∧ va_D A [(a, .inl (ka, 32, .inl g))] ∧ va_S A s.heap H locs ∧ lv_has ls 4 [(0, .ref a), (1, .int v), (2, .int (nI i)), (3, .int 32)]) (μ := fun (i : Nat) (g : Nat → Int32) => 32 - i) ?_ 0 f _ _ _ ⟨(by first | with_reducible assumption | omega | exact vp_in_iff.mpr (by omega) | exact vp_in_nI (by omega) (by omega) | exact ⟨by omega, by omega⟩), (fun j hj => absurd hj (Nat.not_lt_zero j)), hP, hD, hS, lv_sub hl [2, 3, 1, 0] rfl⟩
  intro i g H locs ls hI ih_1
  obtain ⟨hi, hg, hP, hD, hS, hl⟩ := hI
  refine lv_iload_n hx hb dJ7_fill_53178_5 rfl (lv_at hl 2 rfl) ?_
  refine lv_iload_n hx hb dJ7_fill_53178_6 rfl (lv_at hl 3 rfl) ?_
  refine lv_icmp_ge (tgt := 20) hx hb dJ7_fill_53178_7 (by decide) (fun c_2 => ?_) (fun c_2 => ?_)
  · skip
    have g_3 := n_ge (a := i) (b := 32) c_2 (by omega) (by omega)
    have hK9 := hK.sub (tys' := [(ka, .int)]) [0] rfl
    exact W.vret hx hb hr (fun t ht hW => ⟨⟨(), rfl, trivial, g, (fun j hj => hg j (by omega)), by rw [ht]; exact hP.sub [0] rfl, va_K.moved hW.alike hK9, hD.sub [0] (by decide) rfl⟩, hS.F ht⟩) hS.2.2 dJ7_fill_53178_20
  · skip
    have g_4 := n_nge (a := i) (b := 32) c_2 (by omega) (by omega)
    refine lv_aload_n hx hb dJ7_fill_53178_10 rfl (lv_at hl 0 rfl) ?_
    refine lv_iload_n hx hb dJ7_fill_53178_11 rfl (lv_at hl 2 rfl) ?_
    refine lv_iload_n hx hb dJ7_fill_53178_12 rfl (lv_at hl 1 rfl) ?_
    refine va_iast hx hb hK hP hD hS 0 0 rfl rfl (vp_in_nI (n := i) (by omega) (by omega)) dJ7_fill_53178_13 (fun H locs hP hD hS => ?_)
    obtain ⟨f_5, ef_5⟩ : ∃ f9, f9 = (upd g (nI i).toNatClampNeg v) := ⟨_, rfl⟩
    obtain ⟨hP, hD⟩ : s3_w (dC, dI) classes A [(a, .inl (ka, 32, .inl f_5))] H := ⟨(by rw [ef_5]; exact hP), (by rw [ef_5]; exact hD)⟩
    refine lv_iinc (v := (nI (i + 1))) (lv' := [(2, .int (nI (i + 1))), (0, .ref a), (1, .int v), (3, .int 32)]) hx hb dJ7_fill_53178_14 hl (k := 2) rfl (nI_add _ 1) (by decide) rfl (fun ls hl => ?_)
    refine lv_goto (tgt := 5) hx hb dJ7_fill_53178_17 (by decide) ?_
    exact ih_1 (i + 1) f_5 _ _ _ ⟨(by first | with_reducible assumption | omega | exact vp_in_iff.mpr (by omega) | exact vp_in_nI (by omega) (by omega) | exact ⟨by omega, by omega⟩), (fill_s hg ef_5 rfl (by omega)), hP.sub [0] rfl, hD.sub [0] (by decide) rfl, hS, lv_sub hl [1, 2, 0, 3] rfl⟩ (by omega)
set_option maxHeartbeats 4000000 in
set_option maxRecDepth 100000 in
theorem c_fillL10 (l : Launch) (dC : Nat → ClassId) (dI : Nat → Nat → Nat) (n0 : Nat) (atx : Nat → Nat × Nat) (sz : Nat) (a : Nat) (ka : ClassId) (f : Nat → Int64) (v : Int64) : Met l yJ7_fill_d0a16 (wM yJ7_fill_d0a16 cJ7_fill_d0a16 5 none) ({ frames := 0, cells := 0, slots := 0, locals := 0 }) (va_Pc [.ref a, .long v] (fun U => U.heap.size = sz ∧ n0 ≤ sz ∧ GW n0 atx U ∧ va_P (dC, dI) classes [(a, .inl (ka, 10, .inr (.inl f)))] U.heap ∧ va_K (dC, dI) classes [(ka, .long)] U ∧ va_D (fun q => n0 ≤ q) [(a, .inl (ka, 10, .inr (.inl f)))])) (va_Qv (fun _ : Unit => True) (fun (_ : Unit) (t : State) => ∃ (f2 : Nat → Int64), (∀ j, j < 10 → f2 j = v) ∧ va_P (dC, dI) classes [(a, .inl (ka, 10, .inr (.inl f2)))] t.heap ∧ va_K (dC, dI) classes [(ka, .long)] t ∧ va_D (va_A [(a, .inl (ka, 10, .inr (.inl f)))] sz) [(a, .inl (ka, 10, .inr (.inl f2)))]) (va_A [(a, .inl (ka, 10, .inr (.inl f)))] sz)) 0 0 (va_A [(a, .inl (ka, 10, .inr (.inl f)))] sz) := by
  refine Met.ofW (cc := cJ7_fill_d0a16) (maxL := 5) (ret := none) (by decide) rfl ?_
  intro p e s m args below meth c s₁ B hml hv
  obtain ⟨rfl, hsz, hn0, hG, hP, hK, hD0⟩ := hv
  have hx := B.exec
  have hb := B.bytes
  have hr := B.returns
  have hts := atoms_spec (ws := wM yJ7_fill_d0a16 cJ7_fill_d0a16 5 none) B.pre
  have hown : s.vm.findClass RJ7 = some m.cls := findClass_of_methodNamed B.named
  have hlocks := B.notSynchronized
  subst hsz
  have hD := hD0.self (sz := s.heap.size)
  have hA0 := vA_n0 hD0 hn0
  generalize hAe : va_A [(a, .inl (ka, 10, .inr (.inl f)))] s.heap.size = A at hD hA0 ⊢
  have hA : ∀ q : Nat, s.heap.size ≤ q → A q := fun q h => by rw [← hAe]; exact Or.inr h
  have hS : va_S A s.heap s.heap [] := va_S.rf
  have hl := lv_entry ([.ref a, .long v]) (n := 5) (Nat.le_of_ble_eq_true rfl)
  rw [lg_entry_eq]
  generalize (lg_sl ([.ref a, .long v]) ++ List.replicate (5 - (lg_sl ([.ref a, .long v])).length) Slot.unset).toArray = ls at hl ⊢
  have hl : lv_has ls 5 [(0, .ref a), (1, .long v)] := hl
  refine lv_iconst (v := 0) hx hb dJ7_fill_d0a16_0 (by decide) ?_
  refine lv_istore_n (lv' := [(3, .int 0), (0, .ref a), (1, .long v)]) hx hb dJ7_fill_d0a16_1 rfl hl (by decide) rfl (fun ls hl => ?_)
  refine lv_aload_n hx hb dJ7_fill_d0a16_2 rfl (lv_at hl 1 rfl) ?_
  refine va_alen (v := 10) hx hb hK hP 0 0 rfl rfl rfl dJ7_fill_d0a16_3 ?_
  refine lv_istore (lv' := [(4, .int 10), (3, .int 0), (0, .ref a), (1, .long v)]) hx hb dJ7_fill_d0a16_4 hl (by decide) rfl (fun ls hl => ?_)
  refine W_lp2 (I := fun (i : Nat) (g : Nat → Int64) H locs ls => (i ≤ 10) ∧ (∀ j, j < i → g j = v) ∧ va_P (dC, dI) classes [(a, .inl (ka, 10, .inr (.inl g)))] H ∧ va_D A [(a, .inl (ka, 10, .inr (.inl g)))] ∧ va_S A s.heap H locs ∧ lv_has ls 5 [(0, .ref a), (1, .long v), (3, .int (nI i)), (4, .int 10)]) (μ := fun (i : Nat) (g : Nat → Int64) => 10 - i) ?_ 0 f _ _ _ ⟨(by first | with_reducible assumption | omega | exact vp_in_iff.mpr (by omega) | exact vp_in_nI (by omega) (by omega) | exact ⟨by omega, by omega⟩), (fun j hj => absurd hj (Nat.not_lt_zero j)), hP, hD, hS, lv_sub hl [2, 3, 1, 0] rfl⟩
  intro i g H locs ls hI ih_1
  obtain ⟨hi, hg, hP, hD, hS, hl⟩ := hI
  refine lv_iload_n hx hb dJ7_fill_d0a16_6 rfl (lv_at hl 2 rfl) ?_
  refine lv_iload hx hb dJ7_fill_d0a16_7 (lv_at hl 3 rfl) ?_
  refine lv_icmp_ge (tgt := 22) hx hb dJ7_fill_d0a16_9 (by decide) (fun c_2 => ?_) (fun c_2 => ?_)
  · skip
    have g_3 := n_ge (a := i) (b := 10) c_2 (by omega) (by omega)
    have hK9 := hK.sub (tys' := [(ka, .long)]) [0] rfl
    exact W.vret hx hb hr (fun t ht hW => ⟨⟨(), rfl, trivial, g, (fun j hj => hg j (by omega)), by rw [ht]; exact hP.sub [0] rfl, va_K.moved hW.alike hK9, hD.sub [0] (by decide) rfl⟩, hS.F ht⟩) hS.2.2 dJ7_fill_d0a16_22
  · skip
    have g_4 := n_nge (a := i) (b := 10) c_2 (by omega) (by omega)
    refine lv_aload_n hx hb dJ7_fill_d0a16_12 rfl (lv_at hl 0 rfl) ?_
    refine lv_iload_n hx hb dJ7_fill_d0a16_13 rfl (lv_at hl 2 rfl) ?_
    refine lv_lload_n hx hb dJ7_fill_d0a16_14 rfl (lv_at hl 1 rfl) ?_
    refine va_last hx hb hK hP hD hS 0 0 rfl rfl (vp_in_nI (n := i) (by omega) (by omega)) dJ7_fill_d0a16_15 (fun H locs hP hD hS => ?_)
    obtain ⟨f_5, ef_5⟩ : ∃ f9, f9 = (vp_updL g (nI i).toNatClampNeg v) := ⟨_, rfl⟩
    obtain ⟨hP, hD⟩ : s3_w (dC, dI) classes A [(a, .inl (ka, 10, .inr (.inl f_5)))] H := ⟨(by rw [ef_5]; exact hP), (by rw [ef_5]; exact hD)⟩
    refine lv_iinc (v := (nI (i + 1))) (lv' := [(3, .int (nI (i + 1))), (0, .ref a), (1, .long v), (4, .int 10)]) hx hb dJ7_fill_d0a16_16 hl (k := 2) rfl (nI_add _ 1) (by decide) rfl (fun ls hl => ?_)
    refine lv_goto (tgt := 6) hx hb dJ7_fill_d0a16_19 (by decide) ?_
    exact ih_1 (i + 1) f_5 _ _ _ ⟨(by first | with_reducible assumption | omega | exact vp_in_iff.mpr (by omega) | exact vp_in_nI (by omega) (by omega) | exact ⟨by omega, by omega⟩), (fillL_s hg ef_5 rfl (by omega)), hP.sub [0] rfl, hD.sub [0] (by decide) rfl, hS, lv_sub hl [1, 2, 0, 3] rfl⟩ (by omega)
