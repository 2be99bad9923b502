theorem wd_1630 : Cond.fieldLink "MineAirModel$Book" 80 "MineAirModel$Book" "knots" "I" ∈ wG := wG_of 1630 (by decide +kernel) (by decide +kernel)
theorem wd_1636 : Cond.fieldLink "MineAirModel$Book" 76 "MineAirModel$Book" "names" "I" ∈ wG := wG_of 1636 (by decide +kernel) (by decide +kernel)
theorem wd_1637 : Cond.fieldLink "MineAirModel$Book" 9 "MineAirModel$Book" "knot" "[J" ∈ wG := wG_of 1637 (by decide +kernel) (by decide +kernel)
theorem wd_1639 : Cond.fieldLink "MineAirModel$Book" 15 "MineAirModel$Book" "name" "[J" ∈ wG := wG_of 1639 (by decide +kernel) (by decide +kernel)
theorem dX12_find_0 : decode cX12_find 0 = .ok (.iconst 0, 1) := by decide +kernel
theorem dX12_find_1 : decode cX12_find 1 = .ok (.istore_n 3, 1) := by decide +kernel
theorem dX12_find_2 : decode cX12_find 2 = .ok (.iload_n 3, 1) := by decide +kernel
theorem dX12_find_3 : decode cX12_find 3 = .ok (.aload_n 0, 1) := by decide +kernel
theorem dX12_find_4 : decode cX12_find 4 = .ok (.getfield 76, 3) := by decide +kernel
theorem dX12_find_7 : decode cX12_find 7 = .ok (.if_icmp .ge 22, 3) := by decide +kernel
theorem dX12_find_10 : decode cX12_find 10 = .ok (.aload_n 0, 1) := by decide +kernel
theorem dX12_find_11 : decode cX12_find 11 = .ok (.getfield 15, 3) := by decide +kernel
theorem dX12_find_14 : decode cX12_find 14 = .ok (.iload_n 3, 1) := by decide +kernel
theorem dX12_find_15 : decode cX12_find 15 = .ok (.laload, 1) := by decide +kernel
theorem dX12_find_16 : decode cX12_find 16 = .ok (.lload_n 1, 1) := by decide +kernel
theorem dX12_find_17 : decode cX12_find 17 = .ok (.lcmp, 1) := by decide +kernel
theorem dX12_find_18 : decode cX12_find 18 = .ok (.ifCond .ne 5, 3) := by decide +kernel
theorem dX12_find_21 : decode cX12_find 21 = .ok (.iload_n 3, 1) := by decide +kernel
theorem dX12_find_22 : decode cX12_find 22 = .ok (.ireturn, 1) := by decide +kernel
theorem dX12_find_23 : decode cX12_find 23 = .ok (.iinc 3 1, 3) := by decide +kernel
theorem dX12_find_26 : decode cX12_find 26 = .ok (.goto (-24), 3) := by decide +kernel
theorem dX12_find_29 : decode cX12_find 29 = .ok (.iconst (-1), 1) := by decide +kernel
theorem dX12_find_30 : decode cX12_find 30 = .ok (.ireturn, 1) := by decide +kernel
theorem dX12_knotOf_0 : decode cX12_knotOf 0 = .ok (.iconst 0, 1) := by decide +kernel
theorem dX12_knotOf_1 : decode cX12_knotOf 1 = .ok (.istore_n 3, 1) := by decide +kernel
theorem dX12_knotOf_2 : decode cX12_knotOf 2 = .ok (.iload_n 3, 1) := by decide +kernel
theorem dX12_knotOf_3 : decode cX12_knotOf 3 = .ok (.aload_n 0, 1) := by decide +kernel
theorem dX12_knotOf_4 : decode cX12_knotOf 4 = .ok (.getfield 80, 3) := by decide +kernel
theorem dX12_knotOf_7 : decode cX12_knotOf 7 = .ok (.if_icmp .ge 22, 3) := by decide +kernel
theorem dX12_knotOf_10 : decode cX12_knotOf 10 = .ok (.aload_n 0, 1) := by decide +kernel
theorem dX12_knotOf_11 : decode cX12_knotOf 11 = .ok (.getfield 9, 3) := by decide +kernel
theorem dX12_knotOf_14 : decode cX12_knotOf 14 = .ok (.iload_n 3, 1) := by decide +kernel
theorem dX12_knotOf_15 : decode cX12_knotOf 15 = .ok (.laload, 1) := by decide +kernel
theorem dX12_knotOf_16 : decode cX12_knotOf 16 = .ok (.lload_n 1, 1) := by decide +kernel
theorem dX12_knotOf_17 : decode cX12_knotOf 17 = .ok (.lcmp, 1) := by decide +kernel
theorem dX12_knotOf_18 : decode cX12_knotOf 18 = .ok (.ifCond .ne 5, 3) := by decide +kernel
theorem dX12_knotOf_21 : decode cX12_knotOf 21 = .ok (.iload_n 3, 1) := by decide +kernel
theorem dX12_knotOf_22 : decode cX12_knotOf 22 = .ok (.ireturn, 1) := by decide +kernel
theorem dX12_knotOf_23 : decode cX12_knotOf 23 = .ok (.iinc 3 1, 3) := by decide +kernel
theorem dX12_knotOf_26 : decode cX12_knotOf 26 = .ok (.goto (-24), 3) := by decide +kernel
theorem dX12_knotOf_29 : decode cX12_knotOf 29 = .ok (.iconst (-1), 1) := by decide +kernel
theorem dX12_knotOf_30 : decode cX12_knotOf 30 = .ok (.ireturn, 1) := by decide +kernel
set_option maxHeartbeats 4000000 in
set_option maxRecDepth 100000 in
theorem b_find (l : Launch) (dC : Nat → ClassId) (dI : Nat → Nat → Nat) (n0 : Nat) (atx : Nat → Nat × Nat) (sz : Nat) (bk : Nat) (nw : Nat) (nk : Nat) (nd : Nat) (np : Nat) (nf : Nat) (ne : Nat) (nn : Nat) (bk_knot : Nat) (bk_name : Nat) (bk_kind : Nat) (bk_number : Nat) (bk_from : Nat) (bk_to : Nat) (bk_hinder : Nat) (bk_size : Nat) (bk_walk : Nat) (bk_draught : Nat) (bk_doorIn : Nat) (bk_fanIn : Nat) (bk_faceIn : Nat) (bk_by : Nat) (bk_one : Nat) (bk_two : Nat) (bk_push : Nat) (bk_fall : Nat) (bk_cost : Nat) (bk_gas : Nat) (bk_need : Nat) (k_bk_name : ClassId) (f_bk_name : Nat → Int64) (wd : Int64) (hn : nn ≤ 28) : Met l yX12_find (wM yX12_find cX12_find 4 (some .int)) ({ frames := 0, cells := 0, slots := 0, locals := 0 }) (va_Pc [.ref bk, .long wd] (fun U => U.heap.size = sz ∧ n0 ≤ sz ∧ GW n0 atx U ∧ va_P (dC, dI) classes [(bk, .inr (12, [.int (nI nw), .int (nI nk), .int (nI nd), .int (nI np), .int (nI nf), .int (nI ne), .int (nI nn), .ref bk_knot, .ref bk_name, .ref bk_kind, .ref bk_number, .ref bk_from, .ref bk_to, .ref bk_hinder, .ref bk_size, .ref bk_walk, .ref bk_draught, .ref bk_doorIn, .ref bk_fanIn, .ref bk_faceIn, .ref bk_by, .ref bk_one, .ref bk_two, .ref bk_push, .ref bk_fall, .ref bk_cost, .ref bk_gas, .ref bk_need])), (bk_name, .inl (k_bk_name, 28, .inr (.inl f_bk_name)))] U.heap ∧ va_K (dC, dI) classes [(k_bk_name, .long)] U ∧ va_D (fun q => n0 ≤ q) [(bk, .inr (12, [.int (nI nw), .int (nI nk), .int (nI nd), .int (nI np), .int (nI nf), .int (nI ne), .int (nI nn), .ref bk_knot, .ref bk_name, .ref bk_kind, .ref bk_number, .ref bk_from, .ref bk_to, .ref bk_hinder, .ref bk_size, .ref bk_walk, .ref bk_draught, .ref bk_doorIn, .ref bk_fanIn, .ref bk_faceIn, .ref bk_by, .ref bk_one, .ref bk_two, .ref bk_push, .ref bk_fall, .ref bk_cost, .ref bk_gas, .ref bk_need])), (bk_name, .inl (k_bk_name, 28, .inr (.inl f_bk_name)))])) (va_Qi (fun (r : Int32) (_ : Unit) => (∃ k : Nat, k < nn ∧ r = nI k ∧ f_bk_name k = wd ∧ ∀ j, j < k → f_bk_name j ≠ wd) ∨ (r = (-1) ∧ ∀ j, j < nn → f_bk_name j ≠ wd)) (fun (_ : Unit) (t : State) => va_P (dC, dI) classes [(bk, .inr (12, [.int (nI nw), .int (nI nk), .int (nI nd), .int (nI np), .int (nI nf), .int (nI ne), .int (nI nn), .ref bk_knot, .ref bk_name, .ref bk_kind, .ref bk_number, .ref bk_from, .ref bk_to, .ref bk_hinder, .ref bk_size, .ref bk_walk, .ref bk_draught, .ref bk_doorIn, .ref bk_fanIn, .ref bk_faceIn, .ref bk_by, .ref bk_one, .ref bk_two, .ref bk_push, .ref bk_fall, .ref bk_cost, .ref bk_gas, .ref bk_need])), (bk_name, .inl (k_bk_name, 28, .inr (.inl f_bk_name)))] t.heap ∧ va_K (dC, dI) classes [(k_bk_name, .long)] t ∧ va_D (va_A [(bk, .inr (12, [.int (nI nw), .int (nI nk), .int (nI nd), .int (nI np), .int (nI nf), .int (nI ne), .int (nI nn), .ref bk_knot, .ref bk_name, .ref bk_kind, .ref bk_number, .ref bk_from, .ref bk_to, .ref bk_hinder, .ref bk_size, .ref bk_walk, .ref bk_draught, .ref bk_doorIn, .ref bk_fanIn, .ref bk_faceIn, .ref bk_by, .ref bk_one, .ref bk_two, .ref bk_push, .ref bk_fall, .ref bk_cost, .ref bk_gas, .ref bk_need])), (bk_name, .inl (k_bk_name, 28, .inr (.inl f_bk_name)))] sz) [(bk, .inr (12, [.int (nI nw), .int (nI nk), .int (nI nd), .int (nI np), .int (nI nf), .int (nI ne), .int (nI nn), .ref bk_knot, .ref bk_name, .ref bk_kind, .ref bk_number, .ref bk_from, .ref bk_to, .ref bk_hinder, .ref bk_size, .ref bk_walk, .ref bk_draught, .ref bk_doorIn, .ref bk_fanIn, .ref bk_faceIn, .ref bk_by, .ref bk_one, .ref bk_two, .ref bk_push, .ref bk_fall, .ref bk_cost, .ref bk_gas, .ref bk_need])), (bk_name, .inl (k_bk_name, 28, .inr (.inl f_bk_name)))]) (va_A [(bk, .inr (12, [.int (nI nw), .int (nI nk), .int (nI nd), .int (nI np), .int (nI nf), .int (nI ne), .int (nI nn), .ref bk_knot, .ref bk_name, .ref bk_kind, .ref bk_number, .ref bk_from, .ref bk_to, .ref bk_hinder, .ref bk_size, .ref bk_walk, .ref bk_draught, .ref bk_doorIn, .ref bk_fanIn, .ref bk_faceIn, .ref bk_by, .ref bk_one, .ref bk_two, .ref bk_push, .ref bk_fall, .ref bk_cost, .ref bk_gas, .ref bk_need])), (bk_name, .inl (k_bk_name, 28, .inr (.inl f_bk_name)))] sz)) 0 0 (va_A [(bk, .inr (12, [.int (nI nw), .int (nI nk), .int (nI nd), .int (nI np), .int (nI nf), .int (nI ne), .int (nI nn), .ref bk_knot, .ref bk_name, .ref bk_kind, .ref bk_number, .ref bk_from, .ref bk_to, .ref bk_hinder, .ref bk_size, .ref bk_walk, .ref bk_draught, .ref bk_doorIn, .ref bk_fanIn, .ref bk_faceIn, .ref bk_by, .ref bk_one, .ref bk_two, .ref bk_push, .ref bk_fall, .ref bk_cost, .ref bk_gas, .ref bk_need])), (bk_name, .inl (k_bk_name, 28, .inr (.inl f_bk_name)))] sz) := by
  refine Met.ofW (cc := cX12_find) (maxL := 4) (ret := (some .int)) (by decide) rfl ?_
  intro p e s m args below meth c s₁ B hml hv
  obtain ⟨rfl, hsz, hn0, hG, hP, hK, hD0⟩ := hv
  have hx := B.exec
  have hb := B.bytes
  have hr := B.returns
  have hts := atoms_spec (ws := wM yX12_find cX12_find 4 (some .int)) B.pre
  have hown : s.vm.findClass RX12 = some m.cls := findClass_of_methodNamed B.named
  have hlocks := B.notSynchronized
  subst hsz
  have hD := hD0.self (sz := s.heap.size)
  have hA0 := vA_n0 hD0 hn0
  generalize hAe : va_A [(bk, .inr (12, [.int (nI nw), .int (nI nk), .int (nI nd), .int (nI np), .int (nI nf), .int (nI ne), .int (nI nn), .ref bk_knot, .ref bk_name, .ref bk_kind, .ref bk_number, .ref bk_from, .ref bk_to, .ref bk_hinder, .ref bk_size, .ref bk_walk, .ref bk_draught, .ref bk_doorIn, .ref bk_fanIn, .ref bk_faceIn, .ref bk_by, .ref bk_one, .ref bk_two, .ref bk_push, .ref bk_fall, .ref bk_cost, .ref bk_gas, .ref bk_need])), (bk_name, .inl (k_bk_name, 28, .inr (.inl f_bk_name)))] s.heap.size = A at hD hA0 ⊢
  have hA : ∀ q : Nat, s.heap.size ≤ q → A q := fun q h => by rw [← hAe]; exact Or.inr h
  have hS : va_S A s.heap s.heap [] := va_S.rf
  have hl := lv_entry ([.ref bk, .long wd]) (n := 4) (Nat.le_of_ble_eq_true rfl)
  rw [lg_entry_eq]
  generalize (lg_sl ([.ref bk, .long wd]) ++ List.replicate (4 - (lg_sl ([.ref bk, .long wd])).length) Slot.unset).toArray = ls at hl ⊢
  have hl : lv_has ls 4 [(0, .ref bk), (1, .long wd)] := hl
  refine lv_iconst (v := 0) hx hb dX12_find_0 (by decide) ?_
  refine lv_istore_n (lv' := [(3, .int 0), (0, .ref bk), (1, .long wd)]) hx hb dX12_find_1 rfl hl (by decide) rfl (fun ls hl => ?_)
  refine W_lp1 (I := fun (i : Nat) H locs ls => (i ≤ nn) ∧ (∀ j, j < i → f_bk_name j ≠ wd) ∧ va_P (dC, dI) classes [(bk, .inr (12, [.int (nI nw), .int (nI nk), .int (nI nd), .int (nI np), .int (nI nf), .int (nI ne), .int (nI nn), .ref bk_knot, .ref bk_name, .ref bk_kind, .ref bk_number, .ref bk_from, .ref bk_to, .ref bk_hinder, .ref bk_size, .ref bk_walk, .ref bk_draught, .ref bk_doorIn, .ref bk_fanIn, .ref bk_faceIn, .ref bk_by, .ref bk_one, .ref bk_two, .ref bk_push, .ref bk_fall, .ref bk_cost, .ref bk_gas, .ref bk_need])), (bk_name, .inl (k_bk_name, 28, .inr (.inl f_bk_name)))] H ∧ va_D A [(bk, .inr (12, [.int (nI nw), .int (nI nk), .int (nI nd), .int (nI np), .int (nI nf), .int (nI ne), .int (nI nn), .ref bk_knot, .ref bk_name, .ref bk_kind, .ref bk_number, .ref bk_from, .ref bk_to, .ref bk_hinder, .ref bk_size, .ref bk_walk, .ref bk_draught, .ref bk_doorIn, .ref bk_fanIn, .ref bk_faceIn, .ref bk_by, .ref bk_one, .ref bk_two, .ref bk_push, .ref bk_fall, .ref bk_cost, .ref bk_gas, .ref bk_need])), (bk_name, .inl (k_bk_name, 28, .inr (.inl f_bk_name)))] ∧ va_S A s.heap H locs ∧ lv_has ls 4 [(3, .int (nI i)), (0, .ref bk), (1, .long wd)]) (μ := fun (i : Nat) => nn - i) ?_ 0 _ _ _ ⟨(by first | with_reducible assumption | omega | exact vp_in_iff.mpr (by omega) | exact vp_in_nI (by omega) (by omega) | exact ⟨by omega, by omega⟩), (fun j hj => absurd hj (Nat.not_lt_zero j)), hP, hD, hS, lv_sub hl [0, 1, 2] rfl⟩
  intro i H locs ls hI ih_1
  obtain ⟨hi, hf, hP, hD, hS, hl⟩ := hI
  refine lv_iload_n hx hb dX12_find_2 rfl (lv_at hl 0 rfl) ?_
  refine lv_aload_n hx hb dX12_find_3 rfl (lv_at hl 1 rfl) ?_
  refine va_get (D := (dC, dI)) (ci := 12) (v := .int (nI nn)) (C := RX12) (T := TX12) (N := 28) hx hb hts (fun w h => wM_c (iX12 w h)) hown hK hP 0 rfl rfl 6 (by decide) (hts _ (wM_c wd_1636)) (fun _ h9 => h9) rfl dX12_find_4 ?_
  refine lv_icmp_ge (tgt := 29) hx hb dX12_find_7 (by decide) (fun c_2 => ?_) (fun c_2 => ?_)
  · skip
    have g_3 := n_ge (a := i) (b := nn) c_2 (by omega) (by omega)
    refine lv_iconst (v := (-1)) hx hb dX12_find_29 (by decide) ?_
    have hK9 := hK.sub (tys' := [(k_bk_name, .long)]) [0] rfl
    exact W.iret (v := (-1)) hx hb hr (fun t ht hW => ⟨⟨(-1), (), rfl, (Or.inr ⟨rfl, fun j hj => hf j (by omega)⟩), by rw [ht]; exact hP.sub [0, 1] rfl, va_K.moved hW.alike hK9, hD.sub [0, 1] (by decide) rfl⟩, hS.F ht⟩) hS.2.2 dX12_find_30
  · skip
    have g_4 := n_nge (a := i) (b := nn) c_2 (by omega) (by omega)
    refine lv_aload_n hx hb dX12_find_10 rfl (lv_at hl 1 rfl) ?_
    refine va_get (D := (dC, dI)) (ci := 12) (v := .ref bk_name) (C := RX12) (T := TX12) (N := 28) hx hb hts (fun w h => wM_c (iX12 w h)) hown hK hP 0 rfl rfl 8 (by decide) (hts _ (wM_c wd_1639)) (fun _ h9 => h9) rfl dX12_find_11 ?_
    refine lv_iload_n hx hb dX12_find_14 rfl (lv_at hl 0 rfl) ?_
    refine va_lald hx hb hK hP 1 0 rfl rfl (vp_in_nI (n := i) (by omega) (by omega)) dX12_find_15 ?_
    refine lv_topl (fun v_5 ev_5 => ?_)
    have nv_5 : v_5 = f_bk_name i := by rw [ev_5]; exact congrArg _ (nI_clamp (by omega))
    refine lv_lload_n hx hb dX12_find_16 rfl (lv_at hl 2 rfl) ?_
    refine W.lcmp hx hb dX12_find_17 ?_
    refine lv_topi (fun v_6 ev_6 => ?_)
    refine lv_if_ne (tgt := 23) hx hb dX12_find_18 (by decide) (fun c_7 => ?_) (fun c_7 => ?_)
    · skip
      have g_8 : ¬ v_5 = wd := fun q9 => c_7 (by rw [ev_6]; exact (lg_cmp_eq v_5 wd).mpr q9)
      refine lv_iinc (v := (nI (i + 1))) (lv' := [(3, .int (nI (i + 1))), (0, .ref bk), (1, .long wd)]) hx hb dX12_find_23 hl (k := 0) rfl (nI_add _ 1) (by decide) rfl (fun ls hl => ?_)
      refine lv_goto (tgt := 2) hx hb dX12_find_26 (by decide) ?_
      exact ih_1 (i + 1) _ _ _ ⟨(by first | with_reducible assumption | omega | exact vp_in_iff.mpr (by omega) | exact vp_in_nI (by omega) (by omega) | exact ⟨by omega, by omega⟩), (lt_s hf (fun q9 => g_8 (nv_5.trans q9))), hP.sub [0, 1] rfl, hD.sub [0, 1] (by decide) rfl, hS, lv_sub hl [0, 1, 2] rfl⟩ (by omega)
    · skip
      have g_9 : v_5 = wd := (lg_cmp_eq v_5 wd).mp (by rw [← ev_6]; exact c_7)
      refine lv_iload_n hx hb dX12_find_21 rfl (lv_at hl 0 rfl) ?_
      have hK9 := hK.sub (tys' := [(k_bk_name, .long)]) [0] rfl
      exact W.iret (v := (nI i)) hx hb hr (fun t ht hW => ⟨⟨(nI i), (), rfl, (Or.inl ⟨i, by omega, rfl, nv_5.symm.trans g_9, hf⟩), by rw [ht]; exact hP.sub [0, 1] rfl, va_K.moved hW.alike hK9, hD.sub [0, 1] (by decide) rfl⟩, hS.F ht⟩) hS.2.2 dX12_find_22
set_option maxHeartbeats 4000000 in
set_option maxRecDepth 100000 in
theorem b_knotOf (l : Launch) (dC : Nat → ClassId) (dI : Nat → Nat → Nat) (n0 : Nat) (atx : Nat → Nat × Nat) (sz : Nat) (bk : Nat) (nw : Nat) (nk : Nat) (nd : Nat) (np : Nat) (nf : Nat) (ne : Nat) (nn : Nat) (bk_knot : Nat) (bk_name : Nat) (bk_kind : Nat) (bk_number : Nat) (bk_from : Nat) (bk_to : Nat) (bk_hinder : Nat) (bk_size : Nat) (bk_walk : Nat) (bk_draught : Nat) (bk_doorIn : Nat) (bk_fanIn : Nat) (bk_faceIn : Nat) (bk_by : Nat) (bk_one : Nat) (bk_two : Nat) (bk_push : Nat) (bk_fall : Nat) (bk_cost : Nat) (bk_gas : Nat) (bk_need : Nat) (k_bk_knot : ClassId) (f_bk_knot : Nat → Int64) (wd : Int64) (hn : nk ≤ 10) : Met l yX12_knotOf (wM yX12_knotOf cX12_knotOf 4 (some .int)) ({ frames := 0, cells := 0, slots := 0, locals := 0 }) (va_Pc [.ref bk, .long wd] (fun U => U.heap.size = sz ∧ n0 ≤ sz ∧ GW n0 atx U ∧ va_P (dC, dI) classes [(bk, .inr (12, [.int (nI nw), .int (nI nk), .int (nI nd), .int (nI np), .int (nI nf), .int (nI ne), .int (nI nn), .ref bk_knot, .ref bk_name, .ref bk_kind, .ref bk_number, .ref bk_from, .ref bk_to, .ref bk_hinder, .ref bk_size, .ref bk_walk, .ref bk_draught, .ref bk_doorIn, .ref bk_fanIn, .ref bk_faceIn, .ref bk_by, .ref bk_one, .ref bk_two, .ref bk_push, .ref bk_fall, .ref bk_cost, .ref bk_gas, .ref bk_need])), (bk_knot, .inl (k_bk_knot, 10, .inr (.inl f_bk_knot)))] U.heap ∧ va_K (dC, dI) classes [(k_bk_knot, .long)] U ∧ va_D (fun q => n0 ≤ q) [(bk, .inr (12, [.int (nI nw), .int (nI nk), .int (nI nd), .int (nI np), .int (nI nf), .int (nI ne), .int (nI nn), .ref bk_knot, .ref bk_name, .ref bk_kind, .ref bk_number, .ref bk_from, .ref bk_to, .ref bk_hinder, .ref bk_size, .ref bk_walk, .ref bk_draught, .ref bk_doorIn, .ref bk_fanIn, .ref bk_faceIn, .ref bk_by, .ref bk_one, .ref bk_two, .ref bk_push, .ref bk_fall, .ref bk_cost, .ref bk_gas, .ref bk_need])), (bk_knot, .inl (k_bk_knot, 10, .inr (.inl f_bk_knot)))])) (va_Qi (fun (r : Int32) (_ : Unit) => (∃ k : Nat, k < nk ∧ r = nI k ∧ f_bk_knot k = wd ∧ ∀ j, j < k → f_bk_knot j ≠ wd) ∨ (r = (-1) ∧ ∀ j, j < nk → f_bk_knot j ≠ wd)) (fun (_ : Unit) (t : State) => va_P (dC, dI) classes [(bk, .inr (12, [.int (nI nw), .int (nI nk), .int (nI nd), .int (nI np), .int (nI nf), .int (nI ne), .int (nI nn), .ref bk_knot, .ref bk_name, .ref bk_kind, .ref bk_number, .ref bk_from, .ref bk_to, .ref bk_hinder, .ref bk_size, .ref bk_walk, .ref bk_draught, .ref bk_doorIn, .ref bk_fanIn, .ref bk_faceIn, .ref bk_by, .ref bk_one, .ref bk_two, .ref bk_push, .ref bk_fall, .ref bk_cost, .ref bk_gas, .ref bk_need])), (bk_knot, .inl (k_bk_knot, 10, .inr (.inl f_bk_knot)))] t.heap ∧ va_K (dC, dI) classes [(k_bk_knot, .long)] t ∧ va_D (va_A [(bk, .inr (12, [.int (nI nw), .int (nI nk), .int (nI nd), .int (nI np), .int (nI nf), .int (nI ne), .int (nI nn), .ref bk_knot, .ref bk_name, .ref bk_kind, .ref bk_number, .ref bk_from, .ref bk_to, .ref bk_hinder, .ref bk_size, .ref bk_walk, .ref bk_draught, .ref bk_doorIn, .ref bk_fanIn, .ref bk_faceIn, .ref bk_by, .ref bk_one, .ref bk_two, .ref bk_push, .ref bk_fall, .ref bk_cost, .ref bk_gas, .ref bk_need])), (bk_knot, .inl (k_bk_knot, 10, .inr (.inl f_bk_knot)))] sz) [(bk, .inr (12, [.int (nI nw), .int (nI nk), .int (nI nd), .int (nI np), .int (nI nf), .int (nI ne), .int (nI nn), .ref bk_knot, .ref bk_name, .ref bk_kind, .ref bk_number, .ref bk_from, .ref bk_to, .ref bk_hinder, .ref bk_size, .ref bk_walk, .ref bk_draught, .ref bk_doorIn, .ref bk_fanIn, .ref bk_faceIn, .ref bk_by, .ref bk_one, .ref bk_two, .ref bk_push, .ref bk_fall, .ref bk_cost, .ref bk_gas, .ref bk_need])), (bk_knot, .inl (k_bk_knot, 10, .inr (.inl f_bk_knot)))]) (va_A [(bk, .inr (12, [.int (nI nw), .int (nI nk), .int (nI nd), .int (nI np), .int (nI nf), .int (nI ne), .int (nI nn), .ref bk_knot, .ref bk_name, .ref bk_kind, .ref bk_number, .ref bk_from, .ref bk_to, .ref bk_hinder, .ref bk_size, .ref bk_walk, .ref bk_draught, .ref bk_doorIn, .ref bk_fanIn, .ref bk_faceIn, .ref bk_by, .ref bk_one, .ref bk_two, .ref bk_push, .ref bk_fall, .ref bk_cost, .ref bk_gas, .ref bk_need])), (bk_knot, .inl (k_bk_knot, 10, .inr (.inl f_bk_knot)))] sz)) 0 0 (va_A [(bk, .inr (12, [.int (nI nw), .int (nI nk), .int (nI nd), .int (nI np), .int (nI nf), .int (nI ne), .int (nI nn), .ref bk_knot, .ref bk_name, .ref bk_kind, .ref bk_number, .ref bk_from, .ref bk_to, .ref bk_hinder, .ref bk_size, .ref bk_walk, .ref bk_draught, .ref bk_doorIn, .ref bk_fanIn, .ref bk_faceIn, .ref bk_by, .ref bk_one, .ref bk_two, .ref bk_push, .ref bk_fall, .ref bk_cost, .ref bk_gas, .ref bk_need])), (bk_knot, .inl (k_bk_knot, 10, .inr (.inl f_bk_knot)))] sz) := by
  refine Met.ofW (cc := cX12_knotOf) (maxL := 4) (ret := (some .int)) (by decide) rfl ?_
  intro p e s m args below meth c s₁ B hml hv
  obtain ⟨rfl, hsz, hn0, hG, hP, hK, hD0⟩ := hv
  have hx := B.exec
  have hb := B.bytes
  have hr := B.returns
  have hts := atoms_spec (ws := wM yX12_knotOf cX12_knotOf 4 (some .int)) B.pre
  have hown : s.vm.findClass RX12 = some m.cls := findClass_of_methodNamed B.named
  have hlocks := B.notSynchronized
  subst hsz
  have hD := hD0.self (sz := s.heap.size)
  have hA0 := vA_n0 hD0 hn0
  generalize hAe : va_A [(bk, .inr (12, [.int (nI nw), .int (nI nk), .int (nI nd), .int (nI np), .int (nI nf), .int (nI ne), .int (nI nn), .ref bk_knot, .ref bk_name, .ref bk_kind, .ref bk_number, .ref bk_from, .ref bk_to, .ref bk_hinder, .ref bk_size, .ref bk_walk, .ref bk_draught, .ref bk_doorIn, .ref bk_fanIn, .ref bk_faceIn, .ref bk_by, .ref bk_one, .ref bk_two, .ref bk_push, .ref bk_fall, .ref bk_cost, .ref bk_gas, .ref bk_need])), (bk_knot, .inl (k_bk_knot, 10, .inr (.inl f_bk_knot)))] s.heap.size = A at hD hA0 ⊢
  have hA : ∀ q : Nat, s.heap.size ≤ q → A q := fun q h => by rw [← hAe]; exact Or.inr h
  have hS : va_S A s.heap s.heap [] := va_S.rf
  have hl := lv_entry ([.ref bk, .long wd]) (n := 4) (Nat.le_of_ble_eq_true rfl)
  rw [lg_entry_eq]
  generalize (lg_sl ([.ref bk, .long wd]) ++ List.replicate (4 - (lg_sl ([.ref bk, .long wd])).length) Slot.unset).toArray = ls at hl ⊢
  have hl : lv_has ls 4 [(0, .ref bk), (1, .long wd)] := hl
  refine lv_iconst (v := 0) hx hb dX12_knotOf_0 (by decide) ?_
  refine lv_istore_n (lv' := [(3, .int 0), (0, .ref bk), (1, .long wd)]) hx hb dX12_knotOf_1 rfl hl (by decide) rfl (fun ls hl => ?_)
  refine W_lp1 (I := fun (i : Nat) H locs ls => (i ≤ nk) ∧ (∀ j, j < i → f_bk_knot j ≠ wd) ∧ va_P (dC, dI) classes [(bk, .inr (12, [.int (nI nw), .int (nI nk), .int (nI nd), .int (nI np), .int (nI nf), .int (nI ne), .int (nI nn), .ref bk_knot, .ref bk_name, .ref bk_kind, .ref bk_number, .ref bk_from, .ref bk_to, .ref bk_hinder, .ref bk_size, .ref bk_walk, .ref bk_draught, .ref bk_doorIn, .ref bk_fanIn, .ref bk_faceIn, .ref bk_by, .ref bk_one, .ref bk_two, .ref bk_push, .ref bk_fall, .ref bk_cost, .ref bk_gas, .ref bk_need])), (bk_knot, .inl (k_bk_knot, 10, .inr (.inl f_bk_knot)))] H ∧ va_D A [(bk, .inr (12, [.int (nI nw), .int (nI nk), .int (nI nd), .int (nI np), .int (nI nf), .int (nI ne), .int (nI nn), .ref bk_knot, .ref bk_name, .ref bk_kind, .ref bk_number, .ref bk_from, .ref bk_to, .ref bk_hinder, .ref bk_size, .ref bk_walk, .ref bk_draught, .ref bk_doorIn, .ref bk_fanIn, .ref bk_faceIn, .ref bk_by, .ref bk_one, .ref bk_two, .ref bk_push, .ref bk_fall, .ref bk_cost, .ref bk_gas, .ref bk_need])), (bk_knot, .inl (k_bk_knot, 10, .inr (.inl f_bk_knot)))] ∧ va_S A s.heap H locs ∧ lv_has ls 4 [(3, .int (nI i)), (0, .ref bk), (1, .long wd)]) (μ := fun (i : Nat) => nk - i) ?_ 0 _ _ _ ⟨(by first | with_reducible assumption | omega | exact vp_in_iff.mpr (by omega) | exact vp_in_nI (by omega) (by omega) | exact ⟨by omega, by omega⟩), (fun j hj => absurd hj (Nat.not_lt_zero j)), hP, hD, hS, lv_sub hl [0, 1, 2] rfl⟩
  intro i H locs ls hI ih_1
  obtain ⟨hi, hf, hP, hD, hS, hl⟩ := hI
  refine lv_iload_n hx hb dX12_knotOf_2 rfl (lv_at hl 0 rfl) ?_
  refine lv_aload_n hx hb dX12_knotOf_3 rfl (lv_at hl 1 rfl) ?_
  refine va_get (D := (dC, dI)) (ci := 12) (v := .int (nI nk)) (C := RX12) (T := TX12) (N := 28) hx hb hts (fun w h => wM_c (iX12 w h)) hown hK hP 0 rfl rfl 1 (by decide) (hts _ (wM_c wd_1630)) (fun _ h9 => h9) rfl dX12_knotOf_4 ?_
  refine lv_icmp_ge (tgt := 29) hx hb dX12_knotOf_7 (by decide) (fun c_2 => ?_) (fun c_2 => ?_)
  · skip
    have g_3 := n_ge (a := i) (b := nk) c_2 (by omega) (by omega)
    refine lv_iconst (v := (-1)) hx hb dX12_knotOf_29 (by decide) ?_
    have hK9 := hK.sub (tys' := [(k_bk_knot, .long)]) [0] rfl
    exact W.iret (v := (-1)) hx hb hr (fun t ht hW => ⟨⟨(-1), (), rfl, (Or.inr ⟨rfl, fun j hj => hf j (by omega)⟩), by rw [ht]; exact hP.sub [0, 1] rfl, va_K.moved hW.alike hK9, hD.sub [0, 1] (by decide) rfl⟩, hS.F ht⟩) hS.2.2 dX12_knotOf_30
  · skip
    have g_4 := n_nge (a := i) (b := nk) c_2 (by omega) (by omega)
    refine lv_aload_n hx hb dX12_knotOf_10 rfl (lv_at hl 1 rfl) ?_
    refine va_get (D := (dC, dI)) (ci := 12) (v := .ref bk_knot) (C := RX12) (T := TX12) (N := 28) hx hb hts (fun w h => wM_c (iX12 w h)) hown hK hP 0 rfl rfl 7 (by decide) (hts _ (wM_c wd_1637)) (fun _ h9 => h9) rfl dX12_knotOf_11 ?_
    refine lv_iload_n hx hb dX12_knotOf_14 rfl (lv_at hl 0 rfl) ?_
    refine va_lald hx hb hK hP 1 0 rfl rfl (vp_in_nI (n := i) (by omega) (by omega)) dX12_knotOf_15 ?_
    refine lv_topl (fun v_5 ev_5 => ?_)
    have nv_5 : v_5 = f_bk_knot i := by rw [ev_5]; exact congrArg _ (nI_clamp (by omega))
    refine lv_lload_n hx hb dX12_knotOf_16 rfl (lv_at hl 2 rfl) ?_
    refine W.lcmp hx hb dX12_knotOf_17 ?_
    refine lv_topi (fun v_6 ev_6 => ?_)
    refine lv_if_ne (tgt := 23) hx hb dX12_knotOf_18 (by decide) (fun c_7 => ?_) (fun c_7 => ?_)
    · skip
      have g_8 : ¬ v_5 = wd := fun q9 => c_7 (by rw [ev_6]; exact (lg_cmp_eq v_5 wd).mpr q9)
      refine lv_iinc (v := (nI (i + 1))) (lv' := [(3, .int (nI (i + 1))), (0, .ref bk), (1, .long wd)]) hx hb dX12_knotOf_23 hl (k := 0) rfl (nI_add _ 1) (by decide) rfl (fun ls hl => ?_)
      refine lv_goto (tgt := 2) hx hb dX12_knotOf_26 (by decide) ?_
      exact ih_1 (i + 1) _ _ _ ⟨(by first | with_reducible assumption | omega | exact vp_in_iff.mpr (by omega) | exact vp_in_nI (by omega) (by omega) | exact ⟨by omega, by omega⟩), (lt_s hf (fun q9 => g_8 (nv_5.trans q9))), hP.sub [0, 1] rfl, hD.sub [0, 1] (by decide) rfl, hS, lv_sub hl [0, 1, 2] rfl⟩ (by omega)
    · skip
      have g_9 : v_5 = wd := (lg_cmp_eq v_5 wd).mp (by rw [← ev_6]; exact c_7)
      refine lv_iload_n hx hb dX12_knotOf_21 rfl (lv_at hl 0 rfl) ?_
      have hK9 := hK.sub (tys' := [(k_bk_knot, .long)]) [0] rfl
      exact W.iret (v := (nI i)) hx hb hr (fun t ht hW => ⟨⟨(nI i), (), rfl, (Or.inl ⟨i, by omega, rfl, nv_5.symm.trans g_9, hf⟩), by rw [ht]; exact hP.sub [0, 1] rfl, va_K.moved hW.alike hK9, hD.sub [0, 1] (by decide) rfl⟩, hS.F ht⟩) hS.2.2 dX12_knotOf_22
