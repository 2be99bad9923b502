theorem wd_117 : Cond.initialized "MineAir$Reader" ∈ wG := wG_of 117 (by decide +kernel) (by decide +kernel)
theorem wd_333 : Cond.fieldLink "MineAir$Reader" 9 "MineAir$Reader" "tape" "[I" ∈ wG := wG_of 333 (by decide +kernel) (by decide +kernel)
theorem wd_335 : Cond.fieldLink "MineAir$Reader" 32 "MineAir$Reader" "fed" "I" ∈ wG := wG_of 335 (by decide +kernel) (by decide +kernel)
theorem wd_711 : Cond.methodLink "MineAir" 83 (⟨"MineAir$Reader", "append", "(I)V"⟩ : MethodName) ∈ wG := wG_of 711 (by decide +kernel) (by decide +kernel)
theorem wd_712 : Cond.instanceMethod (⟨"MineAir$Reader", "append", "(I)V"⟩ : MethodName) ∈ wG := wG_of 712 (by decide +kernel) (by decide +kernel)
theorem wd_713 : Cond.selects "MineAir$Reader" (⟨"MineAir$Reader", "append", "(I)V"⟩ : MethodName) (⟨"MineAir$Reader", "append", "(I)V"⟩ : MethodName) ∈ wG := wG_of 713 (by decide +kernel) (by decide +kernel)
theorem wd_714 : Cond.code (⟨"MineAir$Reader", "append", "(I)V"⟩ : MethodName) prog_9_method_2_code 3 (Option.none : Option Jvm.ClassFile.FieldType) ∈ wG := wG_of 714 (by decide +kernel) (by decide +kernel)
theorem dX11_feed_0 : decode cX11_feed 0 = .ok (.aload_n 0, 1) := by decide +kernel
theorem dX11_feed_1 : decode cX11_feed 1 = .ok (.getfield 24, 3) := by decide +kernel
theorem dX11_feed_4 : decode cX11_feed 4 = .ok (.getfield 79, 3) := by decide +kernel
theorem dX11_feed_7 : decode cX11_feed 7 = .ok (.bipush 20, 2) := by decide +kernel
theorem dX11_feed_9 : decode cX11_feed 9 = .ok (.iadd, 1) := by decide +kernel
theorem dX11_feed_10 : decode cX11_feed 10 = .ok (.sipush 600, 3) := by decide +kernel
theorem dX11_feed_13 : decode cX11_feed 13 = .ok (.if_icmp .le 5, 3) := by decide +kernel
theorem dX11_feed_18 : decode cX11_feed 18 = .ok (.aload_n 0, 1) := by decide +kernel
theorem dX11_feed_19 : decode cX11_feed 19 = .ok (.getfield 24, 3) := by decide +kernel
theorem dX11_feed_22 : decode cX11_feed 22 = .ok (.iload_n 1, 1) := by decide +kernel
theorem dX11_feed_23 : decode cX11_feed 23 = .ok (.invokevirtual 83, 3) := by decide +kernel
theorem dX11_feed_26 : decode cX11_feed 26 = .ok (.aload_n 0, 1) := by decide +kernel
theorem dX11_feed_27 : decode cX11_feed 27 = .ok (.getfield 24, 3) := by decide +kernel
theorem dX11_feed_30 : decode cX11_feed 30 = .ok (.iload_n 2, 1) := by decide +kernel
theorem dX11_feed_31 : decode cX11_feed 31 = .ok (.invokevirtual 83, 3) := by decide +kernel
theorem dX11_feed_34 : decode cX11_feed 34 = .ok (.aload_n 0, 1) := by decide +kernel
theorem dX11_feed_35 : decode cX11_feed 35 = .ok (.getfield 24, 3) := by decide +kernel
theorem dX11_feed_38 : decode cX11_feed 38 = .ok (.iload_n 3, 1) := by decide +kernel
theorem dX11_feed_39 : decode cX11_feed 39 = .ok (.invokevirtual 83, 3) := by decide +kernel
theorem dX11_feed_42 : decode cX11_feed 42 = .ok (.aload_n 0, 1) := by decide +kernel
theorem dX11_feed_43 : decode cX11_feed 43 = .ok (.getfield 24, 3) := by decide +kernel
theorem dX11_feed_46 : decode cX11_feed 46 = .ok (.iload 4, 2) := by decide +kernel
theorem dX11_feed_48 : decode cX11_feed 48 = .ok (.invokevirtual 83, 3) := by decide +kernel
theorem dX11_feed_51 : decode cX11_feed 51 = .ok (.aload_n 0, 1) := by decide +kernel
theorem dX11_feed_52 : decode cX11_feed 52 = .ok (.getfield 24, 3) := by decide +kernel
theorem dX11_feed_55 : decode cX11_feed 55 = .ok (.iload 5, 2) := by decide +kernel
theorem dX11_feed_57 : decode cX11_feed 57 = .ok (.invokevirtual 83, 3) := by decide +kernel
theorem dX11_feed_60 : decode cX11_feed 60 = .ok (.aload_n 0, 1) := by decide +kernel
theorem dX11_feed_61 : decode cX11_feed 61 = .ok (.getfield 24, 3) := by decide +kernel
theorem dX11_feed_64 : decode cX11_feed 64 = .ok (.getfield 79, 3) := by decide +kernel
theorem dX11_feed_67 : decode cX11_feed 67 = .ok (.ireturn, 1) := by decide +kernel
theorem dX7_append_0 : decode cX7_append 0 = .ok (.bipush 24, 2) := by decide +kernel
theorem dX7_append_2 : decode cX7_append 2 = .ok (.istore_n 2, 1) := by decide +kernel
theorem dX7_append_3 : decode cX7_append 3 = .ok (.iload_n 2, 1) := by decide +kernel
theorem dX7_append_4 : decode cX7_append 4 = .ok (.ifCond .lt 45, 3) := by decide +kernel
theorem dX7_append_7 : decode cX7_append 7 = .ok (.aload_n 0, 1) := by decide +kernel
theorem dX7_append_8 : decode cX7_append 8 = .ok (.getfield 32, 3) := by decide +kernel
theorem dX7_append_11 : decode cX7_append 11 = .ok (.sipush 600, 3) := by decide +kernel
theorem dX7_append_14 : decode cX7_append 14 = .ok (.if_icmp .ge 29, 3) := by decide +kernel
theorem dX7_append_17 : decode cX7_append 17 = .ok (.aload_n 0, 1) := by decide +kernel
theorem dX7_append_18 : decode cX7_append 18 = .ok (.getfield 9, 3) := by decide +kernel
theorem dX7_append_21 : decode cX7_append 21 = .ok (.aload_n 0, 1) := by decide +kernel
theorem dX7_append_22 : decode cX7_append 22 = .ok (.getfield 32, 3) := by decide +kernel
theorem dX7_append_25 : decode cX7_append 25 = .ok (.iload_n 1, 1) := by decide +kernel
theorem dX7_append_26 : decode cX7_append 26 = .ok (.iload_n 2, 1) := by decide +kernel
theorem dX7_append_27 : decode cX7_append 27 = .ok (.ishr, 1) := by decide +kernel
theorem dX7_append_28 : decode cX7_append 28 = .ok (.sipush 255, 3) := by decide +kernel
theorem dX7_append_31 : decode cX7_append 31 = .ok (.iand, 1) := by decide +kernel
theorem dX7_append_32 : decode cX7_append 32 = .ok (.iastore, 1) := by decide +kernel
theorem dX7_append_33 : decode cX7_append 33 = .ok (.aload_n 0, 1) := by decide +kernel
theorem dX7_append_34 : decode cX7_append 34 = .ok (.dup, 1) := by decide +kernel
theorem dX7_append_35 : decode cX7_append 35 = .ok (.getfield 32, 3) := by decide +kernel
theorem dX7_append_38 : decode cX7_append 38 = .ok (.iconst 1, 1) := by decide +kernel
theorem dX7_append_39 : decode cX7_append 39 = .ok (.iadd, 1) := by decide +kernel
theorem dX7_append_40 : decode cX7_append 40 = .ok (.putfield 32, 3) := by decide +kernel
theorem dX7_append_43 : decode cX7_append 43 = .ok (.iinc 2 (-8), 3) := by decide +kernel
theorem dX7_append_46 : decode cX7_append 46 = .ok (.goto (-43), 3) := by decide +kernel
theorem dX7_append_49 : decode cX7_append 49 = .ok (.return_, 1) := by decide +kernel
set_option maxHeartbeats 4000000 in
set_option maxRecDepth 100000 in
theorem c_append (l : Launch) (dC : Nat → ClassId) (dI : Nat → Nat → Nat) (n0 sz : Nat) (rd : Nat) (rd_tape : Nat) (i1 : Int32) (i2 : Int32) (dr : Nat) (rd_names : Nat) (rd_nameKind : Nat) (rd_nameNumber : Nat) (i3 : Int32) (rd_knotNames : Nat) (i4 : Int32) (i5 : Int32) (i6 : Int32) (i7 : Int32) (i8 : Int64) (n : Nat) (kt : ClassId) (f : Nat → Int32) (four : Int32) (hn : n ≤ 596) : Met l yX7_append (wM yX7_append cX7_append 3 none) ({ frames := 0, cells := 0, slots := 0, locals := 0 }) (va_Pc [.ref rd, .int four] (fun U => U.heap.size = sz ∧ n0 ≤ sz ∧ GW n0 U ∧ va_P (dC, dI) classes [(rd, .inr (7, [.ref rd_tape, .int (nI n), .int i1, .int i2, .ref dr, .ref rd_names, .ref rd_nameKind, .ref rd_nameNumber, .int i3, .ref rd_knotNames, .int i4, .int i5, .int i6, .int i7, .long i8])), (rd_tape, .inl (kt, 600, .inl f))] U.heap ∧ va_K (dC, dI) classes [(kt, .int)] U ∧ va_D (fun q => n0 ≤ q) [(rd, .inr (7, [.ref rd_tape, .int (nI n), .int i1, .int i2, .ref dr, .ref rd_names, .ref rd_nameKind, .ref rd_nameNumber, .int i3, .ref rd_knotNames, .int i4, .int i5, .int i6, .int i7, .long i8])), (rd_tape, .inl (kt, 600, .inl f))])) (va_Qv (fun _ : Unit => True) (fun (_ : Unit) (t : State) => ∃ (f2 : Nat → Int32), va_P (dC, dI) classes [(rd, .inr (7, [.ref rd_tape, .int (nI (n + 4)), .int i1, .int i2, .ref dr, .ref rd_names, .ref rd_nameKind, .ref rd_nameNumber, .int i3, .ref rd_knotNames, .int i4, .int i5, .int i6, .int i7, .long i8])), (rd_tape, .inl (kt, 600, .inl f2))] t.heap ∧ va_K (dC, dI) classes [(kt, .int)] t ∧ va_D (va_A [(rd, .inr (7, [.ref rd_tape, .int (nI n), .int i1, .int i2, .ref dr, .ref rd_names, .ref rd_nameKind, .ref rd_nameNumber, .int i3, .ref rd_knotNames, .int i4, .int i5, .int i6, .int i7, .long i8])), (rd_tape, .inl (kt, 600, .inl f))] sz) [(rd, .inr (7, [.ref rd_tape, .int (nI (n + 4)), .int i1, .int i2, .ref dr, .ref rd_names, .ref rd_nameKind, .ref rd_nameNumber, .int i3, .ref rd_knotNames, .int i4, .int i5, .int i6, .int i7, .long i8])), (rd_tape, .inl (kt, 600, .inl f2))]) (va_A [(rd, .inr (7, [.ref rd_tape, .int (nI n), .int i1, .int i2, .ref dr, .ref rd_names, .ref rd_nameKind, .ref rd_nameNumber, .int i3, .ref rd_knotNames, .int i4, .int i5, .int i6, .int i7, .long i8])), (rd_tape, .inl (kt, 600, .inl f))] sz)) 0 0 (va_A [(rd, .inr (7, [.ref rd_tape, .int (nI n), .int i1, .int i2, .ref dr, .ref rd_names, .ref rd_nameKind, .ref rd_nameNumber, .int i3, .ref rd_knotNames, .int i4, .int i5, .int i6, .int i7, .long i8])), (rd_tape, .inl (kt, 600, .inl f))] sz) := by
  refine Met.ofW (cc := cX7_append) (maxL := 3) (ret := none) (by decide) rfl ?_
  intro p e s m args below meth c s₁ B hml hv
  obtain ⟨rfl, hsz, hn0, hG, hP, hK, hD0⟩ := hv
  have hx := B.exec
  have hb := B.bytes
  have hr := B.returns
  have hts := atoms_spec (ws := wM yX7_append cX7_append 3 none) B.pre
  have hown : s.vm.findClass RX7 = some m.cls := findClass_of_methodNamed B.named
  have hlocks := B.notSynchronized
  subst hsz
  have hD := hD0.self (sz := s.heap.size)
  have hA0 := vA_n0 hD0 hn0
  generalize hAe : va_A [(rd, .inr (7, [.ref rd_tape, .int (nI n), .int i1, .int i2, .ref dr, .ref rd_names, .ref rd_nameKind, .ref rd_nameNumber, .int i3, .ref rd_knotNames, .int i4, .int i5, .int i6, .int i7, .long i8])), (rd_tape, .inl (kt, 600, .inl f))] s.heap.size = A at hD hA0 ⊢
  have hA : ∀ q : Nat, s.heap.size ≤ q → A q := fun q h => by rw [← hAe]; exact Or.inr h
  have hS : va_S A s.heap s.heap [] := va_S.rf
  have hl := lv_entry ([.ref rd, .int four]) (n := 3) (Nat.le_of_ble_eq_true rfl)
  rw [lg_entry_eq]
  generalize (lg_sl ([.ref rd, .int four]) ++ List.replicate (3 - (lg_sl ([.ref rd, .int four])).length) Slot.unset).toArray = ls at hl ⊢
  have hl : lv_has ls 3 [(0, .ref rd), (1, .int four)] := hl
  refine lv_bipush (v := 24) hx hb dX7_append_0 (by decide) ?_
  refine lv_istore_n (lv' := [(2, .int 24), (0, .ref rd), (1, .int four)]) hx hb dX7_append_2 rfl hl (by decide) rfl (fun ls hl => ?_)
  refine lv_iload_n hx hb dX7_append_3 rfl (lv_at hl 0 rfl) ?_
  refine lv_if_lt (tgt := 49) hx hb dX7_append_4 (by decide) (fun c_1 => ?_) (fun c_1 => ?_)
  · exact absurd c_1 (by decide)
  refine lv_aload_n hx hb dX7_append_7 rfl (lv_at hl 1 rfl) ?_
  refine va_get (D := (dC, dI)) (ci := 7) (v := .int (nI n)) (C := RX7) (T := TX7) (N := 15) hx hb hts (fun w h => wM_c (iX7 w h)) hown hK hP 0 rfl rfl 1 (by decide) (hts _ (wM_c wd_335)) (fun _ h9 => h9) rfl dX7_append_8 ?_
  refine lv_sipush (v := 600) hx hb dX7_append_11 (by decide) ?_
  refine lv_icmp_ge (tgt := 43) hx hb dX7_append_14 (by decide) (fun c_2 => ?_) (fun c_2 => ?_)
  · exact absurd c_2 (nI_ge (b := 600) (by omega) (by decide))
  refine lv_aload_n hx hb dX7_append_17 rfl (lv_at hl 1 rfl) ?_
  refine va_get (D := (dC, dI)) (ci := 7) (v := .ref rd_tape) (C := RX7) (T := TX7) (N := 15) hx hb hts (fun w h => wM_c (iX7 w h)) hown hK hP 0 rfl rfl 0 (by decide) (hts _ (wM_c wd_333)) (fun _ h9 => h9) rfl dX7_append_18 ?_
  refine lv_aload_n hx hb dX7_append_21 rfl (lv_at hl 1 rfl) ?_
  refine va_get (D := (dC, dI)) (ci := 7) (v := .int (nI n)) (C := RX7) (T := TX7) (N := 15) hx hb hts (fun w h => wM_c (iX7 w h)) hown hK hP 0 rfl rfl 1 (by decide) (hts _ (wM_c wd_335)) (fun _ h9 => h9) rfl dX7_append_22 ?_
  refine lv_iload_n hx hb dX7_append_25 rfl (lv_at hl 2 rfl) ?_
  refine lv_iload_n hx hb dX7_append_26 rfl (lv_at hl 0 rfl) ?_
  refine lv_ishr hx hb dX7_append_27 ?_
  refine lv_topi (fun v_3 ev_3 => ?_)
  refine lv_sipush (v := 255) hx hb dX7_append_28 (by decide) ?_
  refine lv_iand hx hb dX7_append_31 ?_
  refine lv_topi (fun v_4 ev_4 => ?_)
  refine va_iast hx hb hK hP hD hS 1 0 rfl rfl (vp_in_nI (by omega) (by decide)) dX7_append_32 (fun H locs hP hD hS => ?_)
  obtain ⟨f_5, hP, hD⟩ : ∃ f9, va_P (dC, dI) classes [(rd, .inr (7, [.ref rd_tape, .int (nI n), .int i1, .int i2, .ref dr, .ref rd_names, .ref rd_nameKind, .ref rd_nameNumber, .int i3, .ref rd_knotNames, .int i4, .int i5, .int i6, .int i7, .long i8])), (rd_tape, .inl (kt, 600, .inl f9))] H ∧ va_D A [(rd, .inr (7, [.ref rd_tape, .int (nI n), .int i1, .int i2, .ref dr, .ref rd_names, .ref rd_nameKind, .ref rd_nameNumber, .int i3, .ref rd_knotNames, .int i4, .int i5, .int i6, .int i7, .long i8])), (rd_tape, .inl (kt, 600, .inl f9))] := ⟨_, hP, hD⟩
  refine lv_aload_n hx hb dX7_append_33 rfl (lv_at hl 1 rfl) ?_
  refine lv_dup hx hb dX7_append_34 rfl ?_
  refine va_get (D := (dC, dI)) (ci := 7) (v := .int (nI n)) (C := RX7) (T := TX7) (N := 15) hx hb hts (fun w h => wM_c (iX7 w h)) hown hK hP 0 rfl rfl 1 (by decide) (hts _ (wM_c wd_335)) (fun _ h9 => h9) rfl dX7_append_35 ?_
  refine lv_iconst (v := 1) hx hb dX7_append_38 (by decide) ?_
  refine lv_iadd hx hb dX7_append_39 ?_
  refine lv_topi (fun v_6 ev_6 => ?_)
  obtain rfl : v_6 = nI (n + 1) := ev_6.trans (nI_1 _)
  refine va_put (D := (dC, dI)) (ci := 7) (v := .int (nI (n + 1))) (ty := .int) (C := RX7) (T := TX7) (N := 15) hx hb hts (fun w h => wM_c (iX7 w h)) tyX7 tyX7_ok nmX7 hown hK hP hD hS 0 rfl rfl 1 (by decide) (hts _ (wM_c wd_335)) (fun _ h9 => h9) rfl (by decide +kernel) rfl rfl (Nat.le_of_ble_eq_true rfl) dX7_append_40 (fun H locs hP hD hS => ?_)
  have hP : va_P (dC, dI) classes [(rd, .inr (7, [.ref rd_tape, .int (nI (n + 1)), .int i1, .int i2, .ref dr, .ref rd_names, .ref rd_nameKind, .ref rd_nameNumber, .int i3, .ref rd_knotNames, .int i4, .int i5, .int i6, .int i7, .long i8])), (rd_tape, .inl (kt, 600, .inl f_5))] H := hP
  have hD : va_D A [(rd, .inr (7, [.ref rd_tape, .int (nI (n + 1)), .int i1, .int i2, .ref dr, .ref rd_names, .ref rd_nameKind, .ref rd_nameNumber, .int i3, .ref rd_knotNames, .int i4, .int i5, .int i6, .int i7, .long i8])), (rd_tape, .inl (kt, 600, .inl f_5))] := hD
  refine lv_iinc (v := 16) (lv' := [(2, .int 16), (0, .ref rd), (1, .int four)]) hx hb dX7_append_43 hl (k := 0) rfl (by decide) (by decide) rfl (fun ls hl => ?_)
  refine lv_goto (tgt := 3) hx hb dX7_append_46 (by decide) ?_
  refine lv_iload_n hx hb dX7_append_3 rfl (lv_at hl 0 rfl) ?_
  refine lv_if_lt (tgt := 49) hx hb dX7_append_4 (by decide) (fun c_7 => ?_) (fun c_7 => ?_)
  · exact absurd c_7 (by decide)
  refine lv_aload_n hx hb dX7_append_7 rfl (lv_at hl 1 rfl) ?_
  refine va_get (D := (dC, dI)) (ci := 7) (v := .int (nI (n + 1))) (C := RX7) (T := TX7) (N := 15) hx hb hts (fun w h => wM_c (iX7 w h)) hown hK hP 0 rfl rfl 1 (by decide) (hts _ (wM_c wd_335)) (fun _ h9 => h9) rfl dX7_append_8 ?_
  refine lv_sipush (v := 600) hx hb dX7_append_11 (by decide) ?_
  refine lv_icmp_ge (tgt := 43) hx hb dX7_append_14 (by decide) (fun c_8 => ?_) (fun c_8 => ?_)
  · exact absurd c_8 (nI_ge (b := 600) (by omega) (by decide))
  refine lv_aload_n hx hb dX7_append_17 rfl (lv_at hl 1 rfl) ?_
  refine va_get (D := (dC, dI)) (ci := 7) (v := .ref rd_tape) (C := RX7) (T := TX7) (N := 15) hx hb hts (fun w h => wM_c (iX7 w h)) hown hK hP 0 rfl rfl 0 (by decide) (hts _ (wM_c wd_333)) (fun _ h9 => h9) rfl dX7_append_18 ?_
  refine lv_aload_n hx hb dX7_append_21 rfl (lv_at hl 1 rfl) ?_
  refine va_get (D := (dC, dI)) (ci := 7) (v := .int (nI (n + 1))) (C := RX7) (T := TX7) (N := 15) hx hb hts (fun w h => wM_c (iX7 w h)) hown hK hP 0 rfl rfl 1 (by decide) (hts _ (wM_c wd_335)) (fun _ h9 => h9) rfl dX7_append_22 ?_
  refine lv_iload_n hx hb dX7_append_25 rfl (lv_at hl 2 rfl) ?_
  refine lv_iload_n hx hb dX7_append_26 rfl (lv_at hl 0 rfl) ?_
  refine lv_ishr hx hb dX7_append_27 ?_
  refine lv_topi (fun v_9 ev_9 => ?_)
  refine lv_sipush (v := 255) hx hb dX7_append_28 (by decide) ?_
  refine lv_iand hx hb dX7_append_31 ?_
  refine lv_topi (fun v_10 ev_10 => ?_)
  refine va_iast hx hb hK hP hD hS 1 0 rfl rfl (vp_in_nI (by omega) (by decide)) dX7_append_32 (fun H locs hP hD hS => ?_)
  obtain ⟨f_11, hP, hD⟩ : ∃ f9, va_P (dC, dI) classes [(rd, .inr (7, [.ref rd_tape, .int (nI (n + 1)), .int i1, .int i2, .ref dr, .ref rd_names, .ref rd_nameKind, .ref rd_nameNumber, .int i3, .ref rd_knotNames, .int i4, .int i5, .int i6, .int i7, .long i8])), (rd_tape, .inl (kt, 600, .inl f9))] H ∧ va_D A [(rd, .inr (7, [.ref rd_tape, .int (nI (n + 1)), .int i1, .int i2, .ref dr, .ref rd_names, .ref rd_nameKind, .ref rd_nameNumber, .int i3, .ref rd_knotNames, .int i4, .int i5, .int i6, .int i7, .long i8])), (rd_tape, .inl (kt, 600, .inl f9))] := ⟨_, hP, hD⟩
  refine lv_aload_n hx hb dX7_append_33 rfl (lv_at hl 1 rfl) ?_
  refine lv_dup hx hb dX7_append_34 rfl ?_
  refine va_get (D := (dC, dI)) (ci := 7) (v := .int (nI (n + 1))) (C := RX7) (T := TX7) (N := 15) hx hb hts (fun w h => wM_c (iX7 w h)) hown hK hP 0 rfl rfl 1 (by decide) (hts _ (wM_c wd_335)) (fun _ h9 => h9) rfl dX7_append_35 ?_
  refine lv_iconst (v := 1) hx hb dX7_append_38 (by decide) ?_
  refine lv_iadd hx hb dX7_append_39 ?_
  refine lv_topi (fun v_12 ev_12 => ?_)
  obtain rfl : v_12 = nI (n + 2) := ev_12.trans (nI_1 _)
  refine va_put (D := (dC, dI)) (ci := 7) (v := .int (nI (n + 2))) (ty := .int) (C := RX7) (T := TX7) (N := 15) hx hb hts (fun w h => wM_c (iX7 w h)) tyX7 tyX7_ok nmX7 hown hK hP hD hS 0 rfl rfl 1 (by decide) (hts _ (wM_c wd_335)) (fun _ h9 => h9) rfl (by decide +kernel) rfl rfl (Nat.le_of_ble_eq_true rfl) dX7_append_40 (fun H locs hP hD hS => ?_)
  have hP : va_P (dC, dI) classes [(rd, .inr (7, [.ref rd_tape, .int (nI (n + 2)), .int i1, .int i2, .ref dr, .ref rd_names, .ref rd_nameKind, .ref rd_nameNumber, .int i3, .ref rd_knotNames, .int i4, .int i5, .int i6, .int i7, .long i8])), (rd_tape, .inl (kt, 600, .inl f_11))] H := hP
  have hD : va_D A [(rd, .inr (7, [.ref rd_tape, .int (nI (n + 2)), .int i1, .int i2, .ref dr, .ref rd_names, .ref rd_nameKind, .ref rd_nameNumber, .int i3, .ref rd_knotNames, .int i4, .int i5, .int i6, .int i7, .long i8])), (rd_tape, .inl (kt, 600, .inl f_11))] := hD
  refine lv_iinc (v := 8) (lv' := [(2, .int 8), (0, .ref rd), (1, .int four)]) hx hb dX7_append_43 hl (k := 0) rfl (by decide) (by decide) rfl (fun ls hl => ?_)
  refine lv_goto (tgt := 3) hx hb dX7_append_46 (by decide) ?_
  refine lv_iload_n hx hb dX7_append_3 rfl (lv_at hl 0 rfl) ?_
  refine lv_if_lt (tgt := 49) hx hb dX7_append_4 (by decide) (fun c_13 => ?_) (fun c_13 => ?_)
  · exact absurd c_13 (by decide)
  refine lv_aload_n hx hb dX7_append_7 rfl (lv_at hl 1 rfl) ?_
  refine va_get (D := (dC, dI)) (ci := 7) (v := .int (nI (n + 2))) (C := RX7) (T := TX7) (N := 15) hx hb hts (fun w h => wM_c (iX7 w h)) hown hK hP 0 rfl rfl 1 (by decide) (hts _ (wM_c wd_335)) (fun _ h9 => h9) rfl dX7_append_8 ?_
  refine lv_sipush (v := 600) hx hb dX7_append_11 (by decide) ?_
  refine lv_icmp_ge (tgt := 43) hx hb dX7_append_14 (by decide) (fun c_14 => ?_) (fun c_14 => ?_)
  · exact absurd c_14 (nI_ge (b := 600) (by omega) (by decide))
  refine lv_aload_n hx hb dX7_append_17 rfl (lv_at hl 1 rfl) ?_
  refine va_get (D := (dC, dI)) (ci := 7) (v := .ref rd_tape) (C := RX7) (T := TX7) (N := 15) hx hb hts (fun w h => wM_c (iX7 w h)) hown hK hP 0 rfl rfl 0 (by decide) (hts _ (wM_c wd_333)) (fun _ h9 => h9) rfl dX7_append_18 ?_
  refine lv_aload_n hx hb dX7_append_21 rfl (lv_at hl 1 rfl) ?_
  refine va_get (D := (dC, dI)) (ci := 7) (v := .int (nI (n + 2))) (C := RX7) (T := TX7) (N := 15) hx hb hts (fun w h => wM_c (iX7 w h)) hown hK hP 0 rfl rfl 1 (by decide) (hts _ (wM_c wd_335)) (fun _ h9 => h9) rfl dX7_append_22 ?_
  refine lv_iload_n hx hb dX7_append_25 rfl (lv_at hl 2 rfl) ?_
  refine lv_iload_n hx hb dX7_append_26 rfl (lv_at hl 0 rfl) ?_
  refine lv_ishr hx hb dX7_append_27 ?_
  refine lv_topi (fun v_15 ev_15 => ?_)
  refine lv_sipush (v := 255) hx hb dX7_append_28 (by decide) ?_
  refine lv_iand hx hb dX7_append_31 ?_
  refine lv_topi (fun v_16 ev_16 => ?_)
  refine va_iast hx hb hK hP hD hS 1 0 rfl rfl (vp_in_nI (by omega) (by decide)) dX7_append_32 (fun H locs hP hD hS => ?_)
  obtain ⟨f_17, hP, hD⟩ : ∃ f9, va_P (dC, dI) classes [(rd, .inr (7, [.ref rd_tape, .int (nI (n + 2)), .int i1, .int i2, .ref dr, .ref rd_names, .ref rd_nameKind, .ref rd_nameNumber, .int i3, .ref rd_knotNames, .int i4, .int i5, .int i6, .int i7, .long i8])), (rd_tape, .inl (kt, 600, .inl f9))] H ∧ va_D A [(rd, .inr (7, [.ref rd_tape, .int (nI (n + 2)), .int i1, .int i2, .ref dr, .ref rd_names, .ref rd_nameKind, .ref rd_nameNumber, .int i3, .ref rd_knotNames, .int i4, .int i5, .int i6, .int i7, .long i8])), (rd_tape, .inl (kt, 600, .inl f9))] := ⟨_, hP, hD⟩
  refine lv_aload_n hx hb dX7_append_33 rfl (lv_at hl 1 rfl) ?_
  refine lv_dup hx hb dX7_append_34 rfl ?_
  refine va_get (D := (dC, dI)) (ci := 7) (v := .int (nI (n + 2))) (C := RX7) (T := TX7) (N := 15) hx hb hts (fun w h => wM_c (iX7 w h)) hown hK hP 0 rfl rfl 1 (by decide) (hts _ (wM_c wd_335)) (fun _ h9 => h9) rfl dX7_append_35 ?_
  refine lv_iconst (v := 1) hx hb dX7_append_38 (by decide) ?_
  refine lv_iadd hx hb dX7_append_39 ?_
  refine lv_topi (fun v_18 ev_18 => ?_)
  obtain rfl : v_18 = nI (n + 3) := ev_18.trans (nI_1 _)
  refine va_put (D := (dC, dI)) (ci := 7) (v := .int (nI (n + 3))) (ty := .int) (C := RX7) (T := TX7) (N := 15) hx hb hts (fun w h => wM_c (iX7 w h)) tyX7 tyX7_ok nmX7 hown hK hP hD hS 0 rfl rfl 1 (by decide) (hts _ (wM_c wd_335)) (fun _ h9 => h9) rfl (by decide +kernel) rfl rfl (Nat.le_of_ble_eq_true rfl) dX7_append_40 (fun H locs hP hD hS => ?_)
  have hP : va_P (dC, dI) classes [(rd, .inr (7, [.ref rd_tape, .int (nI (n + 3)), .int i1, .int i2, .ref dr, .ref rd_names, .ref rd_nameKind, .ref rd_nameNumber, .int i3, .ref rd_knotNames, .int i4, .int i5, .int i6, .int i7, .long i8])), (rd_tape, .inl (kt, 600, .inl f_17))] H := hP
  have hD : va_D A [(rd, .inr (7, [.ref rd_tape, .int (nI (n + 3)), .int i1, .int i2, .ref dr, .ref rd_names, .ref rd_nameKind, .ref rd_nameNumber, .int i3, .ref rd_knotNames, .int i4, .int i5, .int i6, .int i7, .long i8])), (rd_tape, .inl (kt, 600, .inl f_17))] := hD
  refine lv_iinc (v := 0) (lv' := [(2, .int 0), (0, .ref rd), (1, .int four)]) hx hb dX7_append_43 hl (k := 0) rfl (by decide) (by decide) rfl (fun ls hl => ?_)
  refine lv_goto (tgt := 3) hx hb dX7_append_46 (by decide) ?_
  refine lv_iload_n hx hb dX7_append_3 rfl (lv_at hl 0 rfl) ?_
  refine lv_if_lt (tgt := 49) hx hb dX7_append_4 (by decide) (fun c_19 => ?_) (fun c_19 => ?_)
  · exact absurd c_19 (by decide)
  refine lv_aload_n hx hb dX7_append_7 rfl (lv_at hl 1 rfl) ?_
  refine va_get (D := (dC, dI)) (ci := 7) (v := .int (nI (n + 3))) (C := RX7) (T := TX7) (N := 15) hx hb hts (fun w h => wM_c (iX7 w h)) hown hK hP 0 rfl rfl 1 (by decide) (hts _ (wM_c wd_335)) (fun _ h9 => h9) rfl dX7_append_8 ?_
  refine lv_sipush (v := 600) hx hb dX7_append_11 (by decide) ?_
  refine lv_icmp_ge (tgt := 43) hx hb dX7_append_14 (by decide) (fun c_20 => ?_) (fun c_20 => ?_)
  · exact absurd c_20 (nI_ge (b := 600) (by omega) (by decide))
  refine lv_aload_n hx hb dX7_append_17 rfl (lv_at hl 1 rfl) ?_
  refine va_get (D := (dC, dI)) (ci := 7) (v := .ref rd_tape) (C := RX7) (T := TX7) (N := 15) hx hb hts (fun w h => wM_c (iX7 w h)) hown hK hP 0 rfl rfl 0 (by decide) (hts _ (wM_c wd_333)) (fun _ h9 => h9) rfl dX7_append_18 ?_
  refine lv_aload_n hx hb dX7_append_21 rfl (lv_at hl 1 rfl) ?_
  refine va_get (D := (dC, dI)) (ci := 7) (v := .int (nI (n + 3))) (C := RX7) (T := TX7) (N := 15) hx hb hts (fun w h => wM_c (iX7 w h)) hown hK hP 0 rfl rfl 1 (by decide) (hts _ (wM_c wd_335)) (fun _ h9 => h9) rfl dX7_append_22 ?_
  refine lv_iload_n hx hb dX7_append_25 rfl (lv_at hl 2 rfl) ?_
  refine lv_iload_n hx hb dX7_append_26 rfl (lv_at hl 0 rfl) ?_
  refine lv_ishr hx hb dX7_append_27 ?_
  refine lv_topi (fun v_21 ev_21 => ?_)
  refine lv_sipush (v := 255) hx hb dX7_append_28 (by decide) ?_
  refine lv_iand hx hb dX7_append_31 ?_
  refine lv_topi (fun v_22 ev_22 => ?_)
  refine va_iast hx hb hK hP hD hS 1 0 rfl rfl (vp_in_nI (by omega) (by decide)) dX7_append_32 (fun H locs hP hD hS => ?_)
  obtain ⟨f_23, hP, hD⟩ : ∃ f9, va_P (dC, dI) classes [(rd, .inr (7, [.ref rd_tape, .int (nI (n + 3)), .int i1, .int i2, .ref dr, .ref rd_names, .ref rd_nameKind, .ref rd_nameNumber, .int i3, .ref rd_knotNames, .int i4, .int i5, .int i6, .int i7, .long i8])), (rd_tape, .inl (kt, 600, .inl f9))] H ∧ va_D A [(rd, .inr (7, [.ref rd_tape, .int (nI (n + 3)), .int i1, .int i2, .ref dr, .ref rd_names, .ref rd_nameKind, .ref rd_nameNumber, .int i3, .ref rd_knotNames, .int i4, .int i5, .int i6, .int i7, .long i8])), (rd_tape, .inl (kt, 600, .inl f9))] := ⟨_, hP, hD⟩
  refine lv_aload_n hx hb dX7_append_33 rfl (lv_at hl 1 rfl) ?_
  refine lv_dup hx hb dX7_append_34 rfl ?_
  refine va_get (D := (dC, dI)) (ci := 7) (v := .int (nI (n + 3))) (C := RX7) (T := TX7) (N := 15) hx hb hts (fun w h => wM_c (iX7 w h)) hown hK hP 0 rfl rfl 1 (by decide) (hts _ (wM_c wd_335)) (fun _ h9 => h9) rfl dX7_append_35 ?_
  refine lv_iconst (v := 1) hx hb dX7_append_38 (by decide) ?_
  refine lv_iadd hx hb dX7_append_39 ?_
  refine lv_topi (fun v_24 ev_24 => ?_)
  obtain rfl : v_24 = nI (n + 4) := ev_24.trans (nI_1 _)
  refine va_put (D := (dC, dI)) (ci := 7) (v := .int (nI (n + 4))) (ty := .int) (C := RX7) (T := TX7) (N := 15) hx hb hts (fun w h => wM_c (iX7 w h)) tyX7 tyX7_ok nmX7 hown hK hP hD hS 0 rfl rfl 1 (by decide) (hts _ (wM_c wd_335)) (fun _ h9 => h9) rfl (by decide +kernel) rfl rfl (Nat.le_of_ble_eq_true rfl) dX7_append_40 (fun H locs hP hD hS => ?_)
  have hP : va_P (dC, dI) classes [(rd, .inr (7, [.ref rd_tape, .int (nI (n + 4)), .int i1, .int i2, .ref dr, .ref rd_names, .ref rd_nameKind, .ref rd_nameNumber, .int i3, .ref rd_knotNames, .int i4, .int i5, .int i6, .int i7, .long i8])), (rd_tape, .inl (kt, 600, .inl f_23))] H := hP
  have hD : va_D A [(rd, .inr (7, [.ref rd_tape, .int (nI (n + 4)), .int i1, .int i2, .ref dr, .ref rd_names, .ref rd_nameKind, .ref rd_nameNumber, .int i3, .ref rd_knotNames, .int i4, .int i5, .int i6, .int i7, .long i8])), (rd_tape, .inl (kt, 600, .inl f_23))] := hD
  refine lv_iinc (v := (-8)) (lv' := [(2, .int (-8)), (0, .ref rd), (1, .int four)]) hx hb dX7_append_43 hl (k := 0) rfl (by decide) (by decide) rfl (fun ls hl => ?_)
  refine lv_goto (tgt := 3) hx hb dX7_append_46 (by decide) ?_
  refine lv_iload_n hx hb dX7_append_3 rfl (lv_at hl 0 rfl) ?_
  refine lv_if_lt (tgt := 49) hx hb dX7_append_4 (by decide) (fun c_25 => ?_) (fun c_25 => ?_)
  · skip
    have hP9 := hP.sub (ws' := [(rd, .inr (7, [.ref rd_tape, .int (nI (n + 4)), .int i1, .int i2, .ref dr, .ref rd_names, .ref rd_nameKind, .ref rd_nameNumber, .int i3, .ref rd_knotNames, .int i4, .int i5, .int i6, .int i7, .long i8])), (rd_tape, .inl (kt, 600, .inl f_23))]) [0, 1] rfl
    have hD9 := hD.sub (ws' := [(rd, .inr (7, [.ref rd_tape, .int (nI (n + 4)), .int i1, .int i2, .ref dr, .ref rd_names, .ref rd_nameKind, .ref rd_nameNumber, .int i3, .ref rd_knotNames, .int i4, .int i5, .int i6, .int i7, .long i8])), (rd_tape, .inl (kt, 600, .inl f_23))]) [0, 1] (by decide) rfl
    have hK9 := hK.sub (tys' := [(kt, .int)]) [0] rfl
    exact W.vret hx hb hr (fun t ht hW => ⟨⟨(), rfl, trivial, f_23, by rw [ht]; exact hP9, va_K.moved hW.alike hK9, hD9⟩, hS.F ht⟩) hS.2.2 dX7_append_49
  · exact absurd c_25 (by decide)
set_option maxHeartbeats 4000000 in
set_option maxRecDepth 100000 in
theorem p_feed (l : Launch) (dC : Nat → ClassId) (dI : Nat → Nat → Nat) (n0 sz : Nat) (x0 : Nat) (rd : Nat) (dr : Nat) (bk : Nat) (st : Nat) (nw : Nat) (tr : Nat) (pl : Nat) (fl : Nat) (rg : Nat) (rd_tape : Nat) (rd_names : Nat) (rd_nameKind : Nat) (rd_nameNumber : Nat) (rd_knotNames : Nat) (kt : ClassId) (f : Nat → Int32) (av : Int32) (bv : Int32) (cv : Int32) (dv : Int32) (ev : Int32) : Met l yX11_feed (wM yX11_feed cX11_feed 6 (some .int)) ({ frames := 1, cells := 0, slots := 0, locals := 22 }) (va_Pc [.ref x0, .int av, .int bv, .int cv, .int dv, .int ev] (fun U => U.heap.size = sz ∧ n0 ≤ sz ∧ GW n0 U ∧ va_P (dC, dI) classes [(x0, .inr (11, [.ref rd, .ref dr, .ref bk, .ref st, .ref nw, .ref tr, .ref pl, .ref fl, .ref rg, .int 0, .int 0, .int 0])), (rd, .inr (7, [.ref rd_tape, .int 0, .int 0, .int 0, .ref dr, .ref rd_names, .ref rd_nameKind, .ref rd_nameNumber, .int 0, .ref rd_knotNames, .int 0, .int 0, .int 0, .int 0, .long 0])), (rd_tape, .inl (kt, 600, .inl f))] U.heap ∧ va_K (dC, dI) classes [(kt, .int)] U ∧ va_D (fun q => n0 ≤ q) [(x0, .inr (11, [.ref rd, .ref dr, .ref bk, .ref st, .ref nw, .ref tr, .ref pl, .ref fl, .ref rg, .int 0, .int 0, .int 0])), (rd, .inr (7, [.ref rd_tape, .int 0, .int 0, .int 0, .ref dr, .ref rd_names, .ref rd_nameKind, .ref rd_nameNumber, .int 0, .ref rd_knotNames, .int 0, .int 0, .int 0, .int 0, .long 0])), (rd_tape, .inl (kt, 600, .inl f))])) (va_Qi (fun (r : Int32) (_ : Unit) => r = 20) (fun (_ : Unit) (_ : State) => True) (va_A [(x0, .inr (11, [.ref rd, .ref dr, .ref bk, .ref st, .ref nw, .ref tr, .ref pl, .ref fl, .ref rg, .int 0, .int 0, .int 0])), (rd, .inr (7, [.ref rd_tape, .int 0, .int 0, .int 0, .ref dr, .ref rd_names, .ref rd_nameKind, .ref rd_nameNumber, .int 0, .ref rd_knotNames, .int 0, .int 0, .int 0, .int 0, .long 0])), (rd_tape, .inl (kt, 600, .inl f))] sz)) 0 0 (va_A [(x0, .inr (11, [.ref rd, .ref dr, .ref bk, .ref st, .ref nw, .ref tr, .ref pl, .ref fl, .ref rg, .int 0, .int 0, .int 0])), (rd, .inr (7, [.ref rd_tape, .int 0, .int 0, .int 0, .ref dr, .ref rd_names, .ref rd_nameKind, .ref rd_nameNumber, .int 0, .ref rd_knotNames, .int 0, .int 0, .int 0, .int 0, .long 0])), (rd_tape, .inl (kt, 600, .inl f))] sz) := by
  refine Met.ofW (cc := cX11_feed) (maxL := 6) (ret := (some .int)) (by decide) rfl ?_
  intro p e s m args below meth c s₁ B hml hv
  obtain ⟨rfl, hsz, hn0, hG, hP, hK, hD0⟩ := hv
  have hx := B.exec
  have hb := B.bytes
  have hr := B.returns
  have hts := atoms_spec (ws := wM yX11_feed cX11_feed 6 (some .int)) B.pre
  have hown : s.vm.findClass RX11 = some m.cls := findClass_of_methodNamed B.named
  have hlocks := B.notSynchronized
  subst hsz
  have hD := hD0.self (sz := s.heap.size)
  have hA0 := vA_n0 hD0 hn0
  generalize hAe : va_A [(x0, .inr (11, [.ref rd, .ref dr, .ref bk, .ref st, .ref nw, .ref tr, .ref pl, .ref fl, .ref rg, .int 0, .int 0, .int 0])), (rd, .inr (7, [.ref rd_tape, .int 0, .int 0, .int 0, .ref dr, .ref rd_names, .ref rd_nameKind, .ref rd_nameNumber, .int 0, .ref rd_knotNames, .int 0, .int 0, .int 0, .int 0, .long 0])), (rd_tape, .inl (kt, 600, .inl f))] s.heap.size = A at hD hA0 ⊢
  have hA : ∀ q : Nat, s.heap.size ≤ q → A q := fun q h => by rw [← hAe]; exact Or.inr h
  have hS : va_S A s.heap s.heap [] := va_S.rf
  have hl := lv_entry ([.ref x0, .int av, .int bv, .int cv, .int dv, .int ev]) (n := 6) (Nat.le_of_ble_eq_true rfl)
  rw [lg_entry_eq]
  generalize (lg_sl ([.ref x0, .int av, .int bv, .int cv, .int dv, .int ev]) ++ List.replicate (6 - (lg_sl ([.ref x0, .int av, .int bv, .int cv, .int dv, .int ev])).length) Slot.unset).toArray = ls at hl ⊢
  have hl : lv_has ls 6 [(0, .ref x0), (1, .int av), (2, .int bv), (3, .int cv), (4, .int dv), (5, .int ev)] := hl
  refine lv_aload_n hx hb dX11_feed_0 rfl (lv_at hl 0 rfl) ?_
  refine va_get (D := (dC, dI)) (ci := 11) (v := .ref rd) (C := RX11) (T := TX11) (N := 12) hx hb hts (fun w h => wM_c (iX11 w h)) hown hK hP 0 rfl rfl 0 (by decide) (hts _ (wM_c wd_670)) (fun _ h9 => h9) rfl dX11_feed_1 ?_
  refine va_get (D := (dC, dI)) (ci := 7) (v := .int 0) (C := RX7) (T := TX7) (N := 15) hx hb hts (fun w h => wM_c (iX7 w h)) hown hK hP 1 rfl rfl 1 (by decide) (hts _ (wM_c wd_334)) (fun _ h9 => h9) rfl dX11_feed_4 ?_
  refine lv_bipush (v := 20) hx hb dX11_feed_7 (by decide) ?_
  refine lv_iadd hx hb dX11_feed_9 ?_
  refine lv_topi (fun v_1 ev_1 => ?_)
  obtain rfl : v_1 = 20 := ev_1.trans (by decide)
  refine lv_sipush (v := 600) hx hb dX11_feed_10 (by decide) ?_
  refine lv_icmp_le (tgt := 18) hx hb dX11_feed_13 (by decide) (fun c_2 => ?_) (fun c_2 => ?_)
  · skip
    refine lv_aload_n hx hb dX11_feed_18 rfl (lv_at hl 0 rfl) ?_
    refine va_get (D := (dC, dI)) (ci := 11) (v := .ref rd) (C := RX11) (T := TX11) (N := 12) hx hb hts (fun w h => wM_c (iX11 w h)) hown hK hP 0 rfl rfl 0 (by decide) (hts _ (wM_c wd_670)) (fun _ h9 => h9) rfl dX11_feed_19 ?_
    refine lv_iload_n hx hb dX11_feed_22 rfl (lv_at hl 1 rfl) ?_
    have hP : va_P (dC, dI) classes [(x0, .inr (11, [.ref rd, .ref dr, .ref bk, .ref st, .ref nw, .ref tr, .ref pl, .ref fl, .ref rg, .int 0, .int 0, .int 0])), (rd, .inr (7, [.ref rd_tape, .int (nI 0), .int 0, .int 0, .ref dr, .ref rd_names, .ref rd_nameKind, .ref rd_nameNumber, .int 0, .ref rd_knotNames, .int 0, .int 0, .int 0, .int 0, .long 0])), (rd_tape, .inl (kt, 600, .inl f))] s.heap := hP
    have hD : va_D A [(x0, .inr (11, [.ref rd, .ref dr, .ref bk, .ref st, .ref nw, .ref tr, .ref pl, .ref fl, .ref rg, .int 0, .int 0, .int 0])), (rd, .inr (7, [.ref rd_tape, .int (nI 0), .int 0, .int 0, .ref dr, .ref rd_names, .ref rd_nameKind, .ref rd_nameNumber, .int 0, .ref rd_knotNames, .int 0, .int 0, .int 0, .int 0, .long 0])), (rd_tape, .inl (kt, 600, .inl f))] := hD
    have hPc := hP.sub (ws' := [(rd, .inr (7, [.ref rd_tape, .int (nI 0), .int 0, .int 0, .ref dr, .ref rd_names, .ref rd_nameKind, .ref rd_nameNumber, .int 0, .ref rd_knotNames, .int 0, .int 0, .int 0, .int 0, .long 0])), (rd_tape, .inl (kt, 600, .inl f))]) [1, 2] rfl
    have hDc := hD.sub (ws' := [(rd, .inr (7, [.ref rd_tape, .int (nI 0), .int 0, .int 0, .ref dr, .ref rd_names, .ref rd_nameKind, .ref rd_nameNumber, .int 0, .ref rd_knotNames, .int 0, .int 0, .int 0, .int 0, .long 0])), (rd_tape, .inl (kt, 600, .inl f))]) [1, 2] (by decide) rfl
    have hKc := hK.sub (tys' := [(kt, .int)]) [0] rfl
    have hFc := va_free (wc := [(rd, .inr (7, [.ref rd_tape, .int (nI 0), .int 0, .int 0, .ref dr, .ref rd_names, .ref rd_nameKind, .ref rd_nameNumber, .int 0, .ref rd_knotNames, .int 0, .int 0, .int 0, .int 0, .long 0])), (rd_tape, .inl (kt, 600, .inl f))]) hD hS hA [1, 2] rfl
    refine va_callv (va_runV (As := [.int av]) (rest := []) ⟨hx, hb, hml, hown, hts⟩ (c_append l dC dI n0 s.heap.size rd rd_tape 0 0 dr rd_names rd_nameKind rd_nameNumber 0 rd_knotNames 0 0 0 0 0 0 kt f av (by decide)) (cwV 1 hts (gV (fun w h => wM_c h) wd_714 wd_711 wd_712 wd_713 wd_117) rfl rfl rfl (by decide +kernel) ⟨Nat.le_of_ble_eq_true rfl, Nat.le_of_ble_eq_true rfl⟩) ⟨fun a U g mk q => by obtain ⟨q0, q1, q2, qG, qP, qK, qD⟩ := q; exact ⟨q0, q1, q2, GW.blind qG, qP, va_K.moved (u := U) (U := U.calling g mk a) (Vm.Alike.refl U.vm) qK, qD⟩, va_recv hKc hPc (ci := 7) (q0 := 0) rfl rfl, fun U hU hW => ⟨rfl, by rw [hU], Nat.le_trans hn0 hS.1, GW.go hW hU hG (fun q hq hA9 => hS.2.1 q hq (fun h => hA9 (hA0 q h))), by rw [hU]; exact hPc, va_K.moved hW.alike hKc, hDc.weaken (fun _ _ _ h => hA0 _ h)⟩⟩ rfl rfl hl.1 rfl (lv_room (Nat.le_of_ble_eq_true rfl)) dX11_feed_23 ⟨Nat.le_of_ble_eq_true rfl, Nat.le_of_ble_eq_true rfl⟩) hS (fun q _ h => hFc q h) hFc (fun u t H1 locs ht hvm hw_4 hB hz1 hk1 hS => ?_)
    obtain ⟨f2_5, hP1, hK1, hD1⟩ := hB
    rw [ht] at hP1
    obtain ⟨hP, hD⟩ := va_join (wr := [(x0, .inr (11, [.ref rd, .ref dr, .ref bk, .ref st, .ref nw, .ref tr, .ref pl, .ref fl, .ref rg, .int 0, .int 0, .int 0]))]) (w1 := [(rd, .inr (7, [.ref rd_tape, .int (nI (0 + 4)), .int 0, .int 0, .ref dr, .ref rd_names, .ref rd_nameKind, .ref rd_nameNumber, .int 0, .ref rd_knotNames, .int 0, .int 0, .int 0, .int 0, .long 0])), (rd_tape, .inl (kt, 600, .inl f2_5))]) hP hD [1, 2] [0] rfl rfl (by decide) (by decide) hk1 hFc hP1 hD1
    generalize H1 = H at hP hS ⊢
    have hP : va_P (dC, dI) classes [(x0, .inr (11, [.ref rd, .ref dr, .ref bk, .ref st, .ref nw, .ref tr, .ref pl, .ref fl, .ref rg, .int 0, .int 0, .int 0])), (rd, .inr (7, [.ref rd_tape, .int (nI (0 + 4)), .int 0, .int 0, .ref dr, .ref rd_names, .ref rd_nameKind, .ref rd_nameNumber, .int 0, .ref rd_knotNames, .int 0, .int 0, .int 0, .int 0, .long 0])), (rd_tape, .inl (kt, 600, .inl f2_5))] H := hP
    have hD : va_D A [(x0, .inr (11, [.ref rd, .ref dr, .ref bk, .ref st, .ref nw, .ref tr, .ref pl, .ref fl, .ref rg, .int 0, .int 0, .int 0])), (rd, .inr (7, [.ref rd_tape, .int (nI (0 + 4)), .int 0, .int 0, .ref dr, .ref rd_names, .ref rd_nameKind, .ref rd_nameNumber, .int 0, .ref rd_knotNames, .int 0, .int 0, .int 0, .int 0, .long 0])), (rd_tape, .inl (kt, 600, .inl f2_5))] := hD
    refine lv_aload_n hx hb dX11_feed_26 rfl (lv_at hl 0 rfl) ?_
    refine va_get (D := (dC, dI)) (ci := 11) (v := .ref rd) (C := RX11) (T := TX11) (N := 12) hx hb hts (fun w h => wM_c (iX11 w h)) hown hK hP 0 rfl rfl 0 (by decide) (hts _ (wM_c wd_670)) (fun _ h9 => h9) rfl dX11_feed_27 ?_
    refine lv_iload_n hx hb dX11_feed_30 rfl (lv_at hl 2 rfl) ?_
    have hPc := hP.sub (ws' := [(rd, .inr (7, [.ref rd_tape, .int (nI (0 + 4)), .int 0, .int 0, .ref dr, .ref rd_names, .ref rd_nameKind, .ref rd_nameNumber, .int 0, .ref rd_knotNames, .int 0, .int 0, .int 0, .int 0, .long 0])), (rd_tape, .inl (kt, 600, .inl f2_5))]) [1, 2] rfl
    have hDc := hD.sub (ws' := [(rd, .inr (7, [.ref rd_tape, .int (nI (0 + 4)), .int 0, .int 0, .ref dr, .ref rd_names, .ref rd_nameKind, .ref rd_nameNumber, .int 0, .ref rd_knotNames, .int 0, .int 0, .int 0, .int 0, .long 0])), (rd_tape, .inl (kt, 600, .inl f2_5))]) [1, 2] (by decide) rfl
    have hKc := hK.sub (tys' := [(kt, .int)]) [0] rfl
    have hFc := va_free (wc := [(rd, .inr (7, [.ref rd_tape, .int (nI (0 + 4)), .int 0, .int 0, .ref dr, .ref rd_names, .ref rd_nameKind, .ref rd_nameNumber, .int 0, .ref rd_knotNames, .int 0, .int 0, .int 0, .int 0, .long 0])), (rd_tape, .inl (kt, 600, .inl f2_5))]) hD hS hA [1, 2] rfl
    refine va_callv (va_runV (As := [.int bv]) (rest := []) ⟨hx, hb, hml, hown, hts⟩ (c_append l dC dI n0 H.size rd rd_tape 0 0 dr rd_names rd_nameKind rd_nameNumber 0 rd_knotNames 0 0 0 0 0 (0 + 4) kt f2_5 bv (by decide)) (cwV 1 hts (gV (fun w h => wM_c h) wd_714 wd_711 wd_712 wd_713 wd_117) rfl rfl rfl (by decide +kernel) ⟨Nat.le_of_ble_eq_true rfl, Nat.le_of_ble_eq_true rfl⟩) ⟨fun a U g mk q => by obtain ⟨q0, q1, q2, qG, qP, qK, qD⟩ := q; exact ⟨q0, q1, q2, GW.blind qG, qP, va_K.moved (u := U) (U := U.calling g mk a) (Vm.Alike.refl U.vm) qK, qD⟩, va_recv hKc hPc (ci := 7) (q0 := 0) rfl rfl, fun U hU hW => ⟨rfl, by rw [hU], Nat.le_trans hn0 hS.1, GW.go hW hU hG (fun q hq hA9 => hS.2.1 q hq (fun h => hA9 (hA0 q h))), by rw [hU]; exact hPc, va_K.moved hW.alike hKc, hDc.weaken (fun _ _ _ h => hA0 _ h)⟩⟩ rfl rfl hl.1 rfl (lv_room (Nat.le_of_ble_eq_true rfl)) dX11_feed_31 ⟨Nat.le_of_ble_eq_true rfl, Nat.le_of_ble_eq_true rfl⟩) hS (fun q _ h => hFc q h) hFc (fun u t H1 locs ht hvm hw_7 hB hz1 hk1 hS => ?_)
    obtain ⟨f2_8, hP1, hK1, hD1⟩ := hB
    rw [ht] at hP1
    obtain ⟨hP, hD⟩ := va_join (wr := [(x0, .inr (11, [.ref rd, .ref dr, .ref bk, .ref st, .ref nw, .ref tr, .ref pl, .ref fl, .ref rg, .int 0, .int 0, .int 0]))]) (w1 := [(rd, .inr (7, [.ref rd_tape, .int (nI ((0 + 4) + 4)), .int 0, .int 0, .ref dr, .ref rd_names, .ref rd_nameKind, .ref rd_nameNumber, .int 0, .ref rd_knotNames, .int 0, .int 0, .int 0, .int 0, .long 0])), (rd_tape, .inl (kt, 600, .inl f2_8))]) hP hD [1, 2] [0] rfl rfl (by decide) (by decide) hk1 hFc hP1 hD1
    generalize H1 = H at hP hS ⊢
    have hP : va_P (dC, dI) classes [(x0, .inr (11, [.ref rd, .ref dr, .ref bk, .ref st, .ref nw, .ref tr, .ref pl, .ref fl, .ref rg, .int 0, .int 0, .int 0])), (rd, .inr (7, [.ref rd_tape, .int (nI ((0 + 4) + 4)), .int 0, .int 0, .ref dr, .ref rd_names, .ref rd_nameKind, .ref rd_nameNumber, .int 0, .ref rd_knotNames, .int 0, .int 0, .int 0, .int 0, .long 0])), (rd_tape, .inl (kt, 600, .inl f2_8))] H := hP
    have hD : va_D A [(x0, .inr (11, [.ref rd, .ref dr, .ref bk, .ref st, .ref nw, .ref tr, .ref pl, .ref fl, .ref rg, .int 0, .int 0, .int 0])), (rd, .inr (7, [.ref rd_tape, .int (nI ((0 + 4) + 4)), .int 0, .int 0, .ref dr, .ref rd_names, .ref rd_nameKind, .ref rd_nameNumber, .int 0, .ref rd_knotNames, .int 0, .int 0, .int 0, .int 0, .long 0])), (rd_tape, .inl (kt, 600, .inl f2_8))] := hD
    refine lv_aload_n hx hb dX11_feed_34 rfl (lv_at hl 0 rfl) ?_
    refine va_get (D := (dC, dI)) (ci := 11) (v := .ref rd) (C := RX11) (T := TX11) (N := 12) hx hb hts (fun w h => wM_c (iX11 w h)) hown hK hP 0 rfl rfl 0 (by decide) (hts _ (wM_c wd_670)) (fun _ h9 => h9) rfl dX11_feed_35 ?_
    refine lv_iload_n hx hb dX11_feed_38 rfl (lv_at hl 3 rfl) ?_
    have hPc := hP.sub (ws' := [(rd, .inr (7, [.ref rd_tape, .int (nI ((0 + 4) + 4)), .int 0, .int 0, .ref dr, .ref rd_names, .ref rd_nameKind, .ref rd_nameNumber, .int 0, .ref rd_knotNames, .int 0, .int 0, .int 0, .int 0, .long 0])), (rd_tape, .inl (kt, 600, .inl f2_8))]) [1, 2] rfl
    have hDc := hD.sub (ws' := [(rd, .inr (7, [.ref rd_tape, .int (nI ((0 + 4) + 4)), .int 0, .int 0, .ref dr, .ref rd_names, .ref rd_nameKind, .ref rd_nameNumber, .int 0, .ref rd_knotNames, .int 0, .int 0, .int 0, .int 0, .long 0])), (rd_tape, .inl (kt, 600, .inl f2_8))]) [1, 2] (by decide) rfl
    have hKc := hK.sub (tys' := [(kt, .int)]) [0] rfl
    have hFc := va_free (wc := [(rd, .inr (7, [.ref rd_tape, .int (nI ((0 + 4) + 4)), .int 0, .int 0, .ref dr, .ref rd_names, .ref rd_nameKind, .ref rd_nameNumber, .int 0, .ref rd_knotNames, .int 0, .int 0, .int 0, .int 0, .long 0])), (rd_tape, .inl (kt, 600, .inl f2_8))]) hD hS hA [1, 2] rfl
    refine va_callv (va_runV (As := [.int cv]) (rest := []) ⟨hx, hb, hml, hown, hts⟩ (c_append l dC dI n0 H.size rd rd_tape 0 0 dr rd_names rd_nameKind rd_nameNumber 0 rd_knotNames 0 0 0 0 0 ((0 + 4) + 4) kt f2_8 cv (by decide)) (cwV 1 hts (gV (fun w h => wM_c h) wd_714 wd_711 wd_712 wd_713 wd_117) rfl rfl rfl (by decide +kernel) ⟨Nat.le_of_ble_eq_true rfl, Nat.le_of_ble_eq_true rfl⟩) ⟨fun a U g mk q => by obtain ⟨q0, q1, q2, qG, qP, qK, qD⟩ := q; exact ⟨q0, q1, q2, GW.blind qG, qP, va_K.moved (u := U) (U := U.calling g mk a) (Vm.Alike.refl U.vm) qK, qD⟩, va_recv hKc hPc (ci := 7) (q0 := 0) rfl rfl, fun U hU hW => ⟨rfl, by rw [hU], Nat.le_trans hn0 hS.1, GW.go hW hU hG (fun q hq hA9 => hS.2.1 q hq (fun h => hA9 (hA0 q h))), by rw [hU]; exact hPc, va_K.moved hW.alike hKc, hDc.weaken (fun _ _ _ h => hA0 _ h)⟩⟩ rfl rfl hl.1 rfl (lv_room (Nat.le_of_ble_eq_true rfl)) dX11_feed_39 ⟨Nat.le_of_ble_eq_true rfl, Nat.le_of_ble_eq_true rfl⟩) hS (fun q _ h => hFc q h) hFc (fun u t H1 locs ht hvm hw_10 hB hz1 hk1 hS => ?_)
    obtain ⟨f2_11, hP1, hK1, hD1⟩ := hB
    rw [ht] at hP1
    obtain ⟨hP, hD⟩ := va_join (wr := [(x0, .inr (11, [.ref rd, .ref dr, .ref bk, .ref st, .ref nw, .ref tr, .ref pl, .ref fl, .ref rg, .int 0, .int 0, .int 0]))]) (w1 := [(rd, .inr (7, [.ref rd_tape, .int (nI (((0 + 4) + 4) + 4)), .int 0, .int 0, .ref dr, .ref rd_names, .ref rd_nameKind, .ref rd_nameNumber, .int 0, .ref rd_knotNames, .int 0, .int 0, .int 0, .int 0, .long 0])), (rd_tape, .inl (kt, 600, .inl f2_11))]) hP hD [1, 2] [0] rfl rfl (by decide) (by decide) hk1 hFc hP1 hD1
    generalize H1 = H at hP hS ⊢
    have hP : va_P (dC, dI) classes [(x0, .inr (11, [.ref rd, .ref dr, .ref bk, .ref st, .ref nw, .ref tr, .ref pl, .ref fl, .ref rg, .int 0, .int 0, .int 0])), (rd, .inr (7, [.ref rd_tape, .int (nI (((0 + 4) + 4) + 4)), .int 0, .int 0, .ref dr, .ref rd_names, .ref rd_nameKind, .ref rd_nameNumber, .int 0, .ref rd_knotNames, .int 0, .int 0, .int 0, .int 0, .long 0])), (rd_tape, .inl (kt, 600, .inl f2_11))] H := hP
    have hD : va_D A [(x0, .inr (11, [.ref rd, .ref dr, .ref bk, .ref st, .ref nw, .ref tr, .ref pl, .ref fl, .ref rg, .int 0, .int 0, .int 0])), (rd, .inr (7, [.ref rd_tape, .int (nI (((0 + 4) + 4) + 4)), .int 0, .int 0, .ref dr, .ref rd_names, .ref rd_nameKind, .ref rd_nameNumber, .int 0, .ref rd_knotNames, .int 0, .int 0, .int 0, .int 0, .long 0])), (rd_tape, .inl (kt, 600, .inl f2_11))] := hD
    refine lv_aload_n hx hb dX11_feed_42 rfl (lv_at hl 0 rfl) ?_
    refine va_get (D := (dC, dI)) (ci := 11) (v := .ref rd) (C := RX11) (T := TX11) (N := 12) hx hb hts (fun w h => wM_c (iX11 w h)) hown hK hP 0 rfl rfl 0 (by decide) (hts _ (wM_c wd_670)) (fun _ h9 => h9) rfl dX11_feed_43 ?_
    refine lv_iload hx hb dX11_feed_46 (lv_at hl 4 rfl) ?_
    have hPc := hP.sub (ws' := [(rd, .inr (7, [.ref rd_tape, .int (nI (((0 + 4) + 4) + 4)), .int 0, .int 0, .ref dr, .ref rd_names, .ref rd_nameKind, .ref rd_nameNumber, .int 0, .ref rd_knotNames, .int 0, .int 0, .int 0, .int 0, .long 0])), (rd_tape, .inl (kt, 600, .inl f2_11))]) [1, 2] rfl
    have hDc := hD.sub (ws' := [(rd, .inr (7, [.ref rd_tape, .int (nI (((0 + 4) + 4) + 4)), .int 0, .int 0, .ref dr, .ref rd_names, .ref rd_nameKind, .ref rd_nameNumber, .int 0, .ref rd_knotNames, .int 0, .int 0, .int 0, .int 0, .long 0])), (rd_tape, .inl (kt, 600, .inl f2_11))]) [1, 2] (by decide) rfl
    have hKc := hK.sub (tys' := [(kt, .int)]) [0] rfl
    have hFc := va_free (wc := [(rd, .inr (7, [.ref rd_tape, .int (nI (((0 + 4) + 4) + 4)), .int 0, .int 0, .ref dr, .ref rd_names, .ref rd_nameKind, .ref rd_nameNumber, .int 0, .ref rd_knotNames, .int 0, .int 0, .int 0, .int 0, .long 0])), (rd_tape, .inl (kt, 600, .inl f2_11))]) hD hS hA [1, 2] rfl
    refine va_callv (va_runV (As := [.int dv]) (rest := []) ⟨hx, hb, hml, hown, hts⟩ (c_append l dC dI n0 H.size rd rd_tape 0 0 dr rd_names rd_nameKind rd_nameNumber 0 rd_knotNames 0 0 0 0 0 (((0 + 4) + 4) + 4) kt f2_11 dv (by decide)) (cwV 1 hts (gV (fun w h => wM_c h) wd_714 wd_711 wd_712 wd_713 wd_117) rfl rfl rfl (by decide +kernel) ⟨Nat.le_of_ble_eq_true rfl, Nat.le_of_ble_eq_true rfl⟩) ⟨fun a U g mk q => by obtain ⟨q0, q1, q2, qG, qP, qK, qD⟩ := q; exact ⟨q0, q1, q2, GW.blind qG, qP, va_K.moved (u := U) (U := U.calling g mk a) (Vm.Alike.refl U.vm) qK, qD⟩, va_recv hKc hPc (ci := 7) (q0 := 0) rfl rfl, fun U hU hW => ⟨rfl, by rw [hU], Nat.le_trans hn0 hS.1, GW.go hW hU hG (fun q hq hA9 => hS.2.1 q hq (fun h => hA9 (hA0 q h))), by rw [hU]; exact hPc, va_K.moved hW.alike hKc, hDc.weaken (fun _ _ _ h => hA0 _ h)⟩⟩ rfl rfl hl.1 rfl (lv_room (Nat.le_of_ble_eq_true rfl)) dX11_feed_48 ⟨Nat.le_of_ble_eq_true rfl, Nat.le_of_ble_eq_true rfl⟩) hS (fun q _ h => hFc q h) hFc (fun u t H1 locs ht hvm hw_13 hB hz1 hk1 hS => ?_)
    obtain ⟨f2_14, hP1, hK1, hD1⟩ := hB
    rw [ht] at hP1
    obtain ⟨hP, hD⟩ := va_join (wr := [(x0, .inr (11, [.ref rd, .ref dr, .ref bk, .ref st, .ref nw, .ref tr, .ref pl, .ref fl, .ref rg, .int 0, .int 0, .int 0]))]) (w1 := [(rd, .inr (7, [.ref rd_tape, .int (nI ((((0 + 4) + 4) + 4) + 4)), .int 0, .int 0, .ref dr, .ref rd_names, .ref rd_nameKind, .ref rd_nameNumber, .int 0, .ref rd_knotNames, .int 0, .int 0, .int 0, .int 0, .long 0])), (rd_tape, .inl (kt, 600, .inl f2_14))]) hP hD [1, 2] [0] rfl rfl (by decide) (by decide) hk1 hFc hP1 hD1
    generalize H1 = H at hP hS ⊢
    have hP : va_P (dC, dI) classes [(x0, .inr (11, [.ref rd, .ref dr, .ref bk, .ref st, .ref nw, .ref tr, .ref pl, .ref fl, .ref rg, .int 0, .int 0, .int 0])), (rd, .inr (7, [.ref rd_tape, .int (nI ((((0 + 4) + 4) + 4) + 4)), .int 0, .int 0, .ref dr, .ref rd_names, .ref rd_nameKind, .ref rd_nameNumber, .int 0, .ref rd_knotNames, .int 0, .int 0, .int 0, .int 0, .long 0])), (rd_tape, .inl (kt, 600, .inl f2_14))] H := hP
    have hD : va_D A [(x0, .inr (11, [.ref rd, .ref dr, .ref bk, .ref st, .ref nw, .ref tr, .ref pl, .ref fl, .ref rg, .int 0, .int 0, .int 0])), (rd, .inr (7, [.ref rd_tape, .int (nI ((((0 + 4) + 4) + 4) + 4)), .int 0, .int 0, .ref dr, .ref rd_names, .ref rd_nameKind, .ref rd_nameNumber, .int 0, .ref rd_knotNames, .int 0, .int 0, .int 0, .int 0, .long 0])), (rd_tape, .inl (kt, 600, .inl f2_14))] := hD
    refine lv_aload_n hx hb dX11_feed_51 rfl (lv_at hl 0 rfl) ?_
    refine va_get (D := (dC, dI)) (ci := 11) (v := .ref rd) (C := RX11) (T := TX11) (N := 12) hx hb hts (fun w h => wM_c (iX11 w h)) hown hK hP 0 rfl rfl 0 (by decide) (hts _ (wM_c wd_670)) (fun _ h9 => h9) rfl dX11_feed_52 ?_
    refine lv_iload hx hb dX11_feed_55 (lv_at hl 5 rfl) ?_
    have hPc := hP.sub (ws' := [(rd, .inr (7, [.ref rd_tape, .int (nI ((((0 + 4) + 4) + 4) + 4)), .int 0, .int 0, .ref dr, .ref rd_names, .ref rd_nameKind, .ref rd_nameNumber, .int 0, .ref rd_knotNames, .int 0, .int 0, .int 0, .int 0, .long 0])), (rd_tape, .inl (kt, 600, .inl f2_14))]) [1, 2] rfl
    have hDc := hD.sub (ws' := [(rd, .inr (7, [.ref rd_tape, .int (nI ((((0 + 4) + 4) + 4) + 4)), .int 0, .int 0, .ref dr, .ref rd_names, .ref rd_nameKind, .ref rd_nameNumber, .int 0, .ref rd_knotNames, .int 0, .int 0, .int 0, .int 0, .long 0])), (rd_tape, .inl (kt, 600, .inl f2_14))]) [1, 2] (by decide) rfl
    have hKc := hK.sub (tys' := [(kt, .int)]) [0] rfl
    have hFc := va_free (wc := [(rd, .inr (7, [.ref rd_tape, .int (nI ((((0 + 4) + 4) + 4) + 4)), .int 0, .int 0, .ref dr, .ref rd_names, .ref rd_nameKind, .ref rd_nameNumber, .int 0, .ref rd_knotNames, .int 0, .int 0, .int 0, .int 0, .long 0])), (rd_tape, .inl (kt, 600, .inl f2_14))]) hD hS hA [1, 2] rfl
    refine va_callv (va_runV (As := [.int ev]) (rest := []) ⟨hx, hb, hml, hown, hts⟩ (c_append l dC dI n0 H.size rd rd_tape 0 0 dr rd_names rd_nameKind rd_nameNumber 0 rd_knotNames 0 0 0 0 0 ((((0 + 4) + 4) + 4) + 4) kt f2_14 ev (by decide)) (cwV 1 hts (gV (fun w h => wM_c h) wd_714 wd_711 wd_712 wd_713 wd_117) rfl rfl rfl (by decide +kernel) ⟨Nat.le_of_ble_eq_true rfl, Nat.le_of_ble_eq_true rfl⟩) ⟨fun a U g mk q => by obtain ⟨q0, q1, q2, qG, qP, qK, qD⟩ := q; exact ⟨q0, q1, q2, GW.blind qG, qP, va_K.moved (u := U) (U := U.calling g mk a) (Vm.Alike.refl U.vm) qK, qD⟩, va_recv hKc hPc (ci := 7) (q0 := 0) rfl rfl, fun U hU hW => ⟨rfl, by rw [hU], Nat.le_trans hn0 hS.1, GW.go hW hU hG (fun q hq hA9 => hS.2.1 q hq (fun h => hA9 (hA0 q h))), by rw [hU]; exact hPc, va_K.moved hW.alike hKc, hDc.weaken (fun _ _ _ h => hA0 _ h)⟩⟩ rfl rfl hl.1 rfl (lv_room (Nat.le_of_ble_eq_true rfl)) dX11_feed_57 ⟨Nat.le_of_ble_eq_true rfl, Nat.le_of_ble_eq_true rfl⟩) hS (fun q _ h => hFc q h) hFc (fun u t H1 locs ht hvm hw_16 hB hz1 hk1 hS => ?_)
    obtain ⟨f2_17, hP1, hK1, hD1⟩ := hB
    rw [ht] at hP1
    obtain ⟨hP, hD⟩ := va_join (wr := [(x0, .inr (11, [.ref rd, .ref dr, .ref bk, .ref st, .ref nw, .ref tr, .ref pl, .ref fl, .ref rg, .int 0, .int 0, .int 0]))]) (w1 := [(rd, .inr (7, [.ref rd_tape, .int (nI (((((0 + 4) + 4) + 4) + 4) + 4)), .int 0, .int 0, .ref dr, .ref rd_names, .ref rd_nameKind, .ref rd_nameNumber, .int 0, .ref rd_knotNames, .int 0, .int 0, .int 0, .int 0, .long 0])), (rd_tape, .inl (kt, 600, .inl f2_17))]) hP hD [1, 2] [0] rfl rfl (by decide) (by decide) hk1 hFc hP1 hD1
    generalize H1 = H at hP hS ⊢
    have hP : va_P (dC, dI) classes [(x0, .inr (11, [.ref rd, .ref dr, .ref bk, .ref st, .ref nw, .ref tr, .ref pl, .ref fl, .ref rg, .int 0, .int 0, .int 0])), (rd, .inr (7, [.ref rd_tape, .int (nI (((((0 + 4) + 4) + 4) + 4) + 4)), .int 0, .int 0, .ref dr, .ref rd_names, .ref rd_nameKind, .ref rd_nameNumber, .int 0, .ref rd_knotNames, .int 0, .int 0, .int 0, .int 0, .long 0])), (rd_tape, .inl (kt, 600, .inl f2_17))] H := hP
    have hD : va_D A [(x0, .inr (11, [.ref rd, .ref dr, .ref bk, .ref st, .ref nw, .ref tr, .ref pl, .ref fl, .ref rg, .int 0, .int 0, .int 0])), (rd, .inr (7, [.ref rd_tape, .int (nI (((((0 + 4) + 4) + 4) + 4) + 4)), .int 0, .int 0, .ref dr, .ref rd_names, .ref rd_nameKind, .ref rd_nameNumber, .int 0, .ref rd_knotNames, .int 0, .int 0, .int 0, .int 0, .long 0])), (rd_tape, .inl (kt, 600, .inl f2_17))] := hD
    refine lv_aload_n hx hb dX11_feed_60 rfl (lv_at hl 0 rfl) ?_
    refine va_get (D := (dC, dI)) (ci := 11) (v := .ref rd) (C := RX11) (T := TX11) (N := 12) hx hb hts (fun w h => wM_c (iX11 w h)) hown hK hP 0 rfl rfl 0 (by decide) (hts _ (wM_c wd_670)) (fun _ h9 => h9) rfl dX11_feed_61 ?_
    refine va_get (D := (dC, dI)) (ci := 7) (v := .int (nI (((((0 + 4) + 4) + 4) + 4) + 4))) (C := RX7) (T := TX7) (N := 15) hx hb hts (fun w h => wM_c (iX7 w h)) hown hK hP 1 rfl rfl 1 (by decide) (hts _ (wM_c wd_334)) (fun _ h9 => h9) rfl dX11_feed_64 ?_
    exact W.iret (v := (nI (((((0 + 4) + 4) + 4) + 4) + 4))) hx hb hr (fun t ht hW => ⟨⟨(nI (((((0 + 4) + 4) + 4) + 4) + 4)), (), rfl, (by decide), trivial⟩, hS.F ht⟩) hS.2.2 dX11_feed_67
  · exact absurd c_2 (by decide)
