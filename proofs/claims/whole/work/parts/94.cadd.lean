theorem wd_927 : Cond.instanceMethod (⟨"MineAir$Plan", "forget", "()V"⟩ : MethodName) ∈ wG := wG_of 927 (by decide +kernel) (by decide +kernel)
theorem wd_928 : Cond.selects "MineAir$Plan" (⟨"MineAir$Plan", "forget", "()V"⟩ : MethodName) (⟨"MineAir$Plan", "forget", "()V"⟩ : MethodName) ∈ wG := wG_of 928 (by decide +kernel) (by decide +kernel)
theorem wd_929 : Cond.code (⟨"MineAir$Plan", "forget", "()V"⟩ : MethodName) prog_8_method_2_code 1 (Option.none : Option Jvm.ClassFile.FieldType) ∈ wG := wG_of 929 (by decide +kernel) (by decide +kernel)
theorem wd_1270 : Cond.methodLink "MineAir$Plan" 45 (⟨"MineAir$Plan", "forget", "()V"⟩ : MethodName) ∈ wG := wG_of 1270 (by decide +kernel) (by decide +kernel)
theorem dX6_add_0 : decode cX6_add 0 = .ok (.aload_n 0, 1) := by decide +kernel
theorem dX6_add_1 : decode cX6_add 1 = .ok (.getfield 15, 3) := by decide +kernel
theorem dX6_add_4 : decode cX6_add 4 = .ok (.aload_n 0, 1) := by decide +kernel
theorem dX6_add_5 : decode cX6_add 5 = .ok (.getfield 42, 3) := by decide +kernel
theorem dX6_add_8 : decode cX6_add 8 = .ok (.iload_n 1, 1) := by decide +kernel
theorem dX6_add_9 : decode cX6_add 9 = .ok (.iastore, 1) := by decide +kernel
theorem dX6_add_10 : decode cX6_add 10 = .ok (.aload_n 0, 1) := by decide +kernel
theorem dX6_add_11 : decode cX6_add 11 = .ok (.getfield 18, 3) := by decide +kernel
theorem dX6_add_14 : decode cX6_add 14 = .ok (.aload_n 0, 1) := by decide +kernel
theorem dX6_add_15 : decode cX6_add 15 = .ok (.getfield 42, 3) := by decide +kernel
theorem dX6_add_18 : decode cX6_add 18 = .ok (.iload_n 2, 1) := by decide +kernel
theorem dX6_add_19 : decode cX6_add 19 = .ok (.iastore, 1) := by decide +kernel
theorem dX6_add_20 : decode cX6_add 20 = .ok (.aload_n 0, 1) := by decide +kernel
theorem dX6_add_21 : decode cX6_add 21 = .ok (.getfield 21, 3) := by decide +kernel
theorem dX6_add_24 : decode cX6_add 24 = .ok (.aload_n 0, 1) := by decide +kernel
theorem dX6_add_25 : decode cX6_add 25 = .ok (.getfield 42, 3) := by decide +kernel
theorem dX6_add_28 : decode cX6_add 28 = .ok (.iload_n 3, 1) := by decide +kernel
theorem dX6_add_29 : decode cX6_add 29 = .ok (.iastore, 1) := by decide +kernel
theorem dX6_add_30 : decode cX6_add 30 = .ok (.aload_n 0, 1) := by decide +kernel
theorem dX6_add_31 : decode cX6_add 31 = .ok (.dup, 1) := by decide +kernel
theorem dX6_add_32 : decode cX6_add 32 = .ok (.getfield 42, 3) := by decide +kernel
theorem dX6_add_35 : decode cX6_add 35 = .ok (.iconst 1, 1) := by decide +kernel
theorem dX6_add_36 : decode cX6_add 36 = .ok (.iadd, 1) := by decide +kernel
theorem dX6_add_37 : decode cX6_add 37 = .ok (.putfield 42, 3) := by decide +kernel
theorem dX6_add_40 : decode cX6_add 40 = .ok (.aload_n 0, 1) := by decide +kernel
theorem dX6_add_41 : decode cX6_add 41 = .ok (.invokevirtual 45, 3) := by decide +kernel
theorem dX6_add_44 : decode cX6_add 44 = .ok (.aload_n 0, 1) := by decide +kernel
theorem dX6_add_45 : decode cX6_add 45 = .ok (.getfield 42, 3) := by decide +kernel
theorem dX6_add_48 : decode cX6_add 48 = .ok (.iconst 1, 1) := by decide +kernel
theorem dX6_add_49 : decode cX6_add 49 = .ok (.isub, 1) := by decide +kernel
theorem dX6_add_50 : decode cX6_add 50 = .ok (.ireturn, 1) := by decide +kernel
theorem dX6_carryOut_0 : decode cX6_carryOut 0 = .ok (.iconst 0, 1) := by decide +kernel
theorem dX6_carryOut_1 : decode cX6_carryOut 1 = .ok (.istore_n 1, 1) := by decide +kernel
theorem dX6_carryOut_2 : decode cX6_carryOut 2 = .ok (.iload_n 1, 1) := by decide +kernel
theorem dX6_carryOut_3 : decode cX6_carryOut 3 = .ok (.aload_n 0, 1) := by decide +kernel
theorem dX6_carryOut_4 : decode cX6_carryOut 4 = .ok (.getfield 42, 3) := by decide +kernel
theorem dX6_carryOut_7 : decode cX6_carryOut 7 = .ok (.if_icmp .ge 30, 3) := by decide +kernel
theorem dX6_carryOut_10 : decode cX6_carryOut 10 = .ok (.aload_n 0, 1) := by decide +kernel
theorem dX6_carryOut_11 : decode cX6_carryOut 11 = .ok (.aload_n 0, 1) := by decide +kernel
theorem dX6_carryOut_12 : decode cX6_carryOut 12 = .ok (.getfield 9, 3) := by decide +kernel
theorem dX6_carryOut_15 : decode cX6_carryOut 15 = .ok (.iload_n 1, 1) := by decide +kernel
theorem dX6_carryOut_16 : decode cX6_carryOut 16 = .ok (.iaload, 1) := by decide +kernel
theorem dX6_carryOut_17 : decode cX6_carryOut 17 = .ok (.aload_n 0, 1) := by decide +kernel
theorem dX6_carryOut_18 : decode cX6_carryOut 18 = .ok (.getfield 21, 3) := by decide +kernel
theorem dX6_carryOut_21 : decode cX6_carryOut 21 = .ok (.aload_n 0, 1) := by decide +kernel
theorem dX6_carryOut_22 : decode cX6_carryOut 22 = .ok (.getfield 9, 3) := by decide +kernel
theorem dX6_carryOut_25 : decode cX6_carryOut 25 = .ok (.iload_n 1, 1) := by decide +kernel
theorem dX6_carryOut_26 : decode cX6_carryOut 26 = .ok (.iaload, 1) := by decide +kernel
theorem dX6_carryOut_27 : decode cX6_carryOut 27 = .ok (.iaload, 1) := by decide +kernel
theorem dX6_carryOut_28 : decode cX6_carryOut 28 = .ok (.invokevirtual 67, 3) := by decide +kernel
theorem dX6_carryOut_31 : decode cX6_carryOut 31 = .ok (.iinc 1 1, 3) := by decide +kernel
theorem dX6_carryOut_34 : decode cX6_carryOut 34 = .ok (.goto (-32), 3) := by decide +kernel
theorem dX6_carryOut_37 : decode cX6_carryOut 37 = .ok (.aload_n 0, 1) := by decide +kernel
theorem dX6_carryOut_38 : decode cX6_carryOut 38 = .ok (.iconst 0, 1) := by decide +kernel
theorem dX6_carryOut_39 : decode cX6_carryOut 39 = .ok (.putfield 42, 3) := by decide +kernel
theorem dX6_carryOut_42 : decode cX6_carryOut 42 = .ok (.return_, 1) := by decide +kernel
set_option maxHeartbeats 4000000 in
set_option maxRecDepth 100000 in
theorem c6_add (l : Launch) (dC : Nat → ClassId) (dI : Nat → Nat → Nat) (n0 : Nat) (atx : Nat → Nat × Nat) (sz : Nat) (pl : Nat) (pn : Nat) (pl_order : Nat) (st : Nat) (j2 : Nat) (jd : Nat) (pl_kind : Nat) (pl_which : Nat) (pl_value : Nat) (pl_soundBy : Nat) (pl_found : Int32) (pl_made : Int32) (k_pl_kind : ClassId) (f_pl_kind : Nat → Int32) (k_pl_which : ClassId) (f_pl_which : Nat → Int32) (k_pl_value : ClassId) (f_pl_value : Nat → Int32) (w : Int32) (v : Int32) (u3 : Int32) (hpn : pn < 5) (h_pc : pcI f_pl_kind f_pl_which) (hwv : (w = 0 → v.toInt < 6) ∧ (w = 1 → v.toInt < 4) ∧ 0 ≤ v.toInt ∧ v.toInt < 14) : Met l yX6_add (wM yX6_add cX6_add 4 (some .int)) ({ frames := 1, cells := 0, slots := 0, locals := 20 }) (va_Pc [.ref pl, .int w, .int v, .int u3] (fun U => U.heap.size = sz ∧ n0 ≤ sz ∧ GW n0 atx U ∧ va_P (dC, dI) classes [(pl, .inr (6, [.int (nI pn), .ref pl_order, .ref st, .ref j2, .ref jd, .ref pl_kind, .ref pl_which, .ref pl_value, .ref pl_soundBy, .int pl_found, .int pl_made])), (pl_kind, .inl (k_pl_kind, 5, .inl f_pl_kind)), (pl_which, .inl (k_pl_which, 5, .inl f_pl_which)), (pl_value, .inl (k_pl_value, 5, .inl f_pl_value))] U.heap ∧ va_K (dC, dI) classes [(k_pl_kind, .int), (k_pl_which, .int), (k_pl_value, .int)] U ∧ va_D (fun q => n0 ≤ q) [(pl, .inr (6, [.int (nI pn), .ref pl_order, .ref st, .ref j2, .ref jd, .ref pl_kind, .ref pl_which, .ref pl_value, .ref pl_soundBy, .int pl_found, .int pl_made])), (pl_kind, .inl (k_pl_kind, 5, .inl f_pl_kind)), (pl_which, .inl (k_pl_which, 5, .inl f_pl_which)), (pl_value, .inl (k_pl_value, 5, .inl f_pl_value))])) (va_Qi (fun (r : Int32) (_ : Unit) => r = nI pn) (fun (_ : Unit) (t : State) => ∃ (ki9 : Nat → Int32), ∃ (wh9 : Nat → Int32), ∃ (va9 : Nat → Int32), (pcI ki9 wh9) ∧ va_P (dC, dI) classes [(pl, .inr (6, [.int (nI (pn + 1)), .ref pl_order, .ref st, .ref j2, .ref jd, .ref pl_kind, .ref pl_which, .ref pl_value, .ref pl_soundBy, .int 0, .int pl_made])), (pl_kind, .inl (k_pl_kind, 5, .inl ki9)), (pl_which, .inl (k_pl_which, 5, .inl wh9)), (pl_value, .inl (k_pl_value, 5, .inl va9))] t.heap ∧ va_K (dC, dI) classes [(k_pl_kind, .int), (k_pl_which, .int), (k_pl_value, .int)] t ∧ va_D (va_A [(pl, .inr (6, [.int (nI pn), .ref pl_order, .ref st, .ref j2, .ref jd, .ref pl_kind, .ref pl_which, .ref pl_value, .ref pl_soundBy, .int pl_found, .int pl_made])), (pl_kind, .inl (k_pl_kind, 5, .inl f_pl_kind)), (pl_which, .inl (k_pl_which, 5, .inl f_pl_which)), (pl_value, .inl (k_pl_value, 5, .inl f_pl_value))] sz) [(pl, .inr (6, [.int (nI (pn + 1)), .ref pl_order, .ref st, .ref j2, .ref jd, .ref pl_kind, .ref pl_which, .ref pl_value, .ref pl_soundBy, .int 0, .int pl_made])), (pl_kind, .inl (k_pl_kind, 5, .inl ki9)), (pl_which, .inl (k_pl_which, 5, .inl wh9)), (pl_value, .inl (k_pl_value, 5, .inl va9))]) (va_A [(pl, .inr (6, [.int (nI pn), .ref pl_order, .ref st, .ref j2, .ref jd, .ref pl_kind, .ref pl_which, .ref pl_value, .ref pl_soundBy, .int pl_found, .int pl_made])), (pl_kind, .inl (k_pl_kind, 5, .inl f_pl_kind)), (pl_which, .inl (k_pl_which, 5, .inl f_pl_which)), (pl_value, .inl (k_pl_value, 5, .inl f_pl_value))] sz)) 0 0 (va_A [(pl, .inr (6, [.int (nI pn), .ref pl_order, .ref st, .ref j2, .ref jd, .ref pl_kind, .ref pl_which, .ref pl_value, .ref pl_soundBy, .int pl_found, .int pl_made])), (pl_kind, .inl (k_pl_kind, 5, .inl f_pl_kind)), (pl_which, .inl (k_pl_which, 5, .inl f_pl_which)), (pl_value, .inl (k_pl_value, 5, .inl f_pl_value))] sz) := by
  refine Met.ofW (cc := cX6_add) (maxL := 4) (ret := (some .int)) (by decide) rfl ?_
  intro p e s m args below meth c s₁ B hml hv
  obtain ⟨rfl, hsz, hn0, hG, hP, hK, hD0⟩ := hv
  have hx := B.exec
  have hb := B.bytes
  have hr := B.returns
  have hts := atoms_spec (ws := wM yX6_add cX6_add 4 (some .int)) B.pre
  have hown : s.vm.findClass RX6 = some m.cls := findClass_of_methodNamed B.named
  have hlocks := B.notSynchronized
  subst hsz
  have hD := hD0.self (sz := s.heap.size)
  have hA0 := vA_n0 hD0 hn0
  generalize hAe : va_A [(pl, .inr (6, [.int (nI pn), .ref pl_order, .ref st, .ref j2, .ref jd, .ref pl_kind, .ref pl_which, .ref pl_value, .ref pl_soundBy, .int pl_found, .int pl_made])), (pl_kind, .inl (k_pl_kind, 5, .inl f_pl_kind)), (pl_which, .inl (k_pl_which, 5, .inl f_pl_which)), (pl_value, .inl (k_pl_value, 5, .inl f_pl_value))] s.heap.size = A at hD hA0 ⊢
  have hA : ∀ q : Nat, s.heap.size ≤ q → A q := fun q h => by rw [← hAe]; exact Or.inr h
  have hS : va_S A s.heap s.heap [] := va_S.rf
  have hl := lv_entry ([.ref pl, .int w, .int v, .int u3]) (n := 4) (Nat.le_of_ble_eq_true rfl)
  rw [lg_entry_eq]
  generalize (lg_sl ([.ref pl, .int w, .int v, .int u3]) ++ List.replicate (4 - (lg_sl ([.ref pl, .int w, .int v, .int u3])).length) Slot.unset).toArray = ls at hl ⊢
  have hl : lv_has ls 4 [(0, .ref pl), (1, .int w), (2, .int v), (3, .int u3)] := hl
  refine lv_aload_n hx hb dX6_add_0 rfl (lv_at hl 0 rfl) ?_
  refine va_get (D := (dC, dI)) (ci := 6) (v := .ref pl_kind) (C := RX6) (T := TX6) (N := 11) hx hb hts (fun w h => wM_c (iX6 w h)) hown hK hP 0 rfl rfl 5 (by decide) (hts _ (wM_c wd_579)) (fun _ h9 => h9) rfl dX6_add_1 ?_
  refine lv_aload_n hx hb dX6_add_4 rfl (lv_at hl 0 rfl) ?_
  refine va_get (D := (dC, dI)) (ci := 6) (v := .int (nI pn)) (C := RX6) (T := TX6) (N := 11) hx hb hts (fun w h => wM_c (iX6 w h)) hown hK hP 0 rfl rfl 0 (by decide) (hts _ (wM_c wd_572)) (fun _ h9 => h9) rfl dX6_add_5 ?_
  refine lv_iload_n hx hb dX6_add_8 rfl (lv_at hl 1 rfl) ?_
  refine va_iast hx hb hK hP hD hS 1 0 rfl rfl (vp_in_nI (n := pn) (by omega) (by omega)) dX6_add_9 (fun H locs hP hD hS => ?_)
  obtain ⟨f_1, ef_1⟩ : ∃ f9, f9 = (upd f_pl_kind (nI pn).toNatClampNeg w) := ⟨_, rfl⟩
  obtain ⟨hP, hD⟩ : s3_w (dC, dI) classes A [(pl, .inr (6, [.int (nI pn), .ref pl_order, .ref st, .ref j2, .ref jd, .ref pl_kind, .ref pl_which, .ref pl_value, .ref pl_soundBy, .int pl_found, .int pl_made])), (pl_kind, .inl (k_pl_kind, 5, .inl f_1)), (pl_which, .inl (k_pl_which, 5, .inl f_pl_which)), (pl_value, .inl (k_pl_value, 5, .inl f_pl_value))] H := ⟨(by rw [ef_1]; exact hP), (by rw [ef_1]; exact hD)⟩
  refine lv_aload_n hx hb dX6_add_10 rfl (lv_at hl 0 rfl) ?_
  refine va_get (D := (dC, dI)) (ci := 6) (v := .ref pl_which) (C := RX6) (T := TX6) (N := 11) hx hb hts (fun w h => wM_c (iX6 w h)) hown hK hP 0 rfl rfl 6 (by decide) (hts _ (wM_c wd_580)) (fun _ h9 => h9) rfl dX6_add_11 ?_
  refine lv_aload_n hx hb dX6_add_14 rfl (lv_at hl 0 rfl) ?_
  refine va_get (D := (dC, dI)) (ci := 6) (v := .int (nI pn)) (C := RX6) (T := TX6) (N := 11) hx hb hts (fun w h => wM_c (iX6 w h)) hown hK hP 0 rfl rfl 0 (by decide) (hts _ (wM_c wd_572)) (fun _ h9 => h9) rfl dX6_add_15 ?_
  refine lv_iload_n hx hb dX6_add_18 rfl (lv_at hl 2 rfl) ?_
  refine va_iast hx hb hK hP hD hS 2 1 rfl rfl (vp_in_nI (n := pn) (by omega) (by omega)) dX6_add_19 (fun H locs hP hD hS => ?_)
  obtain ⟨f_2, ef_2⟩ : ∃ f9, f9 = (upd f_pl_which (nI pn).toNatClampNeg v) := ⟨_, rfl⟩
  obtain ⟨hP, hD⟩ : s3_w (dC, dI) classes A [(pl, .inr (6, [.int (nI pn), .ref pl_order, .ref st, .ref j2, .ref jd, .ref pl_kind, .ref pl_which, .ref pl_value, .ref pl_soundBy, .int pl_found, .int pl_made])), (pl_kind, .inl (k_pl_kind, 5, .inl f_1)), (pl_which, .inl (k_pl_which, 5, .inl f_2)), (pl_value, .inl (k_pl_value, 5, .inl f_pl_value))] H := ⟨(by rw [ef_2]; exact hP), (by rw [ef_2]; exact hD)⟩
  refine lv_aload_n hx hb dX6_add_20 rfl (lv_at hl 0 rfl) ?_
  refine va_get (D := (dC, dI)) (ci := 6) (v := .ref pl_value) (C := RX6) (T := TX6) (N := 11) hx hb hts (fun w h => wM_c (iX6 w h)) hown hK hP 0 rfl rfl 7 (by decide) (hts _ (wM_c wd_581)) (fun _ h9 => h9) rfl dX6_add_21 ?_
  refine lv_aload_n hx hb dX6_add_24 rfl (lv_at hl 0 rfl) ?_
  refine va_get (D := (dC, dI)) (ci := 6) (v := .int (nI pn)) (C := RX6) (T := TX6) (N := 11) hx hb hts (fun w h => wM_c (iX6 w h)) hown hK hP 0 rfl rfl 0 (by decide) (hts _ (wM_c wd_572)) (fun _ h9 => h9) rfl dX6_add_25 ?_
  refine lv_iload_n hx hb dX6_add_28 rfl (lv_at hl 3 rfl) ?_
  refine va_iast hx hb hK hP hD hS 3 2 rfl rfl (vp_in_nI (n := pn) (by omega) (by omega)) dX6_add_29 (fun H locs hP hD hS => ?_)
  obtain ⟨f_3, ef_3⟩ : ∃ f9, f9 = (upd f_pl_value (nI pn).toNatClampNeg u3) := ⟨_, rfl⟩
  obtain ⟨hP, hD⟩ : s3_w (dC, dI) classes A [(pl, .inr (6, [.int (nI pn), .ref pl_order, .ref st, .ref j2, .ref jd, .ref pl_kind, .ref pl_which, .ref pl_value, .ref pl_soundBy, .int pl_found, .int pl_made])), (pl_kind, .inl (k_pl_kind, 5, .inl f_1)), (pl_which, .inl (k_pl_which, 5, .inl f_2)), (pl_value, .inl (k_pl_value, 5, .inl f_3))] H := ⟨(by rw [ef_3]; exact hP), (by rw [ef_3]; exact hD)⟩
  refine lv_aload_n hx hb dX6_add_30 rfl (lv_at hl 0 rfl) ?_
  refine lv_dup hx hb dX6_add_31 rfl ?_
  refine va_get (D := (dC, dI)) (ci := 6) (v := .int (nI pn)) (C := RX6) (T := TX6) (N := 11) hx hb hts (fun w h => wM_c (iX6 w h)) hown hK hP 0 rfl rfl 0 (by decide) (hts _ (wM_c wd_572)) (fun _ h9 => h9) rfl dX6_add_32 ?_
  refine lv_iconst (v := 1) hx hb dX6_add_35 (by decide) ?_
  refine lv_iadd hx hb dX6_add_36 ?_
  refine lv_topi (fun v_4 ev_4 => ?_)
  obtain rfl : v_4 = nI (pn + 1) := ev_4.trans (nI_add pn 1)
  refine va_put (D := (dC, dI)) (ci := 6) (v := .int (nI (pn + 1))) (ty := .int) (C := RX6) (T := TX6) (N := 11) hx hb hts (fun w h => wM_c (iX6 w h)) tyX6 tyX6_ok nmX6 hown hK hP hD hS 0 rfl rfl 0 (by decide) (hts _ (wM_c wd_572)) (fun _ h9 => h9) rfl (by decide +kernel) rfl rfl (Nat.le_of_ble_eq_true rfl) dX6_add_37 (fun H locs hP hD hS => ?_)
  obtain ⟨hP, hD⟩ : s3_w (dC, dI) classes A [(pl, .inr (6, [.int (nI (pn + 1)), .ref pl_order, .ref st, .ref j2, .ref jd, .ref pl_kind, .ref pl_which, .ref pl_value, .ref pl_soundBy, .int pl_found, .int pl_made])), (pl_kind, .inl (k_pl_kind, 5, .inl f_1)), (pl_which, .inl (k_pl_which, 5, .inl f_2)), (pl_value, .inl (k_pl_value, 5, .inl f_3))] H := ⟨hP, hD⟩
  refine lv_aload_n hx hb dX6_add_40 rfl (lv_at hl 0 rfl) ?_
  obtain ⟨hPc, hDc, hFc⟩ := s3_c (ws' := [(pl, .inr (6, [.int (nI (pn + 1)), .ref pl_order, .ref st, .ref j2, .ref jd, .ref pl_kind, .ref pl_which, .ref pl_value, .ref pl_soundBy, .int pl_found, .int pl_made]))]) [0] hP hD hS hA rfl (by decide)
  have hKc := hK.sub (tys' := []) [] rfl
  refine va_callv (va_runV (As := []) (rest := []) ⟨hx, hb, hml, hown, hts⟩ (c6_forget l dC dI n0 atx H.size pl (pn + 1) pl_order st j2 jd pl_kind pl_which pl_value pl_soundBy pl_found pl_made ) (cwV 0 hts (gV (fun w h => wM_c h) wd_929 wd_1270 wd_927 wd_928 wd_123) rfl rfl rfl (by decide +kernel) ⟨Nat.le_of_ble_eq_true rfl, Nat.le_of_ble_eq_true rfl⟩) ⟨fun a U g mk q => by obtain ⟨q0, q1, q2, qG, qP, qK, qD⟩ := q; exact ⟨q0, q1, q2, GW.blind qG, qP, va_K.moved (u := U) (U := U.calling g mk a) (Vm.Alike.refl U.vm) qK, qD⟩, va_recv hKc hPc (ci := 6) (q0 := 0) rfl rfl, fun U hU hW => ⟨rfl, by rw [hU], Nat.le_trans hn0 hS.1, GW.go hW hU hG (fun q hq hA9 => hS.2.1 q hq (fun h => hA9 (hA0 q h))), by rw [hU]; exact hPc, va_K.moved hW.alike hKc, hDc.weaken (fun _ _ _ h => hA0 _ h)⟩⟩ rfl rfl hl.1 rfl (lv_room (Nat.le_of_ble_eq_true rfl)) dX6_add_41 ⟨Nat.le_of_ble_eq_true rfl, Nat.le_of_ble_eq_true rfl⟩) hS (fun q _ h => hFc q h) hFc (fun u t H1 locs ht hvm hw_6 hB hz1 hk1 hS => ?_)
  obtain ⟨hP1, hK1, hD1⟩ := hB
  rw [ht] at hP1
  obtain ⟨hP, hD⟩ := s3_j (L := [(pl_kind, .inl (k_pl_kind, 5, .inl f_1)), (pl_which, .inl (k_pl_which, 5, .inl f_2)), (pl_value, .inl (k_pl_value, 5, .inl f_3)), (pl, .inr (6, [.int (nI (pn + 1)), .ref pl_order, .ref st, .ref j2, .ref jd, .ref pl_kind, .ref pl_which, .ref pl_value, .ref pl_soundBy, .int 0, .int pl_made]))]) 3 hP hD [0] [1, 2, 3] hk1 hFc hP1 hD1 rfl rfl rfl (by decide) (by decide)
  generalize H1 = H at hP hS ⊢
  refine lv_aload_n hx hb dX6_add_44 rfl (lv_at hl 0 rfl) ?_
  refine va_get (D := (dC, dI)) (ci := 6) (v := .int (nI (pn + 1))) (C := RX6) (T := TX6) (N := 11) hx hb hts (fun w h => wM_c (iX6 w h)) hown hK hP 3 rfl rfl 0 (by decide) (hts _ (wM_c wd_572)) (fun _ h9 => h9) rfl dX6_add_45 ?_
  refine lv_iconst (v := 1) hx hb dX6_add_48 (by decide) ?_
  refine lv_isub hx hb dX6_add_49 ?_
  refine lv_topi (fun v_7 ev_7 => ?_)
  obtain rfl : v_7 = nI pn := ev_7.trans (nI_pred pn)
  have hK9 := hK.sub (tys' := [(k_pl_kind, .int), (k_pl_which, .int), (k_pl_value, .int)]) [0, 1, 2] rfl
  exact W.iret (v := (nI pn)) hx hb hr (fun t ht hW => ⟨⟨(nI pn), (), rfl, rfl, f_1, f_2, f_3, (pcI_upd h_pc (by omega) ef_1 ef_2 hwv), by rw [ht]; exact hP.sub [3, 0, 1, 2] rfl, va_K.moved hW.alike hK9, hD.sub [3, 0, 1, 2] (by decide) rfl⟩, hS.F ht⟩) hS.2.2 dX6_add_50
set_option maxHeartbeats 4000000 in
set_option maxRecDepth 100000 in
theorem c6_carryOut (l : Launch) (dC : Nat → ClassId) (dI : Nat → Nat → Nat) (n0 : Nat) (atx : Nat → Nat × Nat) (sz : Nat) (pl : Nat) (pn : Nat) (pl_order : Nat) (st : Nat) (j2 : Nat) (jd : Nat) (pl_kind : Nat) (pl_which : Nat) (pl_value : Nat) (pl_soundBy : Nat) (pl_found : Int32) (pl_made : Int32) (st_open : Nat) (st_speed : Nat) (st_fallen : Nat) (st_fire : Nat) (st_mark : Int32) (st_moreIn : Int32) (st_more : Int32) (bk : Nat) (k_st_open : ClassId) (f_st_open : Nat → Int32) (k_st_speed : ClassId) (f_st_speed : Nat → Int32) (k_st_fallen : ClassId) (f_st_fallen : Nat → Int32) (k_pl_kind : ClassId) (f_pl_kind : Nat → Int32) (k_pl_which : ClassId) (f_pl_which : Nat → Int32) (k_pl_order : ClassId) (f_pl_order : Nat → Int32) (k_pl_value : ClassId) (f_pl_value : Nat → Int32) (hpn : pn ≤ 5) (h_pc : pcI f_pl_kind f_pl_which) (q_or : rg f_pl_order 5 0 5) : Met l yX6_carryOut (wM yX6_carryOut cX6_carryOut 2 none) ({ frames := 1, cells := 0, slots := 0, locals := 23 }) (va_Pc [.ref pl] (fun U => U.heap.size = sz ∧ n0 ≤ sz ∧ GW n0 atx U ∧ va_P (dC, dI) classes [(pl, .inr (6, [.int (nI pn), .ref pl_order, .ref st, .ref j2, .ref jd, .ref pl_kind, .ref pl_which, .ref pl_value, .ref pl_soundBy, .int pl_found, .int pl_made])), (st, .inr (9, [.ref st_open, .ref st_speed, .ref st_fallen, .ref st_fire, .int st_mark, .int st_moreIn, .int st_more, .ref bk])), (st_open, .inl (k_st_open, 6, .inl f_st_open)), (st_speed, .inl (k_st_speed, 4, .inl f_st_speed)), (st_fallen, .inl (k_st_fallen, 14, .inl f_st_fallen)), (pl_kind, .inl (k_pl_kind, 5, .inl f_pl_kind)), (pl_which, .inl (k_pl_which, 5, .inl f_pl_which)), (pl_order, .inl (k_pl_order, 5, .inl f_pl_order)), (pl_value, .inl (k_pl_value, 5, .inl f_pl_value))] U.heap ∧ va_K (dC, dI) classes [(k_st_open, .boolean), (k_st_speed, .int), (k_st_fallen, .boolean), (k_pl_kind, .int), (k_pl_which, .int), (k_pl_order, .int), (k_pl_value, .int)] U ∧ va_D (fun q => n0 ≤ q) [(pl, .inr (6, [.int (nI pn), .ref pl_order, .ref st, .ref j2, .ref jd, .ref pl_kind, .ref pl_which, .ref pl_value, .ref pl_soundBy, .int pl_found, .int pl_made])), (st, .inr (9, [.ref st_open, .ref st_speed, .ref st_fallen, .ref st_fire, .int st_mark, .int st_moreIn, .int st_more, .ref bk])), (st_open, .inl (k_st_open, 6, .inl f_st_open)), (st_speed, .inl (k_st_speed, 4, .inl f_st_speed)), (st_fallen, .inl (k_st_fallen, 14, .inl f_st_fallen)), (pl_kind, .inl (k_pl_kind, 5, .inl f_pl_kind)), (pl_which, .inl (k_pl_which, 5, .inl f_pl_which)), (pl_order, .inl (k_pl_order, 5, .inl f_pl_order)), (pl_value, .inl (k_pl_value, 5, .inl f_pl_value))])) (va_Qv (fun _ : Unit => True) (fun (_ : Unit) (t : State) => ∃ (op9 : Nat → Int32), ∃ (sp9 : Nat → Int32), ∃ (fa9 : Nat → Int32), va_P (dC, dI) classes [(pl, .inr (6, [.int 0, .ref pl_order, .ref st, .ref j2, .ref jd, .ref pl_kind, .ref pl_which, .ref pl_value, .ref pl_soundBy, .int pl_found, .int pl_made])), (st, .inr (9, [.ref st_open, .ref st_speed, .ref st_fallen, .ref st_fire, .int st_mark, .int st_moreIn, .int st_more, .ref bk])), (st_open, .inl (k_st_open, 6, .inl op9)), (st_speed, .inl (k_st_speed, 4, .inl sp9)), (st_fallen, .inl (k_st_fallen, 14, .inl fa9)), (pl_kind, .inl (k_pl_kind, 5, .inl f_pl_kind)), (pl_which, .inl (k_pl_which, 5, .inl f_pl_which)), (pl_order, .inl (k_pl_order, 5, .inl f_pl_order)), (pl_value, .inl (k_pl_value, 5, .inl f_pl_value))] t.heap ∧ va_K (dC, dI) classes [(k_st_open, .boolean), (k_st_speed, .int), (k_st_fallen, .boolean), (k_pl_kind, .int), (k_pl_which, .int), (k_pl_order, .int), (k_pl_value, .int)] t ∧ va_D (va_A [(pl, .inr (6, [.int (nI pn), .ref pl_order, .ref st, .ref j2, .ref jd, .ref pl_kind, .ref pl_which, .ref pl_value, .ref pl_soundBy, .int pl_found, .int pl_made])), (st, .inr (9, [.ref st_open, .ref st_speed, .ref st_fallen, .ref st_fire, .int st_mark, .int st_moreIn, .int st_more, .ref bk])), (st_open, .inl (k_st_open, 6, .inl f_st_open)), (st_speed, .inl (k_st_speed, 4, .inl f_st_speed)), (st_fallen, .inl (k_st_fallen, 14, .inl f_st_fallen)), (pl_kind, .inl (k_pl_kind, 5, .inl f_pl_kind)), (pl_which, .inl (k_pl_which, 5, .inl f_pl_which)), (pl_order, .inl (k_pl_order, 5, .inl f_pl_order)), (pl_value, .inl (k_pl_value, 5, .inl f_pl_value))] sz) [(pl, .inr (6, [.int 0, .ref pl_order, .ref st, .ref j2, .ref jd, .ref pl_kind, .ref pl_which, .ref pl_value, .ref pl_soundBy, .int pl_found, .int pl_made])), (st, .inr (9, [.ref st_open, .ref st_speed, .ref st_fallen, .ref st_fire, .int st_mark, .int st_moreIn, .int st_more, .ref bk])), (st_open, .inl (k_st_open, 6, .inl op9)), (st_speed, .inl (k_st_speed, 4, .inl sp9)), (st_fallen, .inl (k_st_fallen, 14, .inl fa9)), (pl_kind, .inl (k_pl_kind, 5, .inl f_pl_kind)), (pl_which, .inl (k_pl_which, 5, .inl f_pl_which)), (pl_order, .inl (k_pl_order, 5, .inl f_pl_order)), (pl_value, .inl (k_pl_value, 5, .inl f_pl_value))]) (va_A [(pl, .inr (6, [.int (nI pn), .ref pl_order, .ref st, .ref j2, .ref jd, .ref pl_kind, .ref pl_which, .ref pl_value, .ref pl_soundBy, .int pl_found, .int pl_made])), (st, .inr (9, [.ref st_open, .ref st_speed, .ref st_fallen, .ref st_fire, .int st_mark, .int st_moreIn, .int st_more, .ref bk])), (st_open, .inl (k_st_open, 6, .inl f_st_open)), (st_speed, .inl (k_st_speed, 4, .inl f_st_speed)), (st_fallen, .inl (k_st_fallen, 14, .inl f_st_fallen)), (pl_kind, .inl (k_pl_kind, 5, .inl f_pl_kind)), (pl_which, .inl (k_pl_which, 5, .inl f_pl_which)), (pl_order, .inl (k_pl_order, 5, .inl f_pl_order)), (pl_value, .inl (k_pl_value, 5, .inl f_pl_value))] sz)) 0 0 (va_A [(pl, .inr (6, [.int (nI pn), .ref pl_order, .ref st, .ref j2, .ref jd, .ref pl_kind, .ref pl_which, .ref pl_value, .ref pl_soundBy, .int pl_found, .int pl_made])), (st, .inr (9, [.ref st_open, .ref st_speed, .ref st_fallen, .ref st_fire, .int st_mark, .int st_moreIn, .int st_more, .ref bk])), (st_open, .inl (k_st_open, 6, .inl f_st_open)), (st_speed, .inl (k_st_speed, 4, .inl f_st_speed)), (st_fallen, .inl (k_st_fallen, 14, .inl f_st_fallen)), (pl_kind, .inl (k_pl_kind, 5, .inl f_pl_kind)), (pl_which, .inl (k_pl_which, 5, .inl f_pl_which)), (pl_order, .inl (k_pl_order, 5, .inl f_pl_order)), (pl_value, .inl (k_pl_value, 5, .inl f_pl_value))] sz) := by
  refine Met.ofW (cc := cX6_carryOut) (maxL := 2) (ret := none) (by decide) rfl ?_
  intro p e s m args below meth c s₁ B hml hv
  obtain ⟨rfl, hsz, hn0, hG, hP, hK, hD0⟩ := hv
  have hx := B.exec
  have hb := B.bytes
  have hr := B.returns
  have hts := atoms_spec (ws := wM yX6_carryOut cX6_carryOut 2 none) B.pre
  have hown : s.vm.findClass RX6 = some m.cls := findClass_of_methodNamed B.named
  have hlocks := B.notSynchronized
  subst hsz
  have hD := hD0.self (sz := s.heap.size)
  have hA0 := vA_n0 hD0 hn0
  generalize hAe : va_A [(pl, .inr (6, [.int (nI pn), .ref pl_order, .ref st, .ref j2, .ref jd, .ref pl_kind, .ref pl_which, .ref pl_value, .ref pl_soundBy, .int pl_found, .int pl_made])), (st, .inr (9, [.ref st_open, .ref st_speed, .ref st_fallen, .ref st_fire, .int st_mark, .int st_moreIn, .int st_more, .ref bk])), (st_open, .inl (k_st_open, 6, .inl f_st_open)), (st_speed, .inl (k_st_speed, 4, .inl f_st_speed)), (st_fallen, .inl (k_st_fallen, 14, .inl f_st_fallen)), (pl_kind, .inl (k_pl_kind, 5, .inl f_pl_kind)), (pl_which, .inl (k_pl_which, 5, .inl f_pl_which)), (pl_order, .inl (k_pl_order, 5, .inl f_pl_order)), (pl_value, .inl (k_pl_value, 5, .inl f_pl_value))] s.heap.size = A at hD hA0 ⊢
  have hA : ∀ q : Nat, s.heap.size ≤ q → A q := fun q h => by rw [← hAe]; exact Or.inr h
  have hS : va_S A s.heap s.heap [] := va_S.rf
  have hl := lv_entry ([.ref pl]) (n := 2) (Nat.le_of_ble_eq_true rfl)
  rw [lg_entry_eq]
  generalize (lg_sl ([.ref pl]) ++ List.replicate (2 - (lg_sl ([.ref pl])).length) Slot.unset).toArray = ls at hl ⊢
  have hl : lv_has ls 2 [(0, .ref pl)] := hl
  refine lv_iconst (v := 0) hx hb dX6_carryOut_0 (by decide) ?_
  refine lv_istore_n (lv' := [(1, .int 0), (0, .ref pl)]) hx hb dX6_carryOut_1 rfl hl (by decide) rfl (fun ls hl => ?_)
  refine W_lp4 (I := fun (i : Nat) (op1 : Nat → Int32) (sp1 : Nat → Int32) (fa1 : Nat → Int32) H locs ls => (i ≤ pn) ∧ va_P (dC, dI) classes [(pl, .inr (6, [.int (nI pn), .ref pl_order, .ref st, .ref j2, .ref jd, .ref pl_kind, .ref pl_which, .ref pl_value, .ref pl_soundBy, .int pl_found, .int pl_made])), (st, .inr (9, [.ref st_open, .ref st_speed, .ref st_fallen, .ref st_fire, .int st_mark, .int st_moreIn, .int st_more, .ref bk])), (st_open, .inl (k_st_open, 6, .inl op1)), (st_speed, .inl (k_st_speed, 4, .inl sp1)), (st_fallen, .inl (k_st_fallen, 14, .inl fa1)), (pl_kind, .inl (k_pl_kind, 5, .inl f_pl_kind)), (pl_which, .inl (k_pl_which, 5, .inl f_pl_which)), (pl_order, .inl (k_pl_order, 5, .inl f_pl_order)), (pl_value, .inl (k_pl_value, 5, .inl f_pl_value))] H ∧ va_D A [(pl, .inr (6, [.int (nI pn), .ref pl_order, .ref st, .ref j2, .ref jd, .ref pl_kind, .ref pl_which, .ref pl_value, .ref pl_soundBy, .int pl_found, .int pl_made])), (st, .inr (9, [.ref st_open, .ref st_speed, .ref st_fallen, .ref st_fire, .int st_mark, .int st_moreIn, .int st_more, .ref bk])), (st_open, .inl (k_st_open, 6, .inl op1)), (st_speed, .inl (k_st_speed, 4, .inl sp1)), (st_fallen, .inl (k_st_fallen, 14, .inl fa1)), (pl_kind, .inl (k_pl_kind, 5, .inl f_pl_kind)), (pl_which, .inl (k_pl_which, 5, .inl f_pl_which)), (pl_order, .inl (k_pl_order, 5, .inl f_pl_order)), (pl_value, .inl (k_pl_value, 5, .inl f_pl_value))] ∧ va_S A s.heap H locs ∧ lv_has ls 2 [(0, .ref pl), (1, .int (nI i))]) (μ := fun (i : Nat) (op1 : Nat → Int32) (sp1 : Nat → Int32) (fa1 : Nat → Int32) => pn - i) ?_ 0 f_st_open f_st_speed f_st_fallen _ _ _ ⟨(by first | with_reducible assumption | omega | exact vp_in_iff.mpr (by omega) | exact vp_in_nI (by omega) (by omega) | exact ⟨by omega, by omega⟩), hP, hD, hS, lv_sub hl [1, 0] rfl⟩
  intro i op1 sp1 fa1 H locs ls hI ih_1
  obtain ⟨hi, hP, hD, hS, hl⟩ := hI
  refine lv_iload_n hx hb dX6_carryOut_2 rfl (lv_at hl 1 rfl) ?_
  refine lv_aload_n hx hb dX6_carryOut_3 rfl (lv_at hl 0 rfl) ?_
  refine va_get (D := (dC, dI)) (ci := 6) (v := .int (nI pn)) (C := RX6) (T := TX6) (N := 11) hx hb hts (fun w h => wM_c (iX6 w h)) hown hK hP 0 rfl rfl 0 (by decide) (hts _ (wM_c wd_572)) (fun _ h9 => h9) rfl dX6_carryOut_4 ?_
  refine lv_icmp_ge (tgt := 37) hx hb dX6_carryOut_7 (by decide) (fun c_2 => ?_) (fun c_2 => ?_)
  · skip
    have g_3 := n_ge (a := i) (b := pn) c_2 (by omega) (by omega)
    refine lv_aload_n hx hb dX6_carryOut_37 rfl (lv_at hl 0 rfl) ?_
    refine lv_iconst (v := 0) hx hb dX6_carryOut_38 (by decide) ?_
    refine va_put (D := (dC, dI)) (ci := 6) (v := .int 0) (ty := .int) (C := RX6) (T := TX6) (N := 11) hx hb hts (fun w h => wM_c (iX6 w h)) tyX6 tyX6_ok nmX6 hown hK hP hD hS 0 rfl rfl 0 (by decide) (hts _ (wM_c wd_572)) (fun _ h9 => h9) rfl (by decide +kernel) rfl rfl (Nat.le_of_ble_eq_true rfl) dX6_carryOut_39 (fun H locs hP hD hS => ?_)
    obtain ⟨hP, hD⟩ : s3_w (dC, dI) classes A [(pl, .inr (6, [.int 0, .ref pl_order, .ref st, .ref j2, .ref jd, .ref pl_kind, .ref pl_which, .ref pl_value, .ref pl_soundBy, .int pl_found, .int pl_made])), (st, .inr (9, [.ref st_open, .ref st_speed, .ref st_fallen, .ref st_fire, .int st_mark, .int st_moreIn, .int st_more, .ref bk])), (st_open, .inl (k_st_open, 6, .inl op1)), (st_speed, .inl (k_st_speed, 4, .inl sp1)), (st_fallen, .inl (k_st_fallen, 14, .inl fa1)), (pl_kind, .inl (k_pl_kind, 5, .inl f_pl_kind)), (pl_which, .inl (k_pl_which, 5, .inl f_pl_which)), (pl_order, .inl (k_pl_order, 5, .inl f_pl_order)), (pl_value, .inl (k_pl_value, 5, .inl f_pl_value))] H := ⟨hP, hD⟩
    have hK9 := hK.sub (tys' := [(k_st_open, .boolean), (k_st_speed, .int), (k_st_fallen, .boolean), (k_pl_kind, .int), (k_pl_which, .int), (k_pl_order, .int), (k_pl_value, .int)]) [0, 1, 2, 3, 4, 5, 6] rfl
    exact W.vret hx hb hr (fun t ht hW => ⟨⟨(), rfl, trivial, op1, sp1, fa1, by rw [ht]; exact hP.sub [0, 1, 2, 3, 4, 5, 6, 7, 8] rfl, va_K.moved hW.alike hK9, hD.sub [0, 1, 2, 3, 4, 5, 6, 7, 8] (by decide) rfl⟩, hS.F ht⟩) hS.2.2 dX6_carryOut_42
  · skip
    have g_4 := n_nge (a := i) (b := pn) c_2 (by omega) (by omega)
    refine lv_aload_n hx hb dX6_carryOut_10 rfl (lv_at hl 0 rfl) ?_
    refine lv_aload_n hx hb dX6_carryOut_11 rfl (lv_at hl 0 rfl) ?_
    refine va_get (D := (dC, dI)) (ci := 6) (v := .ref pl_order) (C := RX6) (T := TX6) (N := 11) hx hb hts (fun w h => wM_c (iX6 w h)) hown hK hP 0 rfl rfl 1 (by decide) (hts _ (wM_c wd_574)) (fun _ h9 => h9) rfl dX6_carryOut_12 ?_
    refine lv_iload_n hx hb dX6_carryOut_15 rfl (lv_at hl 1 rfl) ?_
    refine va_iald hx hb hK hP 7 5 rfl rfl (vp_in_nI (n := i) (by omega) (by omega)) dX6_carryOut_16 ?_
    refine lv_topi (fun v_5 ev_5 => ?_)
    have nv_5 : v_5 = f_pl_order i := by rw [ev_5]; exact congrArg _ (nI_clamp (by omega))
    have g_6 : 0 ≤ v_5.toInt ∧ v_5.toInt < 5 := by rw [ev_5]; exact rg_in q_or (by omega) (by omega)
    refine lv_aload_n hx hb dX6_carryOut_17 rfl (lv_at hl 0 rfl) ?_
    refine va_get (D := (dC, dI)) (ci := 6) (v := .ref pl_value) (C := RX6) (T := TX6) (N := 11) hx hb hts (fun w h => wM_c (iX6 w h)) hown hK hP 0 rfl rfl 7 (by decide) (hts _ (wM_c wd_581)) (fun _ h9 => h9) rfl dX6_carryOut_18 ?_
    refine lv_aload_n hx hb dX6_carryOut_21 rfl (lv_at hl 0 rfl) ?_
    refine va_get (D := (dC, dI)) (ci := 6) (v := .ref pl_order) (C := RX6) (T := TX6) (N := 11) hx hb hts (fun w h => wM_c (iX6 w h)) hown hK hP 0 rfl rfl 1 (by decide) (hts _ (wM_c wd_574)) (fun _ h9 => h9) rfl dX6_carryOut_22 ?_
    refine lv_iload_n hx hb dX6_carryOut_25 rfl (lv_at hl 1 rfl) ?_
    refine va_iald hx hb hK hP 7 5 rfl rfl (vp_in_nI (n := i) (by omega) (by omega)) dX6_carryOut_26 ?_
    refine lv_topi (fun v_7 ev_7 => ?_)
    have nv_7 : v_7 = f_pl_order i := by rw [ev_7]; exact congrArg _ (nI_clamp (by omega))
    have g_8 : 0 ≤ v_7.toInt ∧ v_7.toInt < 5 := by rw [ev_7]; exact rg_in q_or (by omega) (by omega)
    refine va_iald hx hb hK hP 8 6 rfl rfl (by first | with_reducible assumption | exact vp_in_iff.mpr (by omega)) dX6_carryOut_27 ?_
    refine lv_topi (fun v_9 ev_9 => ?_)
    obtain ⟨j_10, hj_10, ej_10⟩ := i_of (n := 5) (x := v_5) (by omega) (by omega) (by decide)
    rw [ej_10]
    obtain ⟨hPc, hDc, hFc⟩ := s3_c (ws' := [(pl, .inr (6, [.int (nI pn), .ref pl_order, .ref st, .ref j2, .ref jd, .ref pl_kind, .ref pl_which, .ref pl_value, .ref pl_soundBy, .int pl_found, .int pl_made])), (st, .inr (9, [.ref st_open, .ref st_speed, .ref st_fallen, .ref st_fire, .int st_mark, .int st_moreIn, .int st_more, .ref bk])), (st_open, .inl (k_st_open, 6, .inl op1)), (st_speed, .inl (k_st_speed, 4, .inl sp1)), (st_fallen, .inl (k_st_fallen, 14, .inl fa1)), (pl_kind, .inl (k_pl_kind, 5, .inl f_pl_kind)), (pl_which, .inl (k_pl_which, 5, .inl f_pl_which))]) [0, 1, 2, 3, 4, 5, 6] hP hD hS hA rfl (by decide)
    have hKc := hK.sub (tys' := [(k_st_open, .boolean), (k_st_speed, .int), (k_st_fallen, .boolean), (k_pl_kind, .int), (k_pl_which, .int)]) [0, 1, 2, 3, 4] rfl
    refine va_callv (va_runV (As := [.int (nI j_10), .int v_9]) (rest := []) ⟨hx, hb, hml, hown, hts⟩ (c6_put l dC dI n0 atx H.size pl pn pl_order st j2 jd pl_kind pl_which pl_value pl_soundBy pl_found pl_made st_open st_speed st_fallen st_fire st_mark st_moreIn st_more bk k_st_open op1 k_st_speed sp1 k_st_fallen fa1 k_pl_kind f_pl_kind k_pl_which f_pl_which j_10 v_9 (by first | with_reducible assumption | omega | exact vp_in_iff.mpr (by omega) | exact vp_in_nI (by omega) (by omega) | exact ⟨by omega, by omega⟩) (by first | with_reducible assumption | omega | exact vp_in_iff.mpr (by omega) | exact vp_in_nI (by omega) (by omega) | exact ⟨by omega, by omega⟩) (by first | with_reducible assumption | omega | exact vp_in_iff.mpr (by omega) | exact vp_in_nI (by omega) (by omega) | exact ⟨by omega, by omega⟩)) (cwV 2 hts (gV (fun w h => wM_c h) wd_1293 wd_1290 wd_1292 wd_55 wd_123) rfl rfl rfl (by decide +kernel) ⟨Nat.le_of_ble_eq_true rfl, Nat.le_of_ble_eq_true rfl⟩) ⟨fun a U g mk q => by obtain ⟨q0, q1, q2, qG, qP, qK, qD⟩ := q; exact ⟨q0, q1, q2, GW.blind qG, qP, va_K.moved (u := U) (U := U.calling g mk a) (Vm.Alike.refl U.vm) qK, qD⟩, va_recv hKc hPc (ci := 6) (q0 := 0) rfl rfl, fun U hU hW => ⟨rfl, by rw [hU], Nat.le_trans hn0 hS.1, GW.go hW hU hG (fun q hq hA9 => hS.2.1 q hq (fun h => hA9 (hA0 q h))), by rw [hU]; exact hPc, va_K.moved hW.alike hKc, hDc.weaken (fun _ _ _ h => hA0 _ h)⟩⟩ rfl rfl hl.1 rfl (lv_room (Nat.le_of_ble_eq_true rfl)) dX6_carryOut_28 ⟨Nat.le_of_ble_eq_true rfl, Nat.le_of_ble_eq_true rfl⟩) hS (fun q _ h => hFc q h) hFc (fun u t H1 locs ht hvm hw_12 hB hz1 hk1 hS => ?_)
    obtain ⟨op9_13, sp9_14, fa9_15, hP1, hK1, hD1⟩ := hB
    rw [ht] at hP1
    obtain ⟨hP, hD⟩ := s3_j (L := [(pl_order, .inl (k_pl_order, 5, .inl f_pl_order)), (pl_value, .inl (k_pl_value, 5, .inl f_pl_value)), (pl, .inr (6, [.int (nI pn), .ref pl_order, .ref st, .ref j2, .ref jd, .ref pl_kind, .ref pl_which, .ref pl_value, .ref pl_soundBy, .int pl_found, .int pl_made])), (st, .inr (9, [.ref st_open, .ref st_speed, .ref st_fallen, .ref st_fire, .int st_mark, .int st_moreIn, .int st_more, .ref bk])), (st_open, .inl (k_st_open, 6, .inl op9_13)), (st_speed, .inl (k_st_speed, 4, .inl sp9_14)), (st_fallen, .inl (k_st_fallen, 14, .inl fa9_15)), (pl_kind, .inl (k_pl_kind, 5, .inl f_pl_kind)), (pl_which, .inl (k_pl_which, 5, .inl f_pl_which))]) 2 hP hD [0, 1, 2, 3, 4, 5, 6] [7, 8] hk1 hFc hP1 hD1 rfl rfl rfl (by decide) (by decide)
    generalize H1 = H at hP hS ⊢
    refine lv_iinc (v := (nI (i + 1))) (lv' := [(1, .int (nI (i + 1))), (0, .ref pl)]) hx hb dX6_carryOut_31 hl (k := 1) rfl (nI_add _ 1) (by decide) rfl (fun ls hl => ?_)
    refine lv_goto (tgt := 2) hx hb dX6_carryOut_34 (by decide) ?_
    exact ih_1 (i + 1) op9_13 sp9_14 fa9_15 _ _ _ ⟨(by first | with_reducible assumption | omega | exact vp_in_iff.mpr (by omega) | exact vp_in_nI (by omega) (by omega) | exact ⟨by omega, by omega⟩), hP.sub [2, 3, 4, 5, 6, 7, 8, 0, 1] rfl, hD.sub [2, 3, 4, 5, 6, 7, 8, 0, 1] (by decide) rfl, hS, lv_sub hl [1, 0] rfl⟩ (by omega)
