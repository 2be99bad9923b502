def RJT : String := "java/lang/Throwable"
abbrev cJT_init : ByteArray := prog_24_method_5_code
def yJT_init : MethodName := ⟨RJT, "<init>", "(Ljava/lang/String;Ljava/lang/Throwable;ZZ)V"⟩
def RJE : String := "java/lang/Exception"
abbrev cJE_init : ByteArray := prog_17_method_5_code
def yJE_init : MethodName := ⟨RJE, "<init>", "(Ljava/lang/String;Ljava/lang/Throwable;ZZ)V"⟩
def RJR : String := "java/lang/RuntimeException"
abbrev cJR_init : ByteArray := prog_19_method_5_code
def yJR_init : MethodName := ⟨RJR, "<init>", "(Ljava/lang/String;Ljava/lang/Throwable;ZZ)V"⟩
theorem GZ_UNASSIGNED_STACK {n0 : Nat} {atx : Nat → Nat × Nat} {U : State} (h : GW n0 atx U) : ∃ z : Value, (z = .null ∨ ∃ r, z = .ref r) ∧ va_Z "java/lang/Throwable" "UNASSIGNED_STACK" "[Ljava/lang/StackTraceElement;" z (fun q => n0 ≤ q) U U.heap := by
  rcases h.2.2.1.1 with h | ⟨t, h⟩
  · exact ⟨_, Or.inl rfl, h⟩
  · exact ⟨_, Or.inr ⟨t, rfl⟩, h⟩
theorem GZ_SUPPRESSED_SENTINEL {n0 : Nat} {atx : Nat → Nat × Nat} {U : State} (h : GW n0 atx U) : ∃ z : Value, (z = .null ∨ ∃ r, z = .ref r) ∧ va_Z "java/lang/Throwable" "SUPPRESSED_SENTINEL" "Ljava/util/List;" z (fun q => n0 ≤ q) U U.heap := by
  rcases h.2.2.2.1.1 with h | ⟨t, h⟩
  · exact ⟨_, Or.inl rfl, h⟩
  · exact ⟨_, Or.inr ⟨t, rfl⟩, h⟩
theorem wd_128 : Cond.initialized "java/lang/Throwable" ∈ wG := wG_of 128 (by decide +kernel) (by decide +kernel)
theorem wd_129 : Cond.initialized "java/lang/Exception" ∈ wG := wG_of 129 (by decide +kernel) (by decide +kernel)
theorem wd_130 : Cond.initialized "java/lang/RuntimeException" ∈ wG := wG_of 130 (by decide +kernel) (by decide +kernel)
theorem wd_1367 : Cond.methodLink "java/lang/Throwable" 1 (⟨"java/lang/Object", "<init>", "()V"⟩ : MethodName) ∈ wG := wG_of 1367 (by decide +kernel) (by decide +kernel)
theorem wd_1368 : Cond.fieldLink "java/lang/Throwable" 13 "java/lang/Throwable" "UNASSIGNED_STACK" "[Ljava/lang/StackTraceElement;" ∈ wG := wG_of 1368 (by decide +kernel) (by decide +kernel)
theorem wd_1370 : Cond.fieldLink "java/lang/Throwable" 20 "java/lang/Throwable" "SUPPRESSED_SENTINEL" "Ljava/util/List;" ∈ wG := wG_of 1370 (by decide +kernel) (by decide +kernel)
theorem wd_1393 : Cond.fieldLink "java/lang/Throwable" 31 "java/lang/Throwable" "detailMessage" "Ljava/lang/String;" ∈ wG := wG_of 1393 (by decide +kernel) (by decide +kernel)
theorem wd_1394 : Cond.fieldLink "java/lang/Throwable" 7 "java/lang/Throwable" "cause" "Ljava/lang/Throwable;" ∈ wG := wG_of 1394 (by decide +kernel) (by decide +kernel)
theorem wd_1395 : Cond.fieldLink "java/lang/Throwable" 17 "java/lang/Throwable" "stackTrace" "[Ljava/lang/StackTraceElement;" ∈ wG := wG_of 1395 (by decide +kernel) (by decide +kernel)
theorem wd_1396 : Cond.fieldLink "java/lang/Throwable" 24 "java/lang/Throwable" "suppressedExceptions" "Ljava/util/List;" ∈ wG := wG_of 1396 (by decide +kernel) (by decide +kernel)
theorem wd_1435 : Cond.methodLink "MineAirModel$Stop" 1 (⟨"java/lang/RuntimeException", "<init>", "(Ljava/lang/String;Ljava/lang/Throwable;ZZ)V"⟩ : MethodName) ∈ wG := wG_of 1435 (by decide +kernel) (by decide +kernel)
theorem wd_1436 : Cond.instanceMethod (⟨"java/lang/RuntimeException", "<init>", "(Ljava/lang/String;Ljava/lang/Throwable;ZZ)V"⟩ : MethodName) ∈ wG := wG_of 1436 (by decide +kernel) (by decide +kernel)
theorem wd_1437 : Cond.code (⟨"java/lang/RuntimeException", "<init>", "(Ljava/lang/String;Ljava/lang/Throwable;ZZ)V"⟩ : MethodName) prog_19_method_5_code 5 (Option.none : Option Jvm.ClassFile.FieldType) ∈ wG := wG_of 1437 (by decide +kernel) (by decide +kernel)
theorem wd_1438 : Cond.methodLink "java/lang/RuntimeException" 16 (⟨"java/lang/Exception", "<init>", "(Ljava/lang/String;Ljava/lang/Throwable;ZZ)V"⟩ : MethodName) ∈ wG := wG_of 1438 (by decide +kernel) (by decide +kernel)
theorem wd_1439 : Cond.instanceMethod (⟨"java/lang/Exception", "<init>", "(Ljava/lang/String;Ljava/lang/Throwable;ZZ)V"⟩ : MethodName) ∈ wG := wG_of 1439 (by decide +kernel) (by decide +kernel)
theorem wd_1440 : Cond.code (⟨"java/lang/Exception", "<init>", "(Ljava/lang/String;Ljava/lang/Throwable;ZZ)V"⟩ : MethodName) prog_17_method_5_code 5 (Option.none : Option Jvm.ClassFile.FieldType) ∈ wG := wG_of 1440 (by decide +kernel) (by decide +kernel)
theorem wd_1441 : Cond.methodLink "java/lang/Exception" 16 (⟨"java/lang/Throwable", "<init>", "(Ljava/lang/String;Ljava/lang/Throwable;ZZ)V"⟩ : MethodName) ∈ wG := wG_of 1441 (by decide +kernel) (by decide +kernel)
theorem wd_1442 : Cond.instanceMethod (⟨"java/lang/Throwable", "<init>", "(Ljava/lang/String;Ljava/lang/Throwable;ZZ)V"⟩ : MethodName) ∈ wG := wG_of 1442 (by decide +kernel) (by decide +kernel)
theorem wd_1443 : Cond.code (⟨"java/lang/Throwable", "<init>", "(Ljava/lang/String;Ljava/lang/Throwable;ZZ)V"⟩ : MethodName) prog_24_method_5_code 5 (Option.none : Option Jvm.ClassFile.FieldType) ∈ wG := wG_of 1443 (by decide +kernel) (by decide +kernel)
theorem dJE_init_0 : decode cJE_init 0 = .ok (.aload_n 0, 1) := by decide +kernel
theorem dJE_init_1 : decode cJE_init 1 = .ok (.aload_n 1, 1) := by decide +kernel
theorem dJE_init_2 : decode cJE_init 2 = .ok (.aload_n 2, 1) := by decide +kernel
theorem dJE_init_3 : decode cJE_init 3 = .ok (.iload_n 3, 1) := by decide +kernel
theorem dJE_init_4 : decode cJE_init 4 = .ok (.iload 4, 2) := by decide +kernel
theorem dJE_init_6 : decode cJE_init 6 = .ok (.invokespecial 16, 3) := by decide +kernel
theorem dJE_init_9 : decode cJE_init 9 = .ok (.return_, 1) := by decide +kernel
theorem dJR_init_0 : decode cJR_init 0 = .ok (.aload_n 0, 1) := by decide +kernel
theorem dJR_init_1 : decode cJR_init 1 = .ok (.aload_n 1, 1) := by decide +kernel
theorem dJR_init_2 : decode cJR_init 2 = .ok (.aload_n 2, 1) := by decide +kernel
theorem dJR_init_3 : decode cJR_init 3 = .ok (.iload_n 3, 1) := by decide +kernel
theorem dJR_init_4 : decode cJR_init 4 = .ok (.iload 4, 2) := by decide +kernel
theorem dJR_init_6 : decode cJR_init 6 = .ok (.invokespecial 16, 3) := by decide +kernel
theorem dJR_init_9 : decode cJR_init 9 = .ok (.return_, 1) := by decide +kernel
theorem dJT_init_0 : decode cJT_init 0 = .ok (.aload_n 0, 1) := by decide +kernel
theorem dJT_init_1 : decode cJT_init 1 = .ok (.invokespecial 1, 3) := by decide +kernel
theorem dJT_init_4 : decode cJT_init 4 = .ok (.aload_n 0, 1) := by decide +kernel
theorem dJT_init_5 : decode cJT_init 5 = .ok (.aload_n 0, 1) := by decide +kernel
theorem dJT_init_6 : decode cJT_init 6 = .ok (.putfield 7, 3) := by decide +kernel
theorem dJT_init_9 : decode cJT_init 9 = .ok (.aload_n 0, 1) := by decide +kernel
theorem dJT_init_10 : decode cJT_init 10 = .ok (.getstatic 13, 3) := by decide +kernel
theorem dJT_init_13 : decode cJT_init 13 = .ok (.putfield 17, 3) := by decide +kernel
theorem dJT_init_16 : decode cJT_init 16 = .ok (.aload_n 0, 1) := by decide +kernel
theorem dJT_init_17 : decode cJT_init 17 = .ok (.getstatic 20, 3) := by decide +kernel
theorem dJT_init_20 : decode cJT_init 20 = .ok (.putfield 24, 3) := by decide +kernel
theorem dJT_init_23 : decode cJT_init 23 = .ok (.iload 4, 2) := by decide +kernel
theorem dJT_init_25 : decode cJT_init 25 = .ok (.ifCond .eq 11, 3) := by decide +kernel
theorem dJT_init_36 : decode cJT_init 36 = .ok (.aload_n 0, 1) := by decide +kernel
theorem dJT_init_37 : decode cJT_init 37 = .ok (.aconst_null, 1) := by decide +kernel
theorem dJT_init_38 : decode cJT_init 38 = .ok (.putfield 17, 3) := by decide +kernel
theorem dJT_init_41 : decode cJT_init 41 = .ok (.aload_n 0, 1) := by decide +kernel
theorem dJT_init_42 : decode cJT_init 42 = .ok (.aload_n 1, 1) := by decide +kernel
theorem dJT_init_43 : decode cJT_init 43 = .ok (.putfield 31, 3) := by decide +kernel
theorem dJT_init_46 : decode cJT_init 46 = .ok (.aload_n 0, 1) := by decide +kernel
theorem dJT_init_47 : decode cJT_init 47 = .ok (.aload_n 2, 1) := by decide +kernel
theorem dJT_init_48 : decode cJT_init 48 = .ok (.putfield 7, 3) := by decide +kernel
theorem dJT_init_51 : decode cJT_init 51 = .ok (.iload_n 3, 1) := by decide +kernel
theorem dJT_init_52 : decode cJT_init 52 = .ok (.ifCond .ne 8, 3) := by decide +kernel
theorem dJT_init_55 : decode cJT_init 55 = .ok (.aload_n 0, 1) := by decide +kernel
theorem dJT_init_56 : decode cJT_init 56 = .ok (.aconst_null, 1) := by decide +kernel
theorem dJT_init_57 : decode cJT_init 57 = .ok (.putfield 24, 3) := by decide +kernel
theorem dJT_init_60 : decode cJT_init 60 = .ok (.return_, 1) := by decide +kernel
theorem dX13_init_0 : decode cX13_init 0 = .ok (.aload_n 0, 1) := by decide +kernel
theorem dX13_init_1 : decode cX13_init 1 = .ok (.aconst_null, 1) := by decide +kernel
theorem dX13_init_2 : decode cX13_init 2 = .ok (.aconst_null, 1) := by decide +kernel
theorem dX13_init_3 : decode cX13_init 3 = .ok (.iconst 0, 1) := by decide +kernel
theorem dX13_init_4 : decode cX13_init 4 = .ok (.iconst 0, 1) := by decide +kernel
theorem dX13_init_5 : decode cX13_init 5 = .ok (.invokespecial 1, 3) := by decide +kernel
theorem dX13_init_8 : decode cX13_init 8 = .ok (.return_, 1) := by decide +kernel
set_option maxHeartbeats 4000000 in
set_option maxRecDepth 100000 in
theorem n_Thr (l : Launch) (dC : Nat → ClassId) (dI : Nat → Nat → Nat) (n0 : Nat) (atx : Nat → Nat × Nat) (sz : Nat) (sp : Nat) : Met l yJT_init (wM yJT_init cJT_init 5 none) ({ frames := 1, cells := 0, slots := 0, locals := 12 }) (va_Pc [.ref sp, .null, .null, .int 0, .int 0] (fun U => U.heap.size = sz ∧ n0 ≤ sz ∧ GW n0 atx U ∧ va_P (dC, dI) classes [(sp, .inr (13, [.null, .null, .null, .null, .null, .int 0, .int 0, .int 0]))] U.heap ∧ va_K (dC, dI) classes [] U ∧ va_D (fun q => n0 ≤ q) [(sp, .inr (13, [.null, .null, .null, .null, .null, .int 0, .int 0, .int 0]))])) (va_Qv (fun _ : Unit => True) (fun (_ : Unit) (t : State) => va_P (dC, dI) classes [(sp, .inr (13, [.null, .null, .null, .null, .null, .int 0, .int 0, .int 0]))] t.heap ∧ va_K (dC, dI) classes [] t ∧ va_D (va_A [(sp, .inr (13, [.null, .null, .null, .null, .null, .int 0, .int 0, .int 0]))] sz) [(sp, .inr (13, [.null, .null, .null, .null, .null, .int 0, .int 0, .int 0]))]) (va_A [(sp, .inr (13, [.null, .null, .null, .null, .null, .int 0, .int 0, .int 0]))] sz)) 0 0 (va_A [(sp, .inr (13, [.null, .null, .null, .null, .null, .int 0, .int 0, .int 0]))] sz) := by
  refine Met.ofW (cc := cJT_init) (maxL := 5) (ret := none) (by decide) rfl ?_
  intro p e s m args below meth c s₁ B hml hv
  obtain ⟨rfl, hsz, hn0, hG, hP, hK, hD0⟩ := hv
  have hx := B.exec
  have hb := B.bytes
  have hr := B.returns
  have hts := atoms_spec (ws := wM yJT_init cJT_init 5 none) B.pre
  have hown : s.vm.findClass RJT = some m.cls := findClass_of_methodNamed B.named
  have hlocks := B.notSynchronized
  have hin : meth.name = "<init>" := (name_of_methodNamed B.named B.method).1
  subst hsz
  have hD := hD0.self (sz := s.heap.size)
  have hA0 := vA_n0 hD0 hn0
  generalize hAe : va_A [(sp, .inr (13, [.null, .null, .null, .null, .null, .int 0, .int 0, .int 0]))] s.heap.size = A at hD hA0 ⊢
  have hA : ∀ q : Nat, s.heap.size ≤ q → A q := fun q h => by rw [← hAe]; exact Or.inr h
  have hS : va_S A s.heap s.heap [] := va_S.rf
  have hl := lv_entry ([.ref sp, .null, .null, .int 0, .int 0]) (n := 5) (Nat.le_of_ble_eq_true rfl)
  rw [lg_entry_eq]
  generalize (lg_sl ([.ref sp, .null, .null, .int 0, .int 0]) ++ List.replicate (5 - (lg_sl ([.ref sp, .null, .null, .int 0, .int 0])).length) Slot.unset).toArray = ls at hl ⊢
  have hl : lv_has ls 5 [(0, .ref sp), (1, .null), (2, .null), (3, .int 0), (4, .int 0)] := hl
  refine lv_aload_n hx hb dJT_init_0 rfl (lv_at hl 0 rfl) ?_
  refine W.objInit hx hb hown (hts _ (wM_c wd_1367)) (hts _ (wM_c wd_146)) (hts _ (wM_c wd_objInit)) rfl (by rw [hml]; exact hl.1) rfl dJT_init_1 (Nat.le_of_ble_eq_true rfl) (Nat.le_of_ble_eq_true rfl) ?_
  refine W.eq (g2 := F0 m 4 ls []) rfl ?_
  refine lv_aload_n hx hb dJT_init_4 rfl (lv_at hl 0 rfl) ?_
  refine lv_aload_n hx hb dJT_init_5 rfl (lv_at hl 0 rfl) ?_
  refine va_put (D := (dC, dI)) (ci := 13) (v := .ref sp) (ty := (.object "java/lang/Throwable")) (C := RX13) (T := TX13) (N := 8) hx hb hts (fun w h => wM_c (iX13 w h)) tyX13 tyX13_ok nmX13 hown hK hP hD hS 0 rfl rfl 0 (by decide) (hts _ (wM_c wd_1394)) (fun _ h9 => h9) rfl (by decide +kernel) rfl rfl (Nat.le_of_ble_eq_true rfl) dJT_init_6 (fun H locs hP hD hS => ?_)
  obtain ⟨hP, hD⟩ : s3_w (dC, dI) classes A [(sp, .inr (13, [.ref sp, .null, .null, .null, .null, .int 0, .int 0, .int 0]))] H := ⟨hP, hD⟩
  refine lv_aload_n hx hb dJT_init_9 rfl (lv_at hl 0 rfl) ?_
  obtain ⟨z_1, hz_1, hZ⟩ := GZ_UNASSIGNED_STACK hG
  refine va_gets hx hb (hZ.narrow hA0) hS hown (hts _ (wM_c wd_1368)) (fun _ h => h) dJT_init_10 ?_
  refine va_put (D := (dC, dI)) (ci := 13) (v := z_1) (ty := (.array (.object "java/lang/StackTraceElement"))) (C := RX13) (T := TX13) (N := 8) hx hb hts (fun w h => wM_c (iX13 w h)) tyX13 tyX13_ok nmX13 hown hK hP hD hS 0 rfl rfl 1 (by decide) (hts _ (wM_c wd_1395)) (fun _ h9 => h9) rfl (by decide +kernel) (by rcases hz_1 with rfl | ⟨r, rfl⟩ <;> rfl) (by rcases hz_1 with rfl | ⟨r, rfl⟩ <;> rfl) (Nat.le_of_ble_eq_true rfl) dJT_init_13 (fun H locs hP hD hS => ?_)
  obtain ⟨hP, hD⟩ : s3_w (dC, dI) classes A [(sp, .inr (13, [.ref sp, z_1, .null, .null, .null, .int 0, .int 0, .int 0]))] H := ⟨hP, hD⟩
  refine lv_aload_n hx hb dJT_init_16 rfl (lv_at hl 0 rfl) ?_
  obtain ⟨z_2, hz_2, hZ⟩ := GZ_SUPPRESSED_SENTINEL hG
  refine va_gets hx hb (hZ.narrow hA0) hS hown (hts _ (wM_c wd_1370)) (fun _ h => h) dJT_init_17 ?_
  refine va_put (D := (dC, dI)) (ci := 13) (v := z_2) (ty := (.object "java/util/List")) (C := RX13) (T := TX13) (N := 8) hx hb hts (fun w h => wM_c (iX13 w h)) tyX13 tyX13_ok nmX13 hown hK hP hD hS 0 rfl rfl 2 (by decide) (hts _ (wM_c wd_1396)) (fun _ h9 => h9) rfl (by decide +kernel) (by rcases hz_2 with rfl | ⟨r, rfl⟩ <;> rfl) (by rcases hz_2 with rfl | ⟨r, rfl⟩ <;> rfl) (Nat.le_of_ble_eq_true rfl) dJT_init_20 (fun H locs hP hD hS => ?_)
  obtain ⟨hP, hD⟩ : s3_w (dC, dI) classes A [(sp, .inr (13, [.ref sp, z_1, z_2, .null, .null, .int 0, .int 0, .int 0]))] H := ⟨hP, hD⟩
  refine lv_iload hx hb dJT_init_23 (lv_at hl 4 rfl) ?_
  refine lv_if_eq (tgt := 36) hx hb dJT_init_25 (by decide) (fun c_3 => ?_) (fun c_3 => ?_)
  · skip
    refine lv_aload_n hx hb dJT_init_36 rfl (lv_at hl 0 rfl) ?_
    refine lv_null hx hb dJT_init_37 ?_
    refine va_put (D := (dC, dI)) (ci := 13) (v := .null) (ty := (.array (.object "java/lang/StackTraceElement"))) (C := RX13) (T := TX13) (N := 8) hx hb hts (fun w h => wM_c (iX13 w h)) tyX13 tyX13_ok nmX13 hown hK hP hD hS 0 rfl rfl 1 (by decide) (hts _ (wM_c wd_1395)) (fun _ h9 => h9) rfl (by decide +kernel) rfl rfl (Nat.le_of_ble_eq_true rfl) dJT_init_38 (fun H locs hP hD hS => ?_)
    obtain ⟨hP, hD⟩ : s3_w (dC, dI) classes A [(sp, .inr (13, [.ref sp, .null, z_2, .null, .null, .int 0, .int 0, .int 0]))] H := ⟨hP, hD⟩
    refine lv_aload_n hx hb dJT_init_41 rfl (lv_at hl 0 rfl) ?_
    refine lv_aload_nN hx hb dJT_init_42 rfl (lv_at hl 1 rfl) ?_
    refine va_put (D := (dC, dI)) (ci := 13) (v := .null) (ty := (.object "java/lang/String")) (C := RX13) (T := TX13) (N := 8) hx hb hts (fun w h => wM_c (iX13 w h)) tyX13 tyX13_ok nmX13 hown hK hP hD hS 0 rfl rfl 3 (by decide) (hts _ (wM_c wd_1393)) (fun _ h9 => h9) rfl (by decide +kernel) rfl rfl (Nat.le_of_ble_eq_true rfl) dJT_init_43 (fun H locs hP hD hS => ?_)
    obtain ⟨hP, hD⟩ : s3_w (dC, dI) classes A [(sp, .inr (13, [.ref sp, .null, z_2, .null, .null, .int 0, .int 0, .int 0]))] H := ⟨hP, hD⟩
    refine lv_aload_n hx hb dJT_init_46 rfl (lv_at hl 0 rfl) ?_
    refine lv_aload_nN hx hb dJT_init_47 rfl (lv_at hl 2 rfl) ?_
    refine va_put (D := (dC, dI)) (ci := 13) (v := .null) (ty := (.object "java/lang/Throwable")) (C := RX13) (T := TX13) (N := 8) hx hb hts (fun w h => wM_c (iX13 w h)) tyX13 tyX13_ok nmX13 hown hK hP hD hS 0 rfl rfl 0 (by decide) (hts _ (wM_c wd_1394)) (fun _ h9 => h9) rfl (by decide +kernel) rfl rfl (Nat.le_of_ble_eq_true rfl) dJT_init_48 (fun H locs hP hD hS => ?_)
    obtain ⟨hP, hD⟩ : s3_w (dC, dI) classes A [(sp, .inr (13, [.null, .null, z_2, .null, .null, .int 0, .int 0, .int 0]))] H := ⟨hP, hD⟩
    refine lv_iload_n hx hb dJT_init_51 rfl (lv_at hl 3 rfl) ?_
    refine lv_if_ne (tgt := 60) hx hb dJT_init_52 (by decide) (fun c_4 => ?_) (fun c_4 => ?_)
    · exact absurd c_4 (by decide)
    refine lv_aload_n hx hb dJT_init_55 rfl (lv_at hl 0 rfl) ?_
    refine lv_null hx hb dJT_init_56 ?_
    refine va_put (D := (dC, dI)) (ci := 13) (v := .null) (ty := (.object "java/util/List")) (C := RX13) (T := TX13) (N := 8) hx hb hts (fun w h => wM_c (iX13 w h)) tyX13 tyX13_ok nmX13 hown hK hP hD hS 0 rfl rfl 2 (by decide) (hts _ (wM_c wd_1396)) (fun _ h9 => h9) rfl (by decide +kernel) rfl rfl (Nat.le_of_ble_eq_true rfl) dJT_init_57 (fun H locs hP hD hS => ?_)
    obtain ⟨hP, hD⟩ : s3_w (dC, dI) classes A [(sp, .inr (13, [.null, .null, .null, .null, .null, .int 0, .int 0, .int 0]))] H := ⟨hP, hD⟩
    have hK9 := hK.sub (tys' := []) [] rfl
    exact W.vret hx hb hr (fun t ht hW => ⟨⟨(), rfl, trivial, by rw [ht]; exact hP.sub [0] rfl, va_K.moved hW.alike hK9, hD.sub [0] (by decide) rfl⟩, hS.F ht⟩) hS.2.2 dJT_init_60
  · exact absurd c_3 (by decide)
set_option maxHeartbeats 4000000 in
set_option maxRecDepth 100000 in
theorem n_Exc (l : Launch) (dC : Nat → ClassId) (dI : Nat → Nat → Nat) (n0 : Nat) (atx : Nat → Nat × Nat) (sz : Nat) (sp : Nat) : Met l yJE_init (wM yJE_init cJE_init 5 none) ({ frames := 2, cells := 0, slots := 0, locals := 36 }) (va_Pc [.ref sp, .null, .null, .int 0, .int 0] (fun U => U.heap.size = sz ∧ n0 ≤ sz ∧ GW n0 atx U ∧ va_P (dC, dI) classes [(sp, .inr (13, [.null, .null, .null, .null, .null, .int 0, .int 0, .int 0]))] U.heap ∧ va_K (dC, dI) classes [] U ∧ va_D (fun q => n0 ≤ q) [(sp, .inr (13, [.null, .null, .null, .null, .null, .int 0, .int 0, .int 0]))])) (va_Qv (fun _ : Unit => True) (fun (_ : Unit) (t : State) => va_P (dC, dI) classes [(sp, .inr (13, [.null, .null, .null, .null, .null, .int 0, .int 0, .int 0]))] t.heap ∧ va_K (dC, dI) classes [] t ∧ va_D (va_A [(sp, .inr (13, [.null, .null, .null, .null, .null, .int 0, .int 0, .int 0]))] sz) [(sp, .inr (13, [.null, .null, .null, .null, .null, .int 0, .int 0, .int 0]))]) (va_A [(sp, .inr (13, [.null, .null, .null, .null, .null, .int 0, .int 0, .int 0]))] sz)) 0 0 (va_A [(sp, .inr (13, [.null, .null, .null, .null, .null, .int 0, .int 0, .int 0]))] sz) := by
  refine Met.ofW (cc := cJE_init) (maxL := 5) (ret := none) (by decide) rfl ?_
  intro p e s m args below meth c s₁ B hml hv
  obtain ⟨rfl, hsz, hn0, hG, hP, hK, hD0⟩ := hv
  have hx := B.exec
  have hb := B.bytes
  have hr := B.returns
  have hts := atoms_spec (ws := wM yJE_init cJE_init 5 none) B.pre
  have hown : s.vm.findClass RJE = some m.cls := findClass_of_methodNamed B.named
  have hlocks := B.notSynchronized
  have hin : meth.name = "<init>" := (name_of_methodNamed B.named B.method).1
  subst hsz
  have hD := hD0.self (sz := s.heap.size)
  have hA0 := vA_n0 hD0 hn0
  generalize hAe : va_A [(sp, .inr (13, [.null, .null, .null, .null, .null, .int 0, .int 0, .int 0]))] s.heap.size = A at hD hA0 ⊢
  have hA : ∀ q : Nat, s.heap.size ≤ q → A q := fun q h => by rw [← hAe]; exact Or.inr h
  have hS : va_S A s.heap s.heap [] := va_S.rf
  have hl := lv_entry ([.ref sp, .null, .null, .int 0, .int 0]) (n := 5) (Nat.le_of_ble_eq_true rfl)
  rw [lg_entry_eq]
  generalize (lg_sl ([.ref sp, .null, .null, .int 0, .int 0]) ++ List.replicate (5 - (lg_sl ([.ref sp, .null, .null, .int 0, .int 0])).length) Slot.unset).toArray = ls at hl ⊢
  have hl : lv_has ls 5 [(0, .ref sp), (1, .null), (2, .null), (3, .int 0), (4, .int 0)] := hl
  refine lv_aload_n hx hb dJE_init_0 rfl (lv_at hl 0 rfl) ?_
  refine lv_aload_nN hx hb dJE_init_1 rfl (lv_at hl 1 rfl) ?_
  refine lv_aload_nN hx hb dJE_init_2 rfl (lv_at hl 2 rfl) ?_
  refine lv_iload_n hx hb dJE_init_3 rfl (lv_at hl 3 rfl) ?_
  refine lv_iload hx hb dJE_init_4 (lv_at hl 4 rfl) ?_
  obtain ⟨hPc, hDc, hFc⟩ := s3_c (ws' := [(sp, .inr (13, [.null, .null, .null, .null, .null, .int 0, .int 0, .int 0]))]) [0] hP hD hS hA rfl (by decide)
  have hKc := hK.sub (tys' := []) [] rfl
  refine va_callv (va_runI (As := [.null, .null, .int 0, .int 0]) (rest := []) ⟨hx, hb, hml, hown, hts⟩ (n_Thr l dC dI n0 atx s.heap.size sp ) (cwI 4 hts (gI (fun w h => wM_c h) wd_1443) rfl rfl rfl (hts _ (wM_c wd_128)) (hts _ (wM_c wd_1441)) (hts _ (wM_c wd_1442)) rfl (by decide +kernel) ⟨Nat.le_of_ble_eq_true rfl, Nat.le_of_ble_eq_true rfl⟩) ⟨fun a U g mk q => by obtain ⟨q0, q1, q2, qG, qP, qK, qD⟩ := q; exact ⟨q0, q1, q2, GW.blind qG, qP, va_K.moved (u := U) (U := U.calling g mk a) (Vm.Alike.refl U.vm) qK, qD⟩, fun U hU hW => ⟨rfl, by rw [hU], Nat.le_trans hn0 hS.1, GW.go hW hU hG (fun q hq hA9 => hS.2.1 q hq (fun h => hA9 (hA0 q h))), by rw [hU]; exact hPc, va_K.moved hW.alike hKc, hDc.weaken (fun _ _ _ h => hA0 _ h)⟩⟩ rfl rfl hl.1 rfl (lv_room (Nat.le_of_ble_eq_true rfl)) dJE_init_6 ⟨Nat.le_of_ble_eq_true rfl, Nat.le_of_ble_eq_true rfl⟩) hS (fun q _ h => hFc q h) hFc (fun u t H1 locs ht hvm hw_2 hB hz1 hk1 hS => ?_)
  obtain ⟨hP1, hK1, hD1⟩ := hB
  rw [ht] at hP1
  obtain ⟨hP, hD⟩ := s3_j (L := [(sp, .inr (13, [.null, .null, .null, .null, .null, .int 0, .int 0, .int 0]))]) 0 hP hD [0] [] hk1 hFc hP1 hD1 rfl rfl rfl (by decide) (by decide)
  generalize H1 = H at hP hS ⊢
  have hK9 := hK.sub (tys' := []) [] rfl
  exact W.vret hx hb hr (fun t ht hW => ⟨⟨(), rfl, trivial, by rw [ht]; exact hP.sub [0] rfl, va_K.moved hW.alike hK9, hD.sub [0] (by decide) rfl⟩, hS.F ht⟩) hS.2.2 dJE_init_9
set_option maxHeartbeats 4000000 in
set_option maxRecDepth 100000 in
theorem n_Run (l : Launch) (dC : Nat → ClassId) (dI : Nat → Nat → Nat) (n0 : Nat) (atx : Nat → Nat × Nat) (sz : Nat) (sp : Nat) : Met l yJR_init (wM yJR_init cJR_init 5 none) ({ frames := 3, cells := 0, slots := 0, locals := 60 }) (va_Pc [.ref sp, .null, .null, .int 0, .int 0] (fun U => U.heap.size = sz ∧ n0 ≤ sz ∧ GW n0 atx U ∧ va_P (dC, dI) classes [(sp, .inr (13, [.null, .null, .null, .null, .null, .int 0, .int 0, .int 0]))] U.heap ∧ va_K (dC, dI) classes [] U ∧ va_D (fun q => n0 ≤ q) [(sp, .inr (13, [.null, .null, .null, .null, .null, .int 0, .int 0, .int 0]))])) (va_Qv (fun _ : Unit => True) (fun (_ : Unit) (t : State) => va_P (dC, dI) classes [(sp, .inr (13, [.null, .null, .null, .null, .null, .int 0, .int 0, .int 0]))] t.heap ∧ va_K (dC, dI) classes [] t ∧ va_D (va_A [(sp, .inr (13, [.null, .null, .null, .null, .null, .int 0, .int 0, .int 0]))] sz) [(sp, .inr (13, [.null, .null, .null, .null, .null, .int 0, .int 0, .int 0]))]) (va_A [(sp, .inr (13, [.null, .null, .null, .null, .null, .int 0, .int 0, .int 0]))] sz)) 0 0 (va_A [(sp, .inr (13, [.null, .null, .null, .null, .null, .int 0, .int 0, .int 0]))] sz) := by
  refine Met.ofW (cc := cJR_init) (maxL := 5) (ret := none) (by decide) rfl ?_
  intro p e s m args below meth c s₁ B hml hv
  obtain ⟨rfl, hsz, hn0, hG, hP, hK, hD0⟩ := hv
  have hx := B.exec
  have hb := B.bytes
  have hr := B.returns
  have hts := atoms_spec (ws := wM yJR_init cJR_init 5 none) B.pre
  have hown : s.vm.findClass RJR = some m.cls := findClass_of_methodNamed B.named
  have hlocks := B.notSynchronized
  have hin : meth.name = "<init>" := (name_of_methodNamed B.named B.method).1
  subst hsz
  have hD := hD0.self (sz := s.heap.size)
  have hA0 := vA_n0 hD0 hn0
  generalize hAe : va_A [(sp, .inr (13, [.null, .null, .null, .null, .null, .int 0, .int 0, .int 0]))] s.heap.size = A at hD hA0 ⊢
  have hA : ∀ q : Nat, s.heap.size ≤ q → A q := fun q h => by rw [← hAe]; exact Or.inr h
  have hS : va_S A s.heap s.heap [] := va_S.rf
  have hl := lv_entry ([.ref sp, .null, .null, .int 0, .int 0]) (n := 5) (Nat.le_of_ble_eq_true rfl)
  rw [lg_entry_eq]
  generalize (lg_sl ([.ref sp, .null, .null, .int 0, .int 0]) ++ List.replicate (5 - (lg_sl ([.ref sp, .null, .null, .int 0, .int 0])).length) Slot.unset).toArray = ls at hl ⊢
  have hl : lv_has ls 5 [(0, .ref sp), (1, .null), (2, .null), (3, .int 0), (4, .int 0)] := hl
  refine lv_aload_n hx hb dJR_init_0 rfl (lv_at hl 0 rfl) ?_
  refine lv_aload_nN hx hb dJR_init_1 rfl (lv_at hl 1 rfl) ?_
  refine lv_aload_nN hx hb dJR_init_2 rfl (lv_at hl 2 rfl) ?_
  refine lv_iload_n hx hb dJR_init_3 rfl (lv_at hl 3 rfl) ?_
  refine lv_iload hx hb dJR_init_4 (lv_at hl 4 rfl) ?_
  obtain ⟨hPc, hDc, hFc⟩ := s3_c (ws' := [(sp, .inr (13, [.null, .null, .null, .null, .null, .int 0, .int 0, .int 0]))]) [0] hP hD hS hA rfl (by decide)
  have hKc := hK.sub (tys' := []) [] rfl
  refine va_callv (va_runI (As := [.null, .null, .int 0, .int 0]) (rest := []) ⟨hx, hb, hml, hown, hts⟩ (n_Exc l dC dI n0 atx s.heap.size sp ) (cwI 4 hts (gI (fun w h => wM_c h) wd_1440) rfl rfl rfl (hts _ (wM_c wd_129)) (hts _ (wM_c wd_1438)) (hts _ (wM_c wd_1439)) rfl (by decide +kernel) ⟨Nat.le_of_ble_eq_true rfl, Nat.le_of_ble_eq_true rfl⟩) ⟨fun a U g mk q => by obtain ⟨q0, q1, q2, qG, qP, qK, qD⟩ := q; exact ⟨q0, q1, q2, GW.blind qG, qP, va_K.moved (u := U) (U := U.calling g mk a) (Vm.Alike.refl U.vm) qK, qD⟩, fun U hU hW => ⟨rfl, by rw [hU], Nat.le_trans hn0 hS.1, GW.go hW hU hG (fun q hq hA9 => hS.2.1 q hq (fun h => hA9 (hA0 q h))), by rw [hU]; exact hPc, va_K.moved hW.alike hKc, hDc.weaken (fun _ _ _ h => hA0 _ h)⟩⟩ rfl rfl hl.1 rfl (lv_room (Nat.le_of_ble_eq_true rfl)) dJR_init_6 ⟨Nat.le_of_ble_eq_true rfl, Nat.le_of_ble_eq_true rfl⟩) hS (fun q _ h => hFc q h) hFc (fun u t H1 locs ht hvm hw_2 hB hz1 hk1 hS => ?_)
  obtain ⟨hP1, hK1, hD1⟩ := hB
  rw [ht] at hP1
  obtain ⟨hP, hD⟩ := s3_j (L := [(sp, .inr (13, [.null, .null, .null, .null, .null, .int 0, .int 0, .int 0]))]) 0 hP hD [0] [] hk1 hFc hP1 hD1 rfl rfl rfl (by decide) (by decide)
  generalize H1 = H at hP hS ⊢
  have hK9 := hK.sub (tys' := []) [] rfl
  exact W.vret hx hb hr (fun t ht hW => ⟨⟨(), rfl, trivial, by rw [ht]; exact hP.sub [0] rfl, va_K.moved hW.alike hK9, hD.sub [0] (by decide) rfl⟩, hS.F ht⟩) hS.2.2 dJR_init_9
set_option maxHeartbeats 4000000 in
set_option maxRecDepth 100000 in
theorem n_Stop (l : Launch) (dC : Nat → ClassId) (dI : Nat → Nat → Nat) (n0 : Nat) (atx : Nat → Nat × Nat) (sz : Nat) (sp : Nat) : Met l yX13_init (wM yX13_init cX13_init 1 none) ({ frames := 4, cells := 0, slots := 0, locals := 84 }) (va_Pc [.ref sp] (fun U => U.heap.size = sz ∧ n0 ≤ sz ∧ GW n0 atx U ∧ va_P (dC, dI) classes [(sp, .inr (13, [.null, .null, .null, .null, .null, .int 0, .int 0, .int 0]))] U.heap ∧ va_K (dC, dI) classes [] U ∧ va_D (fun q => n0 ≤ q) [(sp, .inr (13, [.null, .null, .null, .null, .null, .int 0, .int 0, .int 0]))])) (va_Qv (fun _ : Unit => True) (fun (_ : Unit) (t : State) => va_P (dC, dI) classes [(sp, .inr (13, [.null, .null, .null, .null, .null, .int 0, .int 0, .int 0]))] t.heap ∧ va_K (dC, dI) classes [] t ∧ va_D (va_A [(sp, .inr (13, [.null, .null, .null, .null, .null, .int 0, .int 0, .int 0]))] sz) [(sp, .inr (13, [.null, .null, .null, .null, .null, .int 0, .int 0, .int 0]))]) (va_A [(sp, .inr (13, [.null, .null, .null, .null, .null, .int 0, .int 0, .int 0]))] sz)) 0 0 (va_A [(sp, .inr (13, [.null, .null, .null, .null, .null, .int 0, .int 0, .int 0]))] sz) := by
  refine Met.ofW (cc := cX13_init) (maxL := 1) (ret := none) (by decide) rfl ?_
  intro p e s m args below meth c s₁ B hml hv
  obtain ⟨rfl, hsz, hn0, hG, hP, hK, hD0⟩ := hv
  have hx := B.exec
  have hb := B.bytes
  have hr := B.returns
  have hts := atoms_spec (ws := wM yX13_init cX13_init 1 none) B.pre
  have hown : s.vm.findClass RX13 = some m.cls := findClass_of_methodNamed B.named
  have hlocks := B.notSynchronized
  have hin : meth.name = "<init>" := (name_of_methodNamed B.named B.method).1
  subst hsz
  have hD := hD0.self (sz := s.heap.size)
  have hA0 := vA_n0 hD0 hn0
  generalize hAe : va_A [(sp, .inr (13, [.null, .null, .null, .null, .null, .int 0, .int 0, .int 0]))] s.heap.size = A at hD hA0 ⊢
  have hA : ∀ q : Nat, s.heap.size ≤ q → A q := fun q h => by rw [← hAe]; exact Or.inr h
  have hS : va_S A s.heap s.heap [] := va_S.rf
  have hl := lv_entry ([.ref sp]) (n := 1) (Nat.le_of_ble_eq_true rfl)
  rw [lg_entry_eq]
  generalize (lg_sl ([.ref sp]) ++ List.replicate (1 - (lg_sl ([.ref sp])).length) Slot.unset).toArray = ls at hl ⊢
  have hl : lv_has ls 1 [(0, .ref sp)] := hl
  refine lv_aload_n hx hb dX13_init_0 rfl (lv_at hl 0 rfl) ?_
  refine lv_null hx hb dX13_init_1 ?_
  refine lv_null hx hb dX13_init_2 ?_
  refine lv_iconst (v := 0) hx hb dX13_init_3 (by decide) ?_
  refine lv_iconst (v := 0) hx hb dX13_init_4 (by decide) ?_
  obtain ⟨hPc, hDc, hFc⟩ := s3_c (ws' := [(sp, .inr (13, [.null, .null, .null, .null, .null, .int 0, .int 0, .int 0]))]) [0] hP hD hS hA rfl (by decide)
  have hKc := hK.sub (tys' := []) [] rfl
  refine va_callv (va_runI (As := [.null, .null, .int 0, .int 0]) (rest := []) ⟨hx, hb, hml, hown, hts⟩ (n_Run l dC dI n0 atx s.heap.size sp ) (cwI 4 hts (gI (fun w h => wM_c h) wd_1437) rfl rfl rfl (hts _ (wM_c wd_130)) (hts _ (wM_c wd_1435)) (hts _ (wM_c wd_1436)) rfl (by decide +kernel) ⟨Nat.le_of_ble_eq_true rfl, Nat.le_of_ble_eq_true rfl⟩) ⟨fun a U g mk q => by obtain ⟨q0, q1, q2, qG, qP, qK, qD⟩ := q; exact ⟨q0, q1, q2, GW.blind qG, qP, va_K.moved (u := U) (U := U.calling g mk a) (Vm.Alike.refl U.vm) qK, qD⟩, fun U hU hW => ⟨rfl, by rw [hU], Nat.le_trans hn0 hS.1, GW.go hW hU hG (fun q hq hA9 => hS.2.1 q hq (fun h => hA9 (hA0 q h))), by rw [hU]; exact hPc, va_K.moved hW.alike hKc, hDc.weaken (fun _ _ _ h => hA0 _ h)⟩⟩ rfl rfl hl.1 rfl (lv_room (Nat.le_of_ble_eq_true rfl)) dX13_init_5 ⟨Nat.le_of_ble_eq_true rfl, Nat.le_of_ble_eq_true rfl⟩) hS (fun q _ h => hFc q h) hFc (fun u t H1 locs ht hvm hw_2 hB hz1 hk1 hS => ?_)
  obtain ⟨hP1, hK1, hD1⟩ := hB
  rw [ht] at hP1
  obtain ⟨hP, hD⟩ := s3_j (L := [(sp, .inr (13, [.null, .null, .null, .null, .null, .int 0, .int 0, .int 0]))]) 0 hP hD [0] [] hk1 hFc hP1 hD1 rfl rfl rfl (by decide) (by decide)
  generalize H1 = H at hP hS ⊢
  have hK9 := hK.sub (tys' := []) [] rfl
  exact W.vret hx hb hr (fun t ht hW => ⟨⟨(), rfl, trivial, by rw [ht]; exact hP.sub [0] rfl, va_K.moved hW.alike hK9, hD.sub [0] (by decide) rfl⟩, hS.F ht⟩) hS.2.2 dX13_init_8
