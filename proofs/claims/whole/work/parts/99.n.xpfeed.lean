set_option maxHeartbeats 4000000 in
set_option maxRecDepth 100000 in
theorem c7_append (l : Launch) (dC : Nat → ClassId) (dI : Nat → Nat → Nat) (n0 : Nat) (atx : Nat → Nat × Nat) (sz : Nat) (rd : Nat) (rd_tape : Nat) (fd : Nat) (fa1 : Int32) (fp1 : Int32) (dr : Nat) (rd_names : Nat) (rd_nameKind : Nat) (rd_nameNumber : Nat) (nm1 : Int32) (rd_knotNames : Nat) (en1 : Int32) (at0 : Int32) (tk1 : Int32) (ts1 : Int32) (tv1 : Int64) (k_rd_tape : ClassId) (f_rd_tape : Nat → Int32) (fr4 : Int32) (hfd : fd ≤ 596) : Met l yX7_append (wM yX7_append cX7_append 3 none) ({ frames := 0, cells := 0, slots := 0, locals := 0 }) (va_Pc [.ref rd, .int fr4] (fun U => U.heap.size = sz ∧ n0 ≤ sz ∧ GW n0 atx U ∧ va_P (dC, dI) classes [(rd, .inr (7, [.ref rd_tape, .int (nI fd), .int fa1, .int fp1, .ref dr, .ref rd_names, .ref rd_nameKind, .ref rd_nameNumber, .int nm1, .ref rd_knotNames, .int en1, .int at0, .int tk1, .int ts1, .long tv1])), (rd_tape, .inl (k_rd_tape, 600, .inl f_rd_tape))] U.heap ∧ va_K (dC, dI) classes [(k_rd_tape, .int)] U ∧ va_D (fun q => n0 ≤ q) [(rd, .inr (7, [.ref rd_tape, .int (nI fd), .int fa1, .int fp1, .ref dr, .ref rd_names, .ref rd_nameKind, .ref rd_nameNumber, .int nm1, .ref rd_knotNames, .int en1, .int at0, .int tk1, .int ts1, .long tv1])), (rd_tape, .inl (k_rd_tape, 600, .inl f_rd_tape))])) (va_Qv (fun _ : Unit => True) (fun (_ : Unit) (t : State) => ∃ (fd9 : Nat), ∃ (ta9 : Nat → Int32), (fd9 = fd + 4) ∧ (∀ k, ta9 k = if k < fd then f_rd_tape k else if k < fd + 4 then bB fr4 (k - fd) else f_rd_tape k) ∧ va_P (dC, dI) classes [(rd, .inr (7, [.ref rd_tape, .int (nI fd9), .int fa1, .int fp1, .ref dr, .ref rd_names, .ref rd_nameKind, .ref rd_nameNumber, .int nm1, .ref rd_knotNames, .int en1, .int at0, .int tk1, .int ts1, .long tv1])), (rd_tape, .inl (k_rd_tape, 600, .inl ta9))] t.heap ∧ va_K (dC, dI) classes [(k_rd_tape, .int)] t ∧ va_D (va_A [(rd, .inr (7, [.ref rd_tape, .int (nI fd), .int fa1, .int fp1, .ref dr, .ref rd_names, .ref rd_nameKind, .ref rd_nameNumber, .int nm1, .ref rd_knotNames, .int en1, .int at0, .int tk1, .int ts1, .long tv1])), (rd_tape, .inl (k_rd_tape, 600, .inl f_rd_tape))] sz) [(rd, .inr (7, [.ref rd_tape, .int (nI fd9), .int fa1, .int fp1, .ref dr, .ref rd_names, .ref rd_nameKind, .ref rd_nameNumber, .int nm1, .ref rd_knotNames, .int en1, .int at0, .int tk1, .int ts1, .long tv1])), (rd_tape, .inl (k_rd_tape, 600, .inl ta9))]) (va_A [(rd, .inr (7, [.ref rd_tape, .int (nI fd), .int fa1, .int fp1, .ref dr, .ref rd_names, .ref rd_nameKind, .ref rd_nameNumber, .int nm1, .ref rd_knotNames, .int en1, .int at0, .int tk1, .int ts1, .long tv1])), (rd_tape, .inl (k_rd_tape, 600, .inl f_rd_tape))] sz)) 0 0 (va_A [(rd, .inr (7, [.ref rd_tape, .int (nI fd), .int fa1, .int fp1, .ref dr, .ref rd_names, .ref rd_nameKind, .ref rd_nameNumber, .int nm1, .ref rd_knotNames, .int en1, .int at0, .int tk1, .int ts1, .long tv1])), (rd_tape, .inl (k_rd_tape, 600, .inl f_rd_tape))] sz) := by
  refine Met.ofW (cc := cX7_append) (maxL := 3) (ret := none) (by decide) rfl ?_
  intro p e s m args below meth c s₁ B hml hv
  obtain ⟨rfl, hsz, hn0, hG, hP, hK, hD0⟩ := hv
  have hx := B.exec
  have hb := B.bytes
  have hr := B.returns
  have hts := atoms_spec (ws := wM yX7_append cX7_append 3 none) B.pre
  have hown : s.vm.findClass RX7 = some m.cls := findClass_of_methodNamed B.named
  have hlocks := B.notSynchronized
  subst hsz
  have hD := hD0.self (sz := s.heap.size)
  have hA0 := vA_n0 hD0 hn0
  generalize hAe : va_A [(rd, .inr (7, [.ref rd_tape, .int (nI fd), .int fa1, .int fp1, .ref dr, .ref rd_names, .ref rd_nameKind, .ref rd_nameNumber, .int nm1, .ref rd_knotNames, .int en1, .int at0, .int tk1, .int ts1, .long tv1])), (rd_tape, .inl (k_rd_tape, 600, .inl f_rd_tape))] s.heap.size = A at hD hA0 ⊢
  have hA : ∀ q : Nat, s.heap.size ≤ q → A q := fun q h => by rw [← hAe]; exact Or.inr h
  have hS : va_S A s.heap s.heap [] := va_S.rf
  have hl := lv_entry ([.ref rd, .int fr4]) (n := 3) (Nat.le_of_ble_eq_true rfl)
  rw [lg_entry_eq]
  generalize (lg_sl ([.ref rd, .int fr4]) ++ List.replicate (3 - (lg_sl ([.ref rd, .int fr4])).length) Slot.unset).toArray = ls at hl ⊢
  have hl : lv_has ls 3 [(0, .ref rd), (1, .int fr4)] := hl
  refine lv_bipush (v := 24) hx hb dX7_append_0 (by decide) ?_
  refine lv_istore_n (lv' := [(2, .int 24), (0, .ref rd), (1, .int fr4)]) hx hb dX7_append_2 rfl hl (by decide) rfl (fun ls hl => ?_)
  refine lv_iload_n hx hb dX7_append_3 rfl (lv_at hl 0 rfl) ?_
  refine lv_if_lt (tgt := 49) hx hb dX7_append_4 (by decide) (fun c_1 => ?_) (fun c_1 => ?_)
  · exact absurd c_1 (by decide)
  refine lv_aload_n hx hb dX7_append_7 rfl (lv_at hl 1 rfl) ?_
  refine va_get (D := (dC, dI)) (ci := 7) (v := .int (nI fd)) (C := RX7) (T := TX7) (N := 15) hx hb hts (fun w h => wM_c (iX7 w h)) hown hK hP 0 rfl rfl 1 (by decide) (hts _ (wM_c wd_335)) (fun _ h9 => h9) rfl dX7_append_8 ?_
  refine lv_sipush (v := 600) hx hb dX7_append_11 (by decide) ?_
  refine lv_icmp_ge (tgt := 43) hx hb dX7_append_14 (by decide) (fun c_2 => ?_) (fun c_2 => ?_)
  · exact absurd (n_ge (a := fd) (b := 600) c_2 (by omega) (by omega)) (by omega)
  refine lv_aload_n hx hb dX7_append_17 rfl (lv_at hl 1 rfl) ?_
  refine va_get (D := (dC, dI)) (ci := 7) (v := .ref rd_tape) (C := RX7) (T := TX7) (N := 15) hx hb hts (fun w h => wM_c (iX7 w h)) hown hK hP 0 rfl rfl 0 (by decide) (hts _ (wM_c wd_333)) (fun _ h9 => h9) rfl dX7_append_18 ?_
  refine lv_aload_n hx hb dX7_append_21 rfl (lv_at hl 1 rfl) ?_
  refine va_get (D := (dC, dI)) (ci := 7) (v := .int (nI fd)) (C := RX7) (T := TX7) (N := 15) hx hb hts (fun w h => wM_c (iX7 w h)) hown hK hP 0 rfl rfl 1 (by decide) (hts _ (wM_c wd_335)) (fun _ h9 => h9) rfl dX7_append_22 ?_
  refine lv_iload_n hx hb dX7_append_25 rfl (lv_at hl 2 rfl) ?_
  refine lv_iload_n hx hb dX7_append_26 rfl (lv_at hl 0 rfl) ?_
  refine lv_ishr hx hb dX7_append_27 ?_
  refine lv_topi (fun v_3 ev_3 => ?_)
  refine lv_sipush (v := 255) hx hb dX7_append_28 (by decide) ?_
  refine lv_iand hx hb dX7_append_31 ?_
  refine lv_topi (fun v_4 ev_4 => ?_)
  refine va_iast hx hb hK hP hD hS 1 0 rfl rfl (vp_in_nI (n := fd) (by omega) (by omega)) dX7_append_32 (fun H locs hP hD hS => ?_)
  obtain ⟨f_5, ef_5⟩ : ∃ f9, f9 = (upd f_rd_tape (nI fd).toNatClampNeg v_4) := ⟨_, rfl⟩
  obtain ⟨hP, hD⟩ : s3_w (dC, dI) classes A [(rd, .inr (7, [.ref rd_tape, .int (nI fd), .int fa1, .int fp1, .ref dr, .ref rd_names, .ref rd_nameKind, .ref rd_nameNumber, .int nm1, .ref rd_knotNames, .int en1, .int at0, .int tk1, .int ts1, .long tv1])), (rd_tape, .inl (k_rd_tape, 600, .inl f_5))] H := ⟨(by rw [ef_5]; exact hP), (by rw [ef_5]; exact hD)⟩
  refine lv_aload_n hx hb dX7_append_33 rfl (lv_at hl 1 rfl) ?_
  refine lv_dup hx hb dX7_append_34 rfl ?_
  refine va_get (D := (dC, dI)) (ci := 7) (v := .int (nI fd)) (C := RX7) (T := TX7) (N := 15) hx hb hts (fun w h => wM_c (iX7 w h)) hown hK hP 0 rfl rfl 1 (by decide) (hts _ (wM_c wd_335)) (fun _ h9 => h9) rfl dX7_append_35 ?_
  refine lv_iconst (v := 1) hx hb dX7_append_38 (by decide) ?_
  refine lv_iadd hx hb dX7_append_39 ?_
  refine lv_topi (fun v_6 ev_6 => ?_)
  obtain rfl : v_6 = nI (fd + 1) := ev_6.trans (nI_add fd 1)
  refine va_put (D := (dC, dI)) (ci := 7) (v := .int (nI (fd + 1))) (ty := .int) (C := RX7) (T := TX7) (N := 15) hx hb hts (fun w h => wM_c (iX7 w h)) tyX7 tyX7_ok nmX7 hown hK hP hD hS 0 rfl rfl 1 (by decide) (hts _ (wM_c wd_335)) (fun _ h9 => h9) rfl (by decide +kernel) rfl rfl (Nat.le_of_ble_eq_true rfl) dX7_append_40 (fun H locs hP hD hS => ?_)
  obtain ⟨hP, hD⟩ : s3_w (dC, dI) classes A [(rd, .inr (7, [.ref rd_tape, .int (nI (fd + 1)), .int fa1, .int fp1, .ref dr, .ref rd_names, .ref rd_nameKind, .ref rd_nameNumber, .int nm1, .ref rd_knotNames, .int en1, .int at0, .int tk1, .int ts1, .long tv1])), (rd_tape, .inl (k_rd_tape, 600, .inl f_5))] H := ⟨hP, hD⟩
  refine lv_iinc (v := 16) (lv' := [(2, .int 16), (0, .ref rd), (1, .int fr4)]) hx hb dX7_append_43 hl (k := 0) rfl (by decide) (by decide) rfl (fun ls hl => ?_)
  refine lv_goto (tgt := 3) hx hb dX7_append_46 (by decide) ?_
  refine lv_iload_n hx hb dX7_append_3 rfl (lv_at hl 0 rfl) ?_
  refine lv_if_lt (tgt := 49) hx hb dX7_append_4 (by decide) (fun c_7 => ?_) (fun c_7 => ?_)
  · exact absurd c_7 (by decide)
  refine lv_aload_n hx hb dX7_append_7 rfl (lv_at hl 1 rfl) ?_
  refine va_get (D := (dC, dI)) (ci := 7) (v := .int (nI (fd + 1))) (C := RX7) (T := TX7) (N := 15) hx hb hts (fun w h => wM_c (iX7 w h)) hown hK hP 0 rfl rfl 1 (by decide) (hts _ (wM_c wd_335)) (fun _ h9 => h9) rfl dX7_append_8 ?_
  refine lv_sipush (v := 600) hx hb dX7_append_11 (by decide) ?_
  refine lv_icmp_ge (tgt := 43) hx hb dX7_append_14 (by decide) (fun c_8 => ?_) (fun c_8 => ?_)
  · exact absurd (n_ge (a := (fd + 1)) (b := 600) c_8 (by omega) (by omega)) (by omega)
  refine lv_aload_n hx hb dX7_append_17 rfl (lv_at hl 1 rfl) ?_
  refine va_get (D := (dC, dI)) (ci := 7) (v := .ref rd_tape) (C := RX7) (T := TX7) (N := 15) hx hb hts (fun w h => wM_c (iX7 w h)) hown hK hP 0 rfl rfl 0 (by decide) (hts _ (wM_c wd_333)) (fun _ h9 => h9) rfl dX7_append_18 ?_
  refine lv_aload_n hx hb dX7_append_21 rfl (lv_at hl 1 rfl) ?_
  refine va_get (D := (dC, dI)) (ci := 7) (v := .int (nI (fd + 1))) (C := RX7) (T := TX7) (N := 15) hx hb hts (fun w h => wM_c (iX7 w h)) hown hK hP 0 rfl rfl 1 (by decide) (hts _ (wM_c wd_335)) (fun _ h9 => h9) rfl dX7_append_22 ?_
  refine lv_iload_n hx hb dX7_append_25 rfl (lv_at hl 2 rfl) ?_
  refine lv_iload_n hx hb dX7_append_26 rfl (lv_at hl 0 rfl) ?_
  refine lv_ishr hx hb dX7_append_27 ?_
  refine lv_topi (fun v_9 ev_9 => ?_)
  refine lv_sipush (v := 255) hx hb dX7_append_28 (by decide) ?_
  refine lv_iand hx hb dX7_append_31 ?_
  refine lv_topi (fun v_10 ev_10 => ?_)
  refine va_iast hx hb hK hP hD hS 1 0 rfl rfl (vp_in_nI (n := (fd + 1)) (by omega) (by omega)) dX7_append_32 (fun H locs hP hD hS => ?_)
  obtain ⟨f_11, ef_11⟩ : ∃ f9, f9 = (upd f_5 (nI (fd + 1)).toNatClampNeg v_10) := ⟨_, rfl⟩
  obtain ⟨hP, hD⟩ : s3_w (dC, dI) classes A [(rd, .inr (7, [.ref rd_tape, .int (nI (fd + 1)), .int fa1, .int fp1, .ref dr, .ref rd_names, .ref rd_nameKind, .ref rd_nameNumber, .int nm1, .ref rd_knotNames, .int en1, .int at0, .int tk1, .int ts1, .long tv1])), (rd_tape, .inl (k_rd_tape, 600, .inl f_11))] H := ⟨(by rw [ef_11]; exact hP), (by rw [ef_11]; exact hD)⟩
  refine lv_aload_n hx hb dX7_append_33 rfl (lv_at hl 1 rfl) ?_
  refine lv_dup hx hb dX7_append_34 rfl ?_
  refine va_get (D := (dC, dI)) (ci := 7) (v := .int (nI (fd + 1))) (C := RX7) (T := TX7) (N := 15) hx hb hts (fun w h => wM_c (iX7 w h)) hown hK hP 0 rfl rfl 1 (by decide) (hts _ (wM_c wd_335)) (fun _ h9 => h9) rfl dX7_append_35 ?_
  refine lv_iconst (v := 1) hx hb dX7_append_38 (by decide) ?_
  refine lv_iadd hx hb dX7_append_39 ?_
  refine lv_topi (fun v_12 ev_12 => ?_)
  obtain rfl : v_12 = nI ((fd + 1) + 1) := ev_12.trans (nI_add (fd + 1) 1)
  refine va_put (D := (dC, dI)) (ci := 7) (v := .int (nI ((fd + 1) + 1))) (ty := .int) (C := RX7) (T := TX7) (N := 15) hx hb hts (fun w h => wM_c (iX7 w h)) tyX7 tyX7_ok nmX7 hown hK hP hD hS 0 rfl rfl 1 (by decide) (hts _ (wM_c wd_335)) (fun _ h9 => h9) rfl (by decide +kernel) rfl rfl (Nat.le_of_ble_eq_true rfl) dX7_append_40 (fun H locs hP hD hS => ?_)
  obtain ⟨hP, hD⟩ : s3_w (dC, dI) classes A [(rd, .inr (7, [.ref rd_tape, .int (nI ((fd + 1) + 1)), .int fa1, .int fp1, .ref dr, .ref rd_names, .ref rd_nameKind, .ref rd_nameNumber, .int nm1, .ref rd_knotNames, .int en1, .int at0, .int tk1, .int ts1, .long tv1])), (rd_tape, .inl (k_rd_tape, 600, .inl f_11))] H := ⟨hP, hD⟩
  refine lv_iinc (v := 8) (lv' := [(2, .int 8), (0, .ref rd), (1, .int fr4)]) hx hb dX7_append_43 hl (k := 0) rfl (by decide) (by decide) rfl (fun ls hl => ?_)
  refine lv_goto (tgt := 3) hx hb dX7_append_46 (by decide) ?_
  refine lv_iload_n hx hb dX7_append_3 rfl (lv_at hl 0 rfl) ?_
  refine lv_if_lt (tgt := 49) hx hb dX7_append_4 (by decide) (fun c_13 => ?_) (fun c_13 => ?_)
  · exact absurd c_13 (by decide)
  refine lv_aload_n hx hb dX7_append_7 rfl (lv_at hl 1 rfl) ?_
  refine va_get (D := (dC, dI)) (ci := 7) (v := .int (nI ((fd + 1) + 1))) (C := RX7) (T := TX7) (N := 15) hx hb hts (fun w h => wM_c (iX7 w h)) hown hK hP 0 rfl rfl 1 (by decide) (hts _ (wM_c wd_335)) (fun _ h9 => h9) rfl dX7_append_8 ?_
  refine lv_sipush (v := 600) hx hb dX7_append_11 (by decide) ?_
  refine lv_icmp_ge (tgt := 43) hx hb dX7_append_14 (by decide) (fun c_14 => ?_) (fun c_14 => ?_)
  · exact absurd (n_ge (a := ((fd + 1) + 1)) (b := 600) c_14 (by omega) (by omega)) (by omega)
  refine lv_aload_n hx hb dX7_append_17 rfl (lv_at hl 1 rfl) ?_
  refine va_get (D := (dC, dI)) (ci := 7) (v := .ref rd_tape) (C := RX7) (T := TX7) (N := 15) hx hb hts (fun w h => wM_c (iX7 w h)) hown hK hP 0 rfl rfl 0 (by decide) (hts _ (wM_c wd_333)) (fun _ h9 => h9) rfl dX7_append_18 ?_
  refine lv_aload_n hx hb dX7_append_21 rfl (lv_at hl 1 rfl) ?_
  refine va_get (D := (dC, dI)) (ci := 7) (v := .int (nI ((fd + 1) + 1))) (C := RX7) (T := TX7) (N := 15) hx hb hts (fun w h => wM_c (iX7 w h)) hown hK hP 0 rfl rfl 1 (by decide) (hts _ (wM_c wd_335)) (fun _ h9 => h9) rfl dX7_append_22 ?_
  refine lv_iload_n hx hb dX7_append_25 rfl (lv_at hl 2 rfl) ?_
  refine lv_iload_n hx hb dX7_append_26 rfl (lv_at hl 0 rfl) ?_
  refine lv_ishr hx hb dX7_append_27 ?_
  refine lv_topi (fun v_15 ev_15 => ?_)
  refine lv_sipush (v := 255) hx hb dX7_append_28 (by decide) ?_
  refine lv_iand hx hb dX7_append_31 ?_
  refine lv_topi (fun v_16 ev_16 => ?_)
  refine va_iast hx hb hK hP hD hS 1 0 rfl rfl (vp_in_nI (n := ((fd + 1) + 1)) (by omega) (by omega)) dX7_append_32 (fun H locs hP hD hS => ?_)
  obtain ⟨f_17, ef_17⟩ : ∃ f9, f9 = (upd f_11 (nI ((fd + 1) + 1)).toNatClampNeg v_16) := ⟨_, rfl⟩
  obtain ⟨hP, hD⟩ : s3_w (dC, dI) classes A [(rd, .inr (7, [.ref rd_tape, .int (nI ((fd + 1) + 1)), .int fa1, .int fp1, .ref dr, .ref rd_names, .ref rd_nameKind, .ref rd_nameNumber, .int nm1, .ref rd_knotNames, .int en1, .int at0, .int tk1, .int ts1, .long tv1])), (rd_tape, .inl (k_rd_tape, 600, .inl f_17))] H := ⟨(by rw [ef_17]; exact hP), (by rw [ef_17]; exact hD)⟩
  refine lv_aload_n hx hb dX7_append_33 rfl (lv_at hl 1 rfl) ?_
  refine lv_dup hx hb dX7_append_34 rfl ?_
  refine va_get (D := (dC, dI)) (ci := 7) (v := .int (nI ((fd + 1) + 1))) (C := RX7) (T := TX7) (N := 15) hx hb hts (fun w h => wM_c (iX7 w h)) hown hK hP 0 rfl rfl 1 (by decide) (hts _ (wM_c wd_335)) (fun _ h9 => h9) rfl dX7_append_35 ?_
  refine lv_iconst (v := 1) hx hb dX7_append_38 (by decide) ?_
  refine lv_iadd hx hb dX7_append_39 ?_
  refine lv_topi (fun v_18 ev_18 => ?_)
  obtain rfl : v_18 = nI (((fd + 1) + 1) + 1) := ev_18.trans (nI_add ((fd + 1) + 1) 1)
  refine va_put (D := (dC, dI)) (ci := 7) (v := .int (nI (((fd + 1) + 1) + 1))) (ty := .int) (C := RX7) (T := TX7) (N := 15) hx hb hts (fun w h => wM_c (iX7 w h)) tyX7 tyX7_ok nmX7 hown hK hP hD hS 0 rfl rfl 1 (by decide) (hts _ (wM_c wd_335)) (fun _ h9 => h9) rfl (by decide +kernel) rfl rfl (Nat.le_of_ble_eq_true rfl) dX7_append_40 (fun H locs hP hD hS => ?_)
  obtain ⟨hP, hD⟩ : s3_w (dC, dI) classes A [(rd, .inr (7, [.ref rd_tape, .int (nI (((fd + 1) + 1) + 1)), .int fa1, .int fp1, .ref dr, .ref rd_names, .ref rd_nameKind, .ref rd_nameNumber, .int nm1, .ref rd_knotNames, .int en1, .int at0, .int tk1, .int ts1, .long tv1])), (rd_tape, .inl (k_rd_tape, 600, .inl f_17))] H := ⟨hP, hD⟩
  refine lv_iinc (v := 0) (lv' := [(2, .int 0), (0, .ref rd), (1, .int fr4)]) hx hb dX7_append_43 hl (k := 0) rfl (by decide) (by decide) rfl (fun ls hl => ?_)
  refine lv_goto (tgt := 3) hx hb dX7_append_46 (by decide) ?_
  refine lv_iload_n hx hb dX7_append_3 rfl (lv_at hl 0 rfl) ?_
  refine lv_if_lt (tgt := 49) hx hb dX7_append_4 (by decide) (fun c_19 => ?_) (fun c_19 => ?_)
  · exact absurd c_19 (by decide)
  refine lv_aload_n hx hb dX7_append_7 rfl (lv_at hl 1 rfl) ?_
  refine va_get (D := (dC, dI)) (ci := 7) (v := .int (nI (((fd + 1) + 1) + 1))) (C := RX7) (T := TX7) (N := 15) hx hb hts (fun w h => wM_c (iX7 w h)) hown hK hP 0 rfl rfl 1 (by decide) (hts _ (wM_c wd_335)) (fun _ h9 => h9) rfl dX7_append_8 ?_
  refine lv_sipush (v := 600) hx hb dX7_append_11 (by decide) ?_
  refine lv_icmp_ge (tgt := 43) hx hb dX7_append_14 (by decide) (fun c_20 => ?_) (fun c_20 => ?_)
  · exact absurd (n_ge (a := (((fd + 1) + 1) + 1)) (b := 600) c_20 (by omega) (by omega)) (by omega)
  refine lv_aload_n hx hb dX7_append_17 rfl (lv_at hl 1 rfl) ?_
  refine va_get (D := (dC, dI)) (ci := 7) (v := .ref rd_tape) (C := RX7) (T := TX7) (N := 15) hx hb hts (fun w h => wM_c (iX7 w h)) hown hK hP 0 rfl rfl 0 (by decide) (hts _ (wM_c wd_333)) (fun _ h9 => h9) rfl dX7_append_18 ?_
  refine lv_aload_n hx hb dX7_append_21 rfl (lv_at hl 1 rfl) ?_
  refine va_get (D := (dC, dI)) (ci := 7) (v := .int (nI (((fd + 1) + 1) + 1))) (C := RX7) (T := TX7) (N := 15) hx hb hts (fun w h => wM_c (iX7 w h)) hown hK hP 0 rfl rfl 1 (by decide) (hts _ (wM_c wd_335)) (fun _ h9 => h9) rfl dX7_append_22 ?_
  refine lv_iload_n hx hb dX7_append_25 rfl (lv_at hl 2 rfl) ?_
  refine lv_iload_n hx hb dX7_append_26 rfl (lv_at hl 0 rfl) ?_
  refine lv_ishr hx hb dX7_append_27 ?_
  refine lv_topi (fun v_21 ev_21 => ?_)
  refine lv_sipush (v := 255) hx hb dX7_append_28 (by decide) ?_
  refine lv_iand hx hb dX7_append_31 ?_
  refine lv_topi (fun v_22 ev_22 => ?_)
  refine va_iast hx hb hK hP hD hS 1 0 rfl rfl (vp_in_nI (n := (((fd + 1) + 1) + 1)) (by omega) (by omega)) dX7_append_32 (fun H locs hP hD hS => ?_)
  obtain ⟨f_23, ef_23⟩ : ∃ f9, f9 = (upd f_17 (nI (((fd + 1) + 1) + 1)).toNatClampNeg v_22) := ⟨_, rfl⟩
  obtain ⟨hP, hD⟩ : s3_w (dC, dI) classes A [(rd, .inr (7, [.ref rd_tape, .int (nI (((fd + 1) + 1) + 1)), .int fa1, .int fp1, .ref dr, .ref rd_names, .ref rd_nameKind, .ref rd_nameNumber, .int nm1, .ref rd_knotNames, .int en1, .int at0, .int tk1, .int ts1, .long tv1])), (rd_tape, .inl (k_rd_tape, 600, .inl f_23))] H := ⟨(by rw [ef_23]; exact hP), (by rw [ef_23]; exact hD)⟩
  refine lv_aload_n hx hb dX7_append_33 rfl (lv_at hl 1 rfl) ?_
  refine lv_dup hx hb dX7_append_34 rfl ?_
  refine va_get (D := (dC, dI)) (ci := 7) (v := .int (nI (((fd + 1) + 1) + 1))) (C := RX7) (T := TX7) (N := 15) hx hb hts (fun w h => wM_c (iX7 w h)) hown hK hP 0 rfl rfl 1 (by decide) (hts _ (wM_c wd_335)) (fun _ h9 => h9) rfl dX7_append_35 ?_
  refine lv_iconst (v := 1) hx hb dX7_append_38 (by decide) ?_
  refine lv_iadd hx hb dX7_append_39 ?_
  refine lv_topi (fun v_24 ev_24 => ?_)
  obtain rfl : v_24 = nI ((((fd + 1) + 1) + 1) + 1) := ev_24.trans (nI_add (((fd + 1) + 1) + 1) 1)
  refine va_put (D := (dC, dI)) (ci := 7) (v := .int (nI ((((fd + 1) + 1) + 1) + 1))) (ty := .int) (C := RX7) (T := TX7) (N := 15) hx hb hts (fun w h => wM_c (iX7 w h)) tyX7 tyX7_ok nmX7 hown hK hP hD hS 0 rfl rfl 1 (by decide) (hts _ (wM_c wd_335)) (fun _ h9 => h9) rfl (by decide +kernel) rfl rfl (Nat.le_of_ble_eq_true rfl) dX7_append_40 (fun H locs hP hD hS => ?_)
  obtain ⟨hP, hD⟩ : s3_w (dC, dI) classes A [(rd, .inr (7, [.ref rd_tape, .int (nI ((((fd + 1) + 1) + 1) + 1)), .int fa1, .int fp1, .ref dr, .ref rd_names, .ref rd_nameKind, .ref rd_nameNumber, .int nm1, .ref rd_knotNames, .int en1, .int at0, .int tk1, .int ts1, .long tv1])), (rd_tape, .inl (k_rd_tape, 600, .inl f_23))] H := ⟨hP, hD⟩
  refine lv_iinc (v := (-8)) (lv' := [(2, .int (-8)), (0, .ref rd), (1, .int fr4)]) hx hb dX7_append_43 hl (k := 0) rfl (by decide) (by decide) rfl (fun ls hl => ?_)
  refine lv_goto (tgt := 3) hx hb dX7_append_46 (by decide) ?_
  refine lv_iload_n hx hb dX7_append_3 rfl (lv_at hl 0 rfl) ?_
  refine lv_if_lt (tgt := 49) hx hb dX7_append_4 (by decide) (fun c_25 => ?_) (fun c_25 => ?_)
  · skip
    have hK9 := hK.sub (tys' := [(k_rd_tape, .int)]) [0] rfl
    exact W.vret hx hb hr (fun t ht hW => ⟨⟨(), rfl, trivial, ((((fd + 1) + 1) + 1) + 1), f_23, rfl, (ap_s (by omega) ef_5 ef_11 ef_17 ef_23 (by rw [ev_4, ev_3]; rfl) (by rw [ev_10, ev_9]; rfl) (by rw [ev_16, ev_15]; rfl) (by rw [ev_22, ev_21]; rfl)), by rw [ht]; exact hP.sub [0, 1] rfl, va_K.moved hW.alike hK9, hD.sub [0, 1] (by decide) rfl⟩, hS.F ht⟩) hS.2.2 dX7_append_49
  · exact absurd c_25 (by decide)
set_option maxHeartbeats 4000000 in
set_option maxRecDepth 100000 in
theorem p_feed (l : Launch) (dC : Nat → ClassId) (dI : Nat → Nat → Nat) (n0 : Nat) (atx : Nat → Nat × Nat) (sz : Nat) (x0 : Nat) (rd : Nat) (dr : Nat) (bk : Nat) (st : Nat) (j2 : Nat) (tr : Nat) (pl : Nat) (fl : Nat) (rq : Nat) (xt : Int32) (xf1 : Int32) (xp1 : Int32) (rd_tape : Nat) (fd : Nat) (fa1 : Int32) (fp1 : Int32) (rd_names : Nat) (rd_nameKind : Nat) (rd_nameNumber : Nat) (nm1 : Int32) (rd_knotNames : Nat) (en1 : Int32) (at0 : Int32) (tk1 : Int32) (ts1 : Int32) (tv1 : Int64) (k_rd_tape : ClassId) (f_rd_tape : Nat → Int32) (ea : Int32) (eb : Int32) (ec : Int32) (ed : Int32) (ee : Int32) (hfd : fd ≤ 600) : Met l yX11_feed (wM yX11_feed cX11_feed 6 (some .int)) ({ frames := 1, cells := 0, slots := 0, locals := 22 }) (va_Pc [.ref x0, .int ea, .int eb, .int ec, .int ed, .int ee] (fun U => U.heap.size = sz ∧ n0 ≤ sz ∧ GW n0 atx U ∧ va_P (dC, dI) classes [(x0, .inr (11, [.ref rd, .ref dr, .ref bk, .ref st, .ref j2, .ref tr, .ref pl, .ref fl, .ref rq, .int xt, .int xf1, .int xp1])), (rd, .inr (7, [.ref rd_tape, .int (nI fd), .int fa1, .int fp1, .ref dr, .ref rd_names, .ref rd_nameKind, .ref rd_nameNumber, .int nm1, .ref rd_knotNames, .int en1, .int at0, .int tk1, .int ts1, .long tv1])), (rd_tape, .inl (k_rd_tape, 600, .inl f_rd_tape))] U.heap ∧ va_K (dC, dI) classes [(k_rd_tape, .int)] U ∧ va_D (fun q => n0 ≤ q) [(x0, .inr (11, [.ref rd, .ref dr, .ref bk, .ref st, .ref j2, .ref tr, .ref pl, .ref fl, .ref rq, .int xt, .int xf1, .int xp1])), (rd, .inr (7, [.ref rd_tape, .int (nI fd), .int fa1, .int fp1, .ref dr, .ref rd_names, .ref rd_nameKind, .ref rd_nameNumber, .int nm1, .ref rd_knotNames, .int en1, .int at0, .int tk1, .int ts1, .long tv1])), (rd_tape, .inl (k_rd_tape, 600, .inl f_rd_tape))])) (va_Qi (fun (r : Int32) (_ : Unit) => r = if fd + 20 ≤ 600 then nI (fd + 20) else (-1)) (fun (_ : Unit) (t : State) => ∃ (fd9 : Nat), ∃ (ta9 : Nat → Int32), (fd9 = if fd + 20 ≤ 600 then fd + 20 else fd) ∧ (fd + 20 ≤ 600 → ∀ j, j < fd + 20 → ta9 j = if j < fd then f_rd_tape j else fdB ea eb ec ed ee (j - fd)) ∧ (¬ fd + 20 ≤ 600 → ta9 = f_rd_tape) ∧ va_P (dC, dI) classes [(x0, .inr (11, [.ref rd, .ref dr, .ref bk, .ref st, .ref j2, .ref tr, .ref pl, .ref fl, .ref rq, .int xt, .int xf1, .int xp1])), (rd, .inr (7, [.ref rd_tape, .int (nI fd9), .int fa1, .int fp1, .ref dr, .ref rd_names, .ref rd_nameKind, .ref rd_nameNumber, .int nm1, .ref rd_knotNames, .int en1, .int at0, .int tk1, .int ts1, .long tv1])), (rd_tape, .inl (k_rd_tape, 600, .inl ta9))] t.heap ∧ va_K (dC, dI) classes [(k_rd_tape, .int)] t ∧ va_D (va_A [(x0, .inr (11, [.ref rd, .ref dr, .ref bk, .ref st, .ref j2, .ref tr, .ref pl, .ref fl, .ref rq, .int xt, .int xf1, .int xp1])), (rd, .inr (7, [.ref rd_tape, .int (nI fd), .int fa1, .int fp1, .ref dr, .ref rd_names, .ref rd_nameKind, .ref rd_nameNumber, .int nm1, .ref rd_knotNames, .int en1, .int at0, .int tk1, .int ts1, .long tv1])), (rd_tape, .inl (k_rd_tape, 600, .inl f_rd_tape))] sz) [(x0, .inr (11, [.ref rd, .ref dr, .ref bk, .ref st, .ref j2, .ref tr, .ref pl, .ref fl, .ref rq, .int xt, .int xf1, .int xp1])), (rd, .inr (7, [.ref rd_tape, .int (nI fd9), .int fa1, .int fp1, .ref dr, .ref rd_names, .ref rd_nameKind, .ref rd_nameNumber, .int nm1, .ref rd_knotNames, .int en1, .int at0, .int tk1, .int ts1, .long tv1])), (rd_tape, .inl (k_rd_tape, 600, .inl ta9))]) (va_A [(x0, .inr (11, [.ref rd, .ref dr, .ref bk, .ref st, .ref j2, .ref tr, .ref pl, .ref fl, .ref rq, .int xt, .int xf1, .int xp1])), (rd, .inr (7, [.ref rd_tape, .int (nI fd), .int fa1, .int fp1, .ref dr, .ref rd_names, .ref rd_nameKind, .ref rd_nameNumber, .int nm1, .ref rd_knotNames, .int en1, .int at0, .int tk1, .int ts1, .long tv1])), (rd_tape, .inl (k_rd_tape, 600, .inl f_rd_tape))] sz)) 0 0 (va_A [(x0, .inr (11, [.ref rd, .ref dr, .ref bk, .ref st, .ref j2, .ref tr, .ref pl, .ref fl, .ref rq, .int xt, .int xf1, .int xp1])), (rd, .inr (7, [.ref rd_tape, .int (nI fd), .int fa1, .int fp1, .ref dr, .ref rd_names, .ref rd_nameKind, .ref rd_nameNumber, .int nm1, .ref rd_knotNames, .int en1, .int at0, .int tk1, .int ts1, .long tv1])), (rd_tape, .inl (k_rd_tape, 600, .inl f_rd_tape))] sz) := by
  refine Met.ofW (cc := cX11_feed) (maxL := 6) (ret := (some .int)) (by decide) rfl ?_
  intro p e s m args below meth c s₁ B hml hv
  obtain ⟨rfl, hsz, hn0, hG, hP, hK, hD0⟩ := hv
  have hx := B.exec
  have hb := B.bytes
  have hr := B.returns
  have hts := atoms_spec (ws := wM yX11_feed cX11_feed 6 (some .int)) B.pre
  have hown : s.vm.findClass RX11 = some m.cls := findClass_of_methodNamed B.named
  have hlocks := B.notSynchronized
  subst hsz
  have hD := hD0.self (sz := s.heap.size)
  have hA0 := vA_n0 hD0 hn0
  generalize hAe : va_A [(x0, .inr (11, [.ref rd, .ref dr, .ref bk, .ref st, .ref j2, .ref tr, .ref pl, .ref fl, .ref rq, .int xt, .int xf1, .int xp1])), (rd, .inr (7, [.ref rd_tape, .int (nI fd), .int fa1, .int fp1, .ref dr, .ref rd_names, .ref rd_nameKind, .ref rd_nameNumber, .int nm1, .ref rd_knotNames, .int en1, .int at0, .int tk1, .int ts1, .long tv1])), (rd_tape, .inl (k_rd_tape, 600, .inl f_rd_tape))] s.heap.size = A at hD hA0 ⊢
  have hA : ∀ q : Nat, s.heap.size ≤ q → A q := fun q h => by rw [← hAe]; exact Or.inr h
  have hS : va_S A s.heap s.heap [] := va_S.rf
  have hl := lv_entry ([.ref x0, .int ea, .int eb, .int ec, .int ed, .int ee]) (n := 6) (Nat.le_of_ble_eq_true rfl)
  rw [lg_entry_eq]
  generalize (lg_sl ([.ref x0, .int ea, .int eb, .int ec, .int ed, .int ee]) ++ List.replicate (6 - (lg_sl ([.ref x0, .int ea, .int eb, .int ec, .int ed, .int ee])).length) Slot.unset).toArray = ls at hl ⊢
  have hl : lv_has ls 6 [(0, .ref x0), (1, .int ea), (2, .int eb), (3, .int ec), (4, .int ed), (5, .int ee)] := hl
  refine lv_aload_n hx hb dX11_feed_0 rfl (lv_at hl 0 rfl) ?_
  refine va_get (D := (dC, dI)) (ci := 11) (v := .ref rd) (C := RX11) (T := TX11) (N := 12) hx hb hts (fun w h => wM_c (iX11 w h)) hown hK hP 0 rfl rfl 0 (by decide) (hts _ (wM_c wd_670)) (fun _ h9 => h9) rfl dX11_feed_1 ?_
  refine va_get (D := (dC, dI)) (ci := 7) (v := .int (nI fd)) (C := RX7) (T := TX7) (N := 15) hx hb hts (fun w h => wM_c (iX7 w h)) hown hK hP 1 rfl rfl 1 (by decide) (hts _ (wM_c wd_334)) (fun _ h9 => h9) rfl dX11_feed_4 ?_
  refine lv_bipush (v := 20) hx hb dX11_feed_7 (by decide) ?_
  refine lv_iadd hx hb dX11_feed_9 ?_
  refine lv_topi (fun v_1 ev_1 => ?_)
  obtain rfl : v_1 = nI (fd + 20) := ev_1.trans (nI_add fd 20)
  refine lv_sipush (v := 600) hx hb dX11_feed_10 (by decide) ?_
  refine lv_icmp_le (tgt := 18) hx hb dX11_feed_13 (by decide) (fun c_2 => ?_) (fun c_2 => ?_)
  · skip
    have g_3 := n_ge (a := 600) (b := (fd + 20)) c_2 (by omega) (by omega)
    refine lv_aload_n hx hb dX11_feed_18 rfl (lv_at hl 0 rfl) ?_
    refine va_get (D := (dC, dI)) (ci := 11) (v := .ref rd) (C := RX11) (T := TX11) (N := 12) hx hb hts (fun w h => wM_c (iX11 w h)) hown hK hP 0 rfl rfl 0 (by decide) (hts _ (wM_c wd_670)) (fun _ h9 => h9) rfl dX11_feed_19 ?_
    refine lv_iload_n hx hb dX11_feed_22 rfl (lv_at hl 1 rfl) ?_
    obtain ⟨hPc, hDc, hFc⟩ := s3_c (ws' := [(rd, .inr (7, [.ref rd_tape, .int (nI fd), .int fa1, .int fp1, .ref dr, .ref rd_names, .ref rd_nameKind, .ref rd_nameNumber, .int nm1, .ref rd_knotNames, .int en1, .int at0, .int tk1, .int ts1, .long tv1])), (rd_tape, .inl (k_rd_tape, 600, .inl f_rd_tape))]) [1, 2] hP hD hS hA rfl (by decide)
    have hKc := hK.sub (tys' := [(k_rd_tape, .int)]) [0] rfl
    refine va_callv (va_runV (As := [.int ea]) (rest := []) ⟨hx, hb, hml, hown, hts⟩ (c7_append l dC dI n0 atx s.heap.size rd rd_tape fd fa1 fp1 dr rd_names rd_nameKind rd_nameNumber nm1 rd_knotNames en1 at0 tk1 ts1 tv1 k_rd_tape f_rd_tape ea (by first | with_reducible assumption | omega | exact vp_in_iff.mpr (by omega) | exact vp_in_nI (by omega) (by omega) | exact ⟨by omega, by omega⟩)) (cwV 1 hts (gV (fun w h => wM_c h) wd_714 wd_711 wd_712 wd_713 wd_117) rfl rfl rfl (by decide +kernel) ⟨Nat.le_of_ble_eq_true rfl, Nat.le_of_ble_eq_true rfl⟩) ⟨fun a U g mk q => by obtain ⟨q0, q1, q2, qG, qP, qK, qD⟩ := q; exact ⟨q0, q1, q2, GW.blind qG, qP, va_K.moved (u := U) (U := U.calling g mk a) (Vm.Alike.refl U.vm) qK, qD⟩, va_recv hKc hPc (ci := 7) (q0 := 0) rfl rfl, fun U hU hW => ⟨rfl, by rw [hU], Nat.le_trans hn0 hS.1, GW.go hW hU hG (fun q hq hA9 => hS.2.1 q hq (fun h => hA9 (hA0 q h))), by rw [hU]; exact hPc, va_K.moved hW.alike hKc, hDc.weaken (fun _ _ _ h => hA0 _ h)⟩⟩ rfl rfl hl.1 rfl (lv_room (Nat.le_of_ble_eq_true rfl)) dX11_feed_23 ⟨Nat.le_of_ble_eq_true rfl, Nat.le_of_ble_eq_true rfl⟩) hS (fun q _ h => hFc q h) hFc (fun u t H1 locs ht hvm hw_5 hB hz1 hk1 hS => ?_)
    obtain ⟨fd9_6, ta9_7, hf_8, hf_9, hP1, hK1, hD1⟩ := hB
    rw [ht] at hP1
    obtain ⟨hP, hD⟩ := s3_j (L := [(x0, .inr (11, [.ref rd, .ref dr, .ref bk, .ref st, .ref j2, .ref tr, .ref pl, .ref fl, .ref rq, .int xt, .int xf1, .int xp1])), (rd, .inr (7, [.ref rd_tape, .int (nI fd9_6), .int fa1, .int fp1, .ref dr, .ref rd_names, .ref rd_nameKind, .ref rd_nameNumber, .int nm1, .ref rd_knotNames, .int en1, .int at0, .int tk1, .int ts1, .long tv1])), (rd_tape, .inl (k_rd_tape, 600, .inl ta9_7))]) 1 hP hD [1, 2] [0] hk1 hFc hP1 hD1 rfl rfl rfl (by decide) (by decide)
    generalize H1 = H at hP hS ⊢
    refine lv_aload_n hx hb dX11_feed_26 rfl (lv_at hl 0 rfl) ?_
    refine va_get (D := (dC, dI)) (ci := 11) (v := .ref rd) (C := RX11) (T := TX11) (N := 12) hx hb hts (fun w h => wM_c (iX11 w h)) hown hK hP 0 rfl rfl 0 (by decide) (hts _ (wM_c wd_670)) (fun _ h9 => h9) rfl dX11_feed_27 ?_
    refine lv_iload_n hx hb dX11_feed_30 rfl (lv_at hl 2 rfl) ?_
    obtain ⟨hPc, hDc, hFc⟩ := s3_c (ws' := [(rd, .inr (7, [.ref rd_tape, .int (nI fd9_6), .int fa1, .int fp1, .ref dr, .ref rd_names, .ref rd_nameKind, .ref rd_nameNumber, .int nm1, .ref rd_knotNames, .int en1, .int at0, .int tk1, .int ts1, .long tv1])), (rd_tape, .inl (k_rd_tape, 600, .inl ta9_7))]) [1, 2] hP hD hS hA rfl (by decide)
    have hKc := hK.sub (tys' := [(k_rd_tape, .int)]) [0] rfl
    refine va_callv (va_runV (As := [.int eb]) (rest := []) ⟨hx, hb, hml, hown, hts⟩ (c7_append l dC dI n0 atx H.size rd rd_tape fd9_6 fa1 fp1 dr rd_names rd_nameKind rd_nameNumber nm1 rd_knotNames en1 at0 tk1 ts1 tv1 k_rd_tape ta9_7 eb (by first | with_reducible assumption | omega | exact vp_in_iff.mpr (by omega) | exact vp_in_nI (by omega) (by omega) | exact ⟨by omega, by omega⟩)) (cwV 1 hts (gV (fun w h => wM_c h) wd_714 wd_711 wd_712 wd_713 wd_117) rfl rfl rfl (by decide +kernel) ⟨Nat.le_of_ble_eq_true rfl, Nat.le_of_ble_eq_true rfl⟩) ⟨fun a U g mk q => by obtain ⟨q0, q1, q2, qG, qP, qK, qD⟩ := q; exact ⟨q0, q1, q2, GW.blind qG, qP, va_K.moved (u := U) (U := U.calling g mk a) (Vm.Alike.refl U.vm) qK, qD⟩, va_recv hKc hPc (ci := 7) (q0 := 0) rfl rfl, fun U hU hW => ⟨rfl, by rw [hU], Nat.le_trans hn0 hS.1, GW.go hW hU hG (fun q hq hA9 => hS.2.1 q hq (fun h => hA9 (hA0 q h))), by rw [hU]; exact hPc, va_K.moved hW.alike hKc, hDc.weaken (fun _ _ _ h => hA0 _ h)⟩⟩ rfl rfl hl.1 rfl (lv_room (Nat.le_of_ble_eq_true rfl)) dX11_feed_31 ⟨Nat.le_of_ble_eq_true rfl, Nat.le_of_ble_eq_true rfl⟩) hS (fun q _ h => hFc q h) hFc (fun u t H1 locs ht hvm hw_11 hB hz1 hk1 hS => ?_)
    obtain ⟨fd9_12, ta9_13, hf_14, hf_15, hP1, hK1, hD1⟩ := hB
    rw [ht] at hP1
    obtain ⟨hP, hD⟩ := s3_j (L := [(x0, .inr (11, [.ref rd, .ref dr, .ref bk, .ref st, .ref j2, .ref tr, .ref pl, .ref fl, .ref rq, .int xt, .int xf1, .int xp1])), (rd, .inr (7, [.ref rd_tape, .int (nI fd9_12), .int fa1, .int fp1, .ref dr, .ref rd_names, .ref rd_nameKind, .ref rd_nameNumber, .int nm1, .ref rd_knotNames, .int en1, .int at0, .int tk1, .int ts1, .long tv1])), (rd_tape, .inl (k_rd_tape, 600, .inl ta9_13))]) 1 hP hD [1, 2] [0] hk1 hFc hP1 hD1 rfl rfl rfl (by decide) (by decide)
    generalize H1 = H at hP hS ⊢
    refine lv_aload_n hx hb dX11_feed_34 rfl (lv_at hl 0 rfl) ?_
    refine va_get (D := (dC, dI)) (ci := 11) (v := .ref rd) (C := RX11) (T := TX11) (N := 12) hx hb hts (fun w h => wM_c (iX11 w h)) hown hK hP 0 rfl rfl 0 (by decide) (hts _ (wM_c wd_670)) (fun _ h9 => h9) rfl dX11_feed_35 ?_
    refine lv_iload_n hx hb dX11_feed_38 rfl (lv_at hl 3 rfl) ?_
    obtain ⟨hPc, hDc, hFc⟩ := s3_c (ws' := [(rd, .inr (7, [.ref rd_tape, .int (nI fd9_12), .int fa1, .int fp1, .ref dr, .ref rd_names, .ref rd_nameKind, .ref rd_nameNumber, .int nm1, .ref rd_knotNames, .int en1, .int at0, .int tk1, .int ts1, .long tv1])), (rd_tape, .inl (k_rd_tape, 600, .inl ta9_13))]) [1, 2] hP hD hS hA rfl (by decide)
    have hKc := hK.sub (tys' := [(k_rd_tape, .int)]) [0] rfl
    refine va_callv (va_runV (As := [.int ec]) (rest := []) ⟨hx, hb, hml, hown, hts⟩ (c7_append l dC dI n0 atx H.size rd rd_tape fd9_12 fa1 fp1 dr rd_names rd_nameKind rd_nameNumber nm1 rd_knotNames en1 at0 tk1 ts1 tv1 k_rd_tape ta9_13 ec (by first | with_reducible assumption | omega | exact vp_in_iff.mpr (by omega) | exact vp_in_nI (by omega) (by omega) | exact ⟨by omega, by omega⟩)) (cwV 1 hts (gV (fun w h => wM_c h) wd_714 wd_711 wd_712 wd_713 wd_117) rfl rfl rfl (by decide +kernel) ⟨Nat.le_of_ble_eq_true rfl, Nat.le_of_ble_eq_true rfl⟩) ⟨fun a U g mk q => by obtain ⟨q0, q1, q2, qG, qP, qK, qD⟩ := q; exact ⟨q0, q1, q2, GW.blind qG, qP, va_K.moved (u := U) (U := U.calling g mk a) (Vm.Alike.refl U.vm) qK, qD⟩, va_recv hKc hPc (ci := 7) (q0 := 0) rfl rfl, fun U hU hW => ⟨rfl, by rw [hU], Nat.le_trans hn0 hS.1, GW.go hW hU hG (fun q hq hA9 => hS.2.1 q hq (fun h => hA9 (hA0 q h))), by rw [hU]; exact hPc, va_K.moved hW.alike hKc, hDc.weaken (fun _ _ _ h => hA0 _ h)⟩⟩ rfl rfl hl.1 rfl (lv_room (Nat.le_of_ble_eq_true rfl)) dX11_feed_39 ⟨Nat.le_of_ble_eq_true rfl, Nat.le_of_ble_eq_true rfl⟩) hS (fun q _ h => hFc q h) hFc (fun u t H1 locs ht hvm hw_17 hB hz1 hk1 hS => ?_)
    obtain ⟨fd9_18, ta9_19, hf_20, hf_21, hP1, hK1, hD1⟩ := hB
    rw [ht] at hP1
    obtain ⟨hP, hD⟩ := s3_j (L := [(x0, .inr (11, [.ref rd, .ref dr, .ref bk, .ref st, .ref j2, .ref tr, .ref pl, .ref fl, .ref rq, .int xt, .int xf1, .int xp1])), (rd, .inr (7, [.ref rd_tape, .int (nI fd9_18), .int fa1, .int fp1, .ref dr, .ref rd_names, .ref rd_nameKind, .ref rd_nameNumber, .int nm1, .ref rd_knotNames, .int en1, .int at0, .int tk1, .int ts1, .long tv1])), (rd_tape, .inl (k_rd_tape, 600, .inl ta9_19))]) 1 hP hD [1, 2] [0] hk1 hFc hP1 hD1 rfl rfl rfl (by decide) (by decide)
    generalize H1 = H at hP hS ⊢
    refine lv_aload_n hx hb dX11_feed_42 rfl (lv_at hl 0 rfl) ?_
    refine va_get (D := (dC, dI)) (ci := 11) (v := .ref rd) (C := RX11) (T := TX11) (N := 12) hx hb hts (fun w h => wM_c (iX11 w h)) hown hK hP 0 rfl rfl 0 (by decide) (hts _ (wM_c wd_670)) (fun _ h9 => h9) rfl dX11_feed_43 ?_
    refine lv_iload hx hb dX11_feed_46 (lv_at hl 4 rfl) ?_
    obtain ⟨hPc, hDc, hFc⟩ := s3_c (ws' := [(rd, .inr (7, [.ref rd_tape, .int (nI fd9_18), .int fa1, .int fp1, .ref dr, .ref rd_names, .ref rd_nameKind, .ref rd_nameNumber, .int nm1, .ref rd_knotNames, .int en1, .int at0, .int tk1, .int ts1, .long tv1])), (rd_tape, .inl (k_rd_tape, 600, .inl ta9_19))]) [1, 2] hP hD hS hA rfl (by decide)
    have hKc := hK.sub (tys' := [(k_rd_tape, .int)]) [0] rfl
    refine va_callv (va_runV (As := [.int ed]) (rest := []) ⟨hx, hb, hml, hown, hts⟩ (c7_append l dC dI n0 atx H.size rd rd_tape fd9_18 fa1 fp1 dr rd_names rd_nameKind rd_nameNumber nm1 rd_knotNames en1 at0 tk1 ts1 tv1 k_rd_tape ta9_19 ed (by first | with_reducible assumption | omega | exact vp_in_iff.mpr (by omega) | exact vp_in_nI (by omega) (by omega) | exact ⟨by omega, by omega⟩)) (cwV 1 hts (gV (fun w h => wM_c h) wd_714 wd_711 wd_712 wd_713 wd_117) rfl rfl rfl (by decide +kernel) ⟨Nat.le_of_ble_eq_true rfl, Nat.le_of_ble_eq_true rfl⟩) ⟨fun a U g mk q => by obtain ⟨q0, q1, q2, qG, qP, qK, qD⟩ := q; exact ⟨q0, q1, q2, GW.blind qG, qP, va_K.moved (u := U) (U := U.calling g mk a) (Vm.Alike.refl U.vm) qK, qD⟩, va_recv hKc hPc (ci := 7) (q0 := 0) rfl rfl, fun U hU hW => ⟨rfl, by rw [hU], Nat.le_trans hn0 hS.1, GW.go hW hU hG (fun q hq hA9 => hS.2.1 q hq (fun h => hA9 (hA0 q h))), by rw [hU]; exact hPc, va_K.moved hW.alike hKc, hDc.weaken (fun _ _ _ h => hA0 _ h)⟩⟩ rfl rfl hl.1 rfl (lv_room (Nat.le_of_ble_eq_true rfl)) dX11_feed_48 ⟨Nat.le_of_ble_eq_true rfl, Nat.le_of_ble_eq_true rfl⟩) hS (fun q _ h => hFc q h) hFc (fun u t H1 locs ht hvm hw_23 hB hz1 hk1 hS => ?_)
    obtain ⟨fd9_24, ta9_25, hf_26, hf_27, hP1, hK1, hD1⟩ := hB
    rw [ht] at hP1
    obtain ⟨hP, hD⟩ := s3_j (L := [(x0, .inr (11, [.ref rd, .ref dr, .ref bk, .ref st, .ref j2, .ref tr, .ref pl, .ref fl, .ref rq, .int xt, .int xf1, .int xp1])), (rd, .inr (7, [.ref rd_tape, .int (nI fd9_24), .int fa1, .int fp1, .ref dr, .ref rd_names, .ref rd_nameKind, .ref rd_nameNumber, .int nm1, .ref rd_knotNames, .int en1, .int at0, .int tk1, .int ts1, .long tv1])), (rd_tape, .inl (k_rd_tape, 600, .inl ta9_25))]) 1 hP hD [1, 2] [0] hk1 hFc hP1 hD1 rfl rfl rfl (by decide) (by decide)
    generalize H1 = H at hP hS ⊢
    refine lv_aload_n hx hb dX11_feed_51 rfl (lv_at hl 0 rfl) ?_
    refine va_get (D := (dC, dI)) (ci := 11) (v := .ref rd) (C := RX11) (T := TX11) (N := 12) hx hb hts (fun w h => wM_c (iX11 w h)) hown hK hP 0 rfl rfl 0 (by decide) (hts _ (wM_c wd_670)) (fun _ h9 => h9) rfl dX11_feed_52 ?_
    refine lv_iload hx hb dX11_feed_55 (lv_at hl 5 rfl) ?_
    obtain ⟨hPc, hDc, hFc⟩ := s3_c (ws' := [(rd, .inr (7, [.ref rd_tape, .int (nI fd9_24), .int fa1, .int fp1, .ref dr, .ref rd_names, .ref rd_nameKind, .ref rd_nameNumber, .int nm1, .ref rd_knotNames, .int en1, .int at0, .int tk1, .int ts1, .long tv1])), (rd_tape, .inl (k_rd_tape, 600, .inl ta9_25))]) [1, 2] hP hD hS hA rfl (by decide)
    have hKc := hK.sub (tys' := [(k_rd_tape, .int)]) [0] rfl
    refine va_callv (va_runV (As := [.int ee]) (rest := []) ⟨hx, hb, hml, hown, hts⟩ (c7_append l dC dI n0 atx H.size rd rd_tape fd9_24 fa1 fp1 dr rd_names rd_nameKind rd_nameNumber nm1 rd_knotNames en1 at0 tk1 ts1 tv1 k_rd_tape ta9_25 ee (by first | with_reducible assumption | omega | exact vp_in_iff.mpr (by omega) | exact vp_in_nI (by omega) (by omega) | exact ⟨by omega, by omega⟩)) (cwV 1 hts (gV (fun w h => wM_c h) wd_714 wd_711 wd_712 wd_713 wd_117) rfl rfl rfl (by decide +kernel) ⟨Nat.le_of_ble_eq_true rfl, Nat.le_of_ble_eq_true rfl⟩) ⟨fun a U g mk q => by obtain ⟨q0, q1, q2, qG, qP, qK, qD⟩ := q; exact ⟨q0, q1, q2, GW.blind qG, qP, va_K.moved (u := U) (U := U.calling g mk a) (Vm.Alike.refl U.vm) qK, qD⟩, va_recv hKc hPc (ci := 7) (q0 := 0) rfl rfl, fun U hU hW => ⟨rfl, by rw [hU], Nat.le_trans hn0 hS.1, GW.go hW hU hG (fun q hq hA9 => hS.2.1 q hq (fun h => hA9 (hA0 q h))), by rw [hU]; exact hPc, va_K.moved hW.alike hKc, hDc.weaken (fun _ _ _ h => hA0 _ h)⟩⟩ rfl rfl hl.1 rfl (lv_room (Nat.le_of_ble_eq_true rfl)) dX11_feed_57 ⟨Nat.le_of_ble_eq_true rfl, Nat.le_of_ble_eq_true rfl⟩) hS (fun q _ h => hFc q h) hFc (fun u t H1 locs ht hvm hw_29 hB hz1 hk1 hS => ?_)
    obtain ⟨fd9_30, ta9_31, hf_32, hf_33, hP1, hK1, hD1⟩ := hB
    rw [ht] at hP1
    obtain ⟨hP, hD⟩ := s3_j (L := [(x0, .inr (11, [.ref rd, .ref dr, .ref bk, .ref st, .ref j2, .ref tr, .ref pl, .ref fl, .ref rq, .int xt, .int xf1, .int xp1])), (rd, .inr (7, [.ref rd_tape, .int (nI fd9_30), .int fa1, .int fp1, .ref dr, .ref rd_names, .ref rd_nameKind, .ref rd_nameNumber, .int nm1, .ref rd_knotNames, .int en1, .int at0, .int tk1, .int ts1, .long tv1])), (rd_tape, .inl (k_rd_tape, 600, .inl ta9_31))]) 1 hP hD [1, 2] [0] hk1 hFc hP1 hD1 rfl rfl rfl (by decide) (by decide)
    generalize H1 = H at hP hS ⊢
    refine lv_aload_n hx hb dX11_feed_60 rfl (lv_at hl 0 rfl) ?_
    refine va_get (D := (dC, dI)) (ci := 11) (v := .ref rd) (C := RX11) (T := TX11) (N := 12) hx hb hts (fun w h => wM_c (iX11 w h)) hown hK hP 0 rfl rfl 0 (by decide) (hts _ (wM_c wd_670)) (fun _ h9 => h9) rfl dX11_feed_61 ?_
    refine va_get (D := (dC, dI)) (ci := 7) (v := .int (nI fd9_30)) (C := RX7) (T := TX7) (N := 15) hx hb hts (fun w h => wM_c (iX7 w h)) hown hK hP 1 rfl rfl 1 (by decide) (hts _ (wM_c wd_334)) (fun _ h9 => h9) rfl dX11_feed_64 ?_
    have hK9 := hK.sub (tys' := [(k_rd_tape, .int)]) [0] rfl
    exact W.iret (v := (nI fd9_30)) hx hb hr (fun t ht hW => ⟨⟨(nI fd9_30), (), rfl, (by rw [if_pos (by omega), show fd9_30 = fd + 20 by omega]), fd9_30, ta9_31, (by rw [if_pos (by omega)]; omega), (fun _ => fd_s hf_8 hf_14 hf_20 hf_26 hf_9 hf_15 hf_21 hf_27 hf_33), (fun h9 => absurd (by omega) h9), by rw [ht]; exact hP.sub [0, 1, 2] rfl, va_K.moved hW.alike hK9, hD.sub [0, 1, 2] (by decide) rfl⟩, hS.F ht⟩) hS.2.2 dX11_feed_67
  · skip
    have g_34 := n_nge (a := 600) (b := (fd + 20)) c_2 (by omega) (by omega)
    refine lv_iconst (v := (-1)) hx hb dX11_feed_16 (by decide) ?_
    have hK9 := hK.sub (tys' := [(k_rd_tape, .int)]) [0] rfl
    exact W.iret (v := (-1)) hx hb hr (fun t ht hW => ⟨⟨(-1), (), rfl, (by rw [if_neg (by omega)]), fd, f_rd_tape, (by rw [if_neg (by omega)]), (fun h9 => absurd h9 (by omega)), (fun _ => rfl), by rw [ht]; exact hP.sub [0, 1, 2] rfl, va_K.moved hW.alike hK9, hD.sub [0, 1, 2] (by decide) rfl⟩, hS.F ht⟩) hS.2.2 dX11_feed_17
