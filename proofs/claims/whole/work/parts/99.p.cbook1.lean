theorem wd_336 : Cond.fieldLink "MineAir" 95 "MineAir$Reader" "fault" "I" ∈ wG := wG_of 336 (by decide +kernel) (by decide +kernel)
theorem wd_339 : Cond.fieldLink "MineAir" 99 "MineAir$Reader" "faultPlace" "I" ∈ wG := wG_of 339 (by decide +kernel) (by decide +kernel)
theorem wd_663 : Cond.methodLink "MineAir" 76 (⟨"MineAir$State", "reset", "()V"⟩ : MethodName) ∈ wG := wG_of 663 (by decide +kernel) (by decide +kernel)
theorem wd_664 : Cond.instanceMethod (⟨"MineAir$State", "reset", "()V"⟩ : MethodName) ∈ wG := wG_of 664 (by decide +kernel) (by decide +kernel)
theorem wd_665 : Cond.selects "MineAir$State" (⟨"MineAir$State", "reset", "()V"⟩ : MethodName) (⟨"MineAir$State", "reset", "()V"⟩ : MethodName) ∈ wG := wG_of 665 (by decide +kernel) (by decide +kernel)
theorem wd_666 : Cond.code (⟨"MineAir$State", "reset", "()V"⟩ : MethodName) prog_11_method_2_code 2 (Option.none : Option Jvm.ClassFile.FieldType) ∈ wG := wG_of 666 (by decide +kernel) (by decide +kernel)
theorem wd_671 : Cond.fieldLink "MineAir" 12 "MineAir" "draft" "LMineAir$Book;" ∈ wG := wG_of 671 (by decide +kernel) (by decide +kernel)
theorem wd_723 : Cond.methodLink "MineAir" 91 (⟨"MineAir$Reader", "readBook", "(I)Z"⟩ : MethodName) ∈ wG := wG_of 723 (by decide +kernel) (by decide +kernel)
theorem wd_724 : Cond.instanceMethod (⟨"MineAir$Reader", "readBook", "(I)Z"⟩ : MethodName) ∈ wG := wG_of 724 (by decide +kernel) (by decide +kernel)
theorem wd_725 : Cond.selects "MineAir$Reader" (⟨"MineAir$Reader", "readBook", "(I)Z"⟩ : MethodName) (⟨"MineAir$Reader", "readBook", "(I)Z"⟩ : MethodName) ∈ wG := wG_of 725 (by decide +kernel) (by decide +kernel)
theorem wd_726 : Cond.code (⟨"MineAir$Reader", "readBook", "(I)Z"⟩ : MethodName) prog_9_method_3_code 3 (Option.some Jvm.ClassFile.FieldType.boolean) ∈ wG := wG_of 726 (by decide +kernel) (by decide +kernel)
theorem wd_892 : Cond.methodLink "MineAir" 105 (⟨"MineAir$Book", "copy", "(LMineAir$Book;)V"⟩ : MethodName) ∈ wG := wG_of 892 (by decide +kernel) (by decide +kernel)
theorem wd_893 : Cond.instanceMethod (⟨"MineAir$Book", "copy", "(LMineAir$Book;)V"⟩ : MethodName) ∈ wG := wG_of 893 (by decide +kernel) (by decide +kernel)
theorem wd_894 : Cond.selects "MineAir$Book" (⟨"MineAir$Book", "copy", "(LMineAir$Book;)V"⟩ : MethodName) (⟨"MineAir$Book", "copy", "(LMineAir$Book;)V"⟩ : MethodName) ∈ wG := wG_of 894 (by decide +kernel) (by decide +kernel)
theorem wd_895 : Cond.code (⟨"MineAir$Book", "copy", "(LMineAir$Book;)V"⟩ : MethodName) prog_2_method_3_code 2 (Option.none : Option Jvm.ClassFile.FieldType) ∈ wG := wG_of 895 (by decide +kernel) (by decide +kernel)
theorem wd_904 : Cond.methodLink "MineAir" 108 (⟨"MineAir$Judge", "restart", "()V"⟩ : MethodName) ∈ wG := wG_of 904 (by decide +kernel) (by decide +kernel)
theorem wd_905 : Cond.instanceMethod (⟨"MineAir$Judge", "restart", "()V"⟩ : MethodName) ∈ wG := wG_of 905 (by decide +kernel) (by decide +kernel)
theorem wd_906 : Cond.selects "MineAir$Judge" (⟨"MineAir$Judge", "restart", "()V"⟩ : MethodName) (⟨"MineAir$Judge", "restart", "()V"⟩ : MethodName) ∈ wG := wG_of 906 (by decide +kernel) (by decide +kernel)
theorem wd_907 : Cond.code (⟨"MineAir$Judge", "restart", "()V"⟩ : MethodName) prog_6_method_3_code 1 (Option.none : Option Jvm.ClassFile.FieldType) ∈ wG := wG_of 907 (by decide +kernel) (by decide +kernel)
theorem dX11_book_0 : decode cX11_book 0 = .ok (.iload_n 1, 1) := by decide +kernel
theorem dX11_book_1 : decode cX11_book 1 = .ok (.ifCond .lt 14, 3) := by decide +kernel
theorem dX11_book_4 : decode cX11_book 4 = .ok (.iload_n 1, 1) := by decide +kernel
theorem dX11_book_5 : decode cX11_book 5 = .ok (.aload_n 0, 1) := by decide +kernel
theorem dX11_book_6 : decode cX11_book 6 = .ok (.getfield 24, 3) := by decide +kernel
theorem dX11_book_9 : decode cX11_book 9 = .ok (.getfield 79, 3) := by decide +kernel
theorem dX11_book_12 : decode cX11_book 12 = .ok (.if_icmp .le 9, 3) := by decide +kernel
theorem dX11_book_15 : decode cX11_book 15 = .ok (.aload_n 0, 1) := by decide +kernel
theorem dX11_book_16 : decode cX11_book 16 = .ok (.iconst 2, 1) := by decide +kernel
theorem dX11_book_17 : decode cX11_book 17 = .ok (.invokevirtual 87, 3) := by decide +kernel
theorem dX11_book_20 : decode cX11_book 20 = .ok (.ireturn, 1) := by decide +kernel
theorem dX11_book_21 : decode cX11_book 21 = .ok (.aload_n 0, 1) := by decide +kernel
theorem dX11_book_22 : decode cX11_book 22 = .ok (.getfield 24, 3) := by decide +kernel
theorem dX11_book_25 : decode cX11_book 25 = .ok (.iload_n 1, 1) := by decide +kernel
theorem dX11_book_26 : decode cX11_book 26 = .ok (.invokevirtual 91, 3) := by decide +kernel
theorem dX11_book_29 : decode cX11_book 29 = .ok (.istore_n 2, 1) := by decide +kernel
theorem dX11_book_30 : decode cX11_book 30 = .ok (.aload_n 0, 1) := by decide +kernel
theorem dX11_book_31 : decode cX11_book 31 = .ok (.aload_n 0, 1) := by decide +kernel
theorem dX11_book_32 : decode cX11_book 32 = .ok (.getfield 24, 3) := by decide +kernel
theorem dX11_book_35 : decode cX11_book 35 = .ok (.getfield 95, 3) := by decide +kernel
theorem dX11_book_38 : decode cX11_book 38 = .ok (.putfield 98, 3) := by decide +kernel
theorem dX11_book_41 : decode cX11_book 41 = .ok (.aload_n 0, 1) := by decide +kernel
theorem dX11_book_42 : decode cX11_book 42 = .ok (.aload_n 0, 1) := by decide +kernel
theorem dX11_book_43 : decode cX11_book 43 = .ok (.getfield 24, 3) := by decide +kernel
theorem dX11_book_46 : decode cX11_book 46 = .ok (.getfield 99, 3) := by decide +kernel
theorem dX11_book_49 : decode cX11_book 49 = .ok (.putfield 102, 3) := by decide +kernel
theorem dX11_book_52 : decode cX11_book 52 = .ok (.iload_n 2, 1) := by decide +kernel
theorem dX11_book_53 : decode cX11_book 53 = .ok (.ifCond .ne 9, 3) := by decide +kernel
theorem dX11_book_56 : decode cX11_book 56 = .ok (.aload_n 0, 1) := by decide +kernel
theorem dX11_book_57 : decode cX11_book 57 = .ok (.iconst 4, 1) := by decide +kernel
theorem dX11_book_58 : decode cX11_book 58 = .ok (.invokevirtual 87, 3) := by decide +kernel
theorem dX11_book_61 : decode cX11_book 61 = .ok (.ireturn, 1) := by decide +kernel
theorem dX11_book_62 : decode cX11_book 62 = .ok (.aload_n 0, 1) := by decide +kernel
theorem dX11_book_63 : decode cX11_book 63 = .ok (.getfield 16, 3) := by decide +kernel
theorem dX11_book_66 : decode cX11_book 66 = .ok (.aload_n 0, 1) := by decide +kernel
theorem dX11_book_67 : decode cX11_book 67 = .ok (.getfield 12, 3) := by decide +kernel
theorem dX11_book_70 : decode cX11_book 70 = .ok (.invokevirtual 105, 3) := by decide +kernel
theorem dX11_book_73 : decode cX11_book 73 = .ok (.aload_n 0, 1) := by decide +kernel
theorem dX11_book_74 : decode cX11_book 74 = .ok (.getfield 31, 3) := by decide +kernel
theorem dX11_book_77 : decode cX11_book 77 = .ok (.invokevirtual 76, 3) := by decide +kernel
theorem dX11_book_80 : decode cX11_book 80 = .ok (.aload_n 0, 1) := by decide +kernel
theorem dX11_book_81 : decode cX11_book 81 = .ok (.getfield 40, 3) := by decide +kernel
theorem dX11_book_84 : decode cX11_book 84 = .ok (.invokevirtual 108, 3) := by decide +kernel
theorem dX11_book_87 : decode cX11_book 87 = .ok (.aload_n 0, 1) := by decide +kernel
theorem dX11_book_88 : decode cX11_book 88 = .ok (.getfield 65, 3) := by decide +kernel
theorem dX11_book_91 : decode cX11_book 91 = .ok (.iconst 0, 1) := by decide +kernel
theorem dX11_book_92 : decode cX11_book 92 = .ok (.putfield 111, 3) := by decide +kernel
theorem dX11_book_95 : decode cX11_book 95 = .ok (.aload_n 0, 1) := by decide +kernel
theorem dX11_book_96 : decode cX11_book 96 = .ok (.getfield 58, 3) := by decide +kernel
theorem dX11_book_99 : decode cX11_book 99 = .ok (.iconst 0, 1) := by decide +kernel
theorem dX11_book_100 : decode cX11_book 100 = .ok (.putfield 114, 3) := by decide +kernel
theorem dX11_book_103 : decode cX11_book 103 = .ok (.aload_n 0, 1) := by decide +kernel
theorem dX11_book_104 : decode cX11_book 104 = .ok (.getfield 72, 3) := by decide +kernel
theorem dX11_book_107 : decode cX11_book 107 = .ok (.iconst 0, 1) := by decide +kernel
theorem dX11_book_108 : decode cX11_book 108 = .ok (.putfield 117, 3) := by decide +kernel
theorem dX11_book_111 : decode cX11_book 111 = .ok (.aload_n 0, 1) := by decide +kernel
theorem dX11_book_112 : decode cX11_book 112 = .ok (.invokevirtual 118, 3) := by decide +kernel
theorem dX11_book_115 : decode cX11_book 115 = .ok (.aload_n 0, 1) := by decide +kernel
theorem dX11_book_116 : decode cX11_book 116 = .ok (.aload_n 0, 1) := by decide +kernel
theorem dX11_book_117 : decode cX11_book 117 = .ok (.getfield 16, 3) := by decide +kernel
theorem dX11_book_120 : decode cX11_book 120 = .ok (.getfield 121, 3) := by decide +kernel
theorem dX11_book_123 : decode cX11_book 123 = .ok (.invokevirtual 124, 3) := by decide +kernel
theorem dX11_book_126 : decode cX11_book 126 = .ok (.ireturn, 1) := by decide +kernel
set_option maxHeartbeats 4000000 in
set_option maxRecDepth 100000 in
theorem p_book0 (l : Launch) (dC : Nat → ClassId) (dI : Nat → Nat → Nat) (n0 : Nat) (atx : Nat → Nat × Nat) (sz : Nat) (x0 : Nat) (rd : Nat) (dr : Nat) (bk : Nat) (st : Nat) (j2 : Nat) (tr : Nat) (pl : Nat) (fl : Nat) (rq : Nat) (xt : Int32) (xf1 : Int32) (xp1 : Int32) (rd_tape : Nat) (fd : Nat) (fa1 : Int32) (fp1 : Int32) (rd_names : Nat) (rd_nameKind : Nat) (rd_nameNumber : Nat) (nm1 : Int32) (rd_knotNames : Nat) (en1 : Int32) (at0 : Int32) (tk1 : Int32) (ts1 : Int32) (tv1 : Int64) (n : Int32) (hfd : fd ≤ 600) (hbad : ¬ (0 ≤ n.toInt ∧ n.toInt ≤ fd)) : Met l yX11_book (wM yX11_book cX11_book 3 (some .int)) ({ frames := 1, cells := 0, slots := 0, locals := 21 }) (va_Pc [.ref x0, .int n] (fun U => U.heap.size = sz ∧ n0 ≤ sz ∧ GW n0 atx U ∧ va_P (dC, dI) classes [(x0, .inr (11, [.ref rd, .ref dr, .ref bk, .ref st, .ref j2, .ref tr, .ref pl, .ref fl, .ref rq, .int xt, .int xf1, .int xp1])), (rd, .inr (7, [.ref rd_tape, .int (nI fd), .int fa1, .int fp1, .ref dr, .ref rd_names, .ref rd_nameKind, .ref rd_nameNumber, .int nm1, .ref rd_knotNames, .int en1, .int at0, .int tk1, .int ts1, .long tv1]))] U.heap ∧ va_K (dC, dI) classes [] U ∧ va_D (fun q => n0 ≤ q) [(x0, .inr (11, [.ref rd, .ref dr, .ref bk, .ref st, .ref j2, .ref tr, .ref pl, .ref fl, .ref rq, .int xt, .int xf1, .int xp1])), (rd, .inr (7, [.ref rd_tape, .int (nI fd), .int fa1, .int fp1, .ref dr, .ref rd_names, .ref rd_nameKind, .ref rd_nameNumber, .int nm1, .ref rd_knotNames, .int en1, .int at0, .int tk1, .int ts1, .long tv1]))])) (va_Qi (fun (r : Int32) (_ : Unit) => r = (-1)) (fun (_ : Unit) (t : State) => va_P (dC, dI) classes [(x0, .inr (11, [.ref rd, .ref dr, .ref bk, .ref st, .ref j2, .ref tr, .ref pl, .ref fl, .ref rq, .int 2, .int xf1, .int xp1])), (rd, .inr (7, [.ref rd_tape, .int (nI fd), .int fa1, .int fp1, .ref dr, .ref rd_names, .ref rd_nameKind, .ref rd_nameNumber, .int nm1, .ref rd_knotNames, .int en1, .int at0, .int tk1, .int ts1, .long tv1]))] t.heap ∧ va_K (dC, dI) classes [] t ∧ va_D (va_A [(x0, .inr (11, [.ref rd, .ref dr, .ref bk, .ref st, .ref j2, .ref tr, .ref pl, .ref fl, .ref rq, .int xt, .int xf1, .int xp1])), (rd, .inr (7, [.ref rd_tape, .int (nI fd), .int fa1, .int fp1, .ref dr, .ref rd_names, .ref rd_nameKind, .ref rd_nameNumber, .int nm1, .ref rd_knotNames, .int en1, .int at0, .int tk1, .int ts1, .long tv1]))] sz) [(x0, .inr (11, [.ref rd, .ref dr, .ref bk, .ref st, .ref j2, .ref tr, .ref pl, .ref fl, .ref rq, .int 2, .int xf1, .int xp1])), (rd, .inr (7, [.ref rd_tape, .int (nI fd), .int fa1, .int fp1, .ref dr, .ref rd_names, .ref rd_nameKind, .ref rd_nameNumber, .int nm1, .ref rd_knotNames, .int en1, .int at0, .int tk1, .int ts1, .long tv1]))]) (va_A [(x0, .inr (11, [.ref rd, .ref dr, .ref bk, .ref st, .ref j2, .ref tr, .ref pl, .ref fl, .ref rq, .int xt, .int xf1, .int xp1])), (rd, .inr (7, [.ref rd_tape, .int (nI fd), .int fa1, .int fp1, .ref dr, .ref rd_names, .ref rd_nameKind, .ref rd_nameNumber, .int nm1, .ref rd_knotNames, .int en1, .int at0, .int tk1, .int ts1, .long tv1]))] sz)) 0 0 (va_A [(x0, .inr (11, [.ref rd, .ref dr, .ref bk, .ref st, .ref j2, .ref tr, .ref pl, .ref fl, .ref rq, .int xt, .int xf1, .int xp1])), (rd, .inr (7, [.ref rd_tape, .int (nI fd), .int fa1, .int fp1, .ref dr, .ref rd_names, .ref rd_nameKind, .ref rd_nameNumber, .int nm1, .ref rd_knotNames, .int en1, .int at0, .int tk1, .int ts1, .long tv1]))] sz) := by
  refine Met.ofW (cc := cX11_book) (maxL := 3) (ret := (some .int)) (by decide) rfl ?_
  intro p e s m args below meth c s₁ B hml hv
  obtain ⟨rfl, hsz, hn0, hG, hP, hK, hD0⟩ := hv
  have hx := B.exec
  have hb := B.bytes
  have hr := B.returns
  have hts := atoms_spec (ws := wM yX11_book cX11_book 3 (some .int)) B.pre
  have hown : s.vm.findClass RX11 = some m.cls := findClass_of_methodNamed B.named
  have hlocks := B.notSynchronized
  subst hsz
  have hD := hD0.self (sz := s.heap.size)
  have hA0 := vA_n0 hD0 hn0
  generalize hAe : va_A [(x0, .inr (11, [.ref rd, .ref dr, .ref bk, .ref st, .ref j2, .ref tr, .ref pl, .ref fl, .ref rq, .int xt, .int xf1, .int xp1])), (rd, .inr (7, [.ref rd_tape, .int (nI fd), .int fa1, .int fp1, .ref dr, .ref rd_names, .ref rd_nameKind, .ref rd_nameNumber, .int nm1, .ref rd_knotNames, .int en1, .int at0, .int tk1, .int ts1, .long tv1]))] s.heap.size = A at hD hA0 ⊢
  have hA : ∀ q : Nat, s.heap.size ≤ q → A q := fun q h => by rw [← hAe]; exact Or.inr h
  have hS : va_S A s.heap s.heap [] := va_S.rf
  have hl := lv_entry ([.ref x0, .int n]) (n := 3) (Nat.le_of_ble_eq_true rfl)
  rw [lg_entry_eq]
  generalize (lg_sl ([.ref x0, .int n]) ++ List.replicate (3 - (lg_sl ([.ref x0, .int n])).length) Slot.unset).toArray = ls at hl ⊢
  have hl : lv_has ls 3 [(0, .ref x0), (1, .int n)] := hl
  refine lv_iload_n hx hb dX11_book_0 rfl (lv_at hl 1 rfl) ?_
  refine lv_if_lt (tgt := 15) hx hb dX11_book_1 (by decide) (fun c_1 => ?_) (fun c_1 => ?_)
  · skip
    have g_2 : n.toInt < (0 : Int) := i_lt c_1
    refine lv_aload_n hx hb dX11_book_15 rfl (lv_at hl 0 rfl) ?_
    refine lv_iconst (v := 2) hx hb dX11_book_16 (by decide) ?_
    obtain ⟨hPc, hDc, hFc⟩ := s3_c (ws' := [(x0, .inr (11, [.ref rd, .ref dr, .ref bk, .ref st, .ref j2, .ref tr, .ref pl, .ref fl, .ref rq, .int xt, .int xf1, .int xp1]))]) [0] hP hD hS hA rfl (by decide)
    have hKc := hK.sub (tys' := []) [] rfl
    refine va_calli (va_runV (As := [.int 2]) (rest := []) ⟨hx, hb, hml, hown, hts⟩ (x_refuse l dC dI n0 atx s.heap.size x0 rd dr bk st j2 tr pl fl rq xt xf1 xp1 2 ) (cwV 1 hts (gV (fun w h => wM_c h) wd_722 wd_719 wd_721 wd_0 wd_114) rfl rfl rfl (by decide +kernel) ⟨Nat.le_of_ble_eq_true rfl, Nat.le_of_ble_eq_true rfl⟩) ⟨fun a U g mk q => by obtain ⟨q0, q1, q2, qG, qP, qK, qD⟩ := q; exact ⟨q0, q1, q2, GW.blind qG, qP, va_K.moved (u := U) (U := U.calling g mk a) (Vm.Alike.refl U.vm) qK, qD⟩, va_recv hKc hPc (ci := 11) (q0 := 0) rfl rfl, fun U hU hW => ⟨rfl, by rw [hU], Nat.le_trans hn0 hS.1, GW.go hW hU hG (fun q hq hA9 => hS.2.1 q hq (fun h => hA9 (hA0 q h))), by rw [hU]; exact hPc, va_K.moved hW.alike hKc, hDc.weaken (fun _ _ _ h => hA0 _ h)⟩⟩ rfl rfl hl.1 rfl (lv_room (Nat.le_of_ble_eq_true rfl)) dX11_book_17 ⟨Nat.le_of_ble_eq_true rfl, Nat.le_of_ble_eq_true rfl⟩) hS (fun q _ h => hFc q h) hFc (fun r_3 u t H1 locs ht hvm hw_4 hB hz1 hk1 hS => ?_)
    obtain ⟨hP1, hK1, hD1⟩ := hB
    rw [ht] at hP1
    obtain ⟨hP, hD⟩ := s3_j (L := [(rd, .inr (7, [.ref rd_tape, .int (nI fd), .int fa1, .int fp1, .ref dr, .ref rd_names, .ref rd_nameKind, .ref rd_nameNumber, .int nm1, .ref rd_knotNames, .int en1, .int at0, .int tk1, .int ts1, .long tv1])), (x0, .inr (11, [.ref rd, .ref dr, .ref bk, .ref st, .ref j2, .ref tr, .ref pl, .ref fl, .ref rq, .int 2, .int xf1, .int xp1]))]) 1 hP hD [0] [1] hk1 hFc hP1 hD1 rfl rfl rfl (by decide) (by decide)
    generalize H1 = H at hP hS ⊢
    obtain rfl : r_3 = (-1) := hw_4
    have hK9 := hK.sub (tys' := []) [] rfl
    exact W.iret (v := (-1)) hx hb hr (fun t ht hW => ⟨⟨(-1), (), rfl, rfl, by rw [ht]; exact hP.sub [1, 0] rfl, va_K.moved hW.alike hK9, hD.sub [1, 0] (by decide) rfl⟩, hS.F ht⟩) hS.2.2 dX11_book_20
  · skip
    have g_5 : (0 : Int) ≤ n.toInt := i_nlt c_1
    refine lv_iload_n hx hb dX11_book_4 rfl (lv_at hl 1 rfl) ?_
    refine lv_aload_n hx hb dX11_book_5 rfl (lv_at hl 0 rfl) ?_
    refine va_get (D := (dC, dI)) (ci := 11) (v := .ref rd) (C := RX11) (T := TX11) (N := 12) hx hb hts (fun w h => wM_c (iX11 w h)) hown hK hP 0 rfl rfl 0 (by decide) (hts _ (wM_c wd_670)) (fun _ h9 => h9) rfl dX11_book_6 ?_
    refine va_get (D := (dC, dI)) (ci := 7) (v := .int (nI fd)) (C := RX7) (T := TX7) (N := 15) hx hb hts (fun w h => wM_c (iX7 w h)) hown hK hP 1 rfl rfl 1 (by decide) (hts _ (wM_c wd_334)) (fun _ h9 => h9) rfl dX11_book_9 ?_
    refine lv_icmp_le (tgt := 21) hx hb dX11_book_12 (by decide) (fun c_6 => ?_) (fun c_6 => ?_)
    · exact absurd (i_le c_6) (by rw [nI_toInt (by omega)]; omega)
    refine lv_aload_n hx hb dX11_book_15 rfl (lv_at hl 0 rfl) ?_
    refine lv_iconst (v := 2) hx hb dX11_book_16 (by decide) ?_
    obtain ⟨hPc, hDc, hFc⟩ := s3_c (ws' := [(x0, .inr (11, [.ref rd, .ref dr, .ref bk, .ref st, .ref j2, .ref tr, .ref pl, .ref fl, .ref rq, .int xt, .int xf1, .int xp1]))]) [0] hP hD hS hA rfl (by decide)
    have hKc := hK.sub (tys' := []) [] rfl
    refine va_calli (va_runV (As := [.int 2]) (rest := []) ⟨hx, hb, hml, hown, hts⟩ (x_refuse l dC dI n0 atx s.heap.size x0 rd dr bk st j2 tr pl fl rq xt xf1 xp1 2 ) (cwV 1 hts (gV (fun w h => wM_c h) wd_722 wd_719 wd_721 wd_0 wd_114) rfl rfl rfl (by decide +kernel) ⟨Nat.le_of_ble_eq_true rfl, Nat.le_of_ble_eq_true rfl⟩) ⟨fun a U g mk q => by obtain ⟨q0, q1, q2, qG, qP, qK, qD⟩ := q; exact ⟨q0, q1, q2, GW.blind qG, qP, va_K.moved (u := U) (U := U.calling g mk a) (Vm.Alike.refl U.vm) qK, qD⟩, va_recv hKc hPc (ci := 11) (q0 := 0) rfl rfl, fun U hU hW => ⟨rfl, by rw [hU], Nat.le_trans hn0 hS.1, GW.go hW hU hG (fun q hq hA9 => hS.2.1 q hq (fun h => hA9 (hA0 q h))), by rw [hU]; exact hPc, va_K.moved hW.alike hKc, hDc.weaken (fun _ _ _ h => hA0 _ h)⟩⟩ rfl rfl hl.1 rfl (lv_room (Nat.le_of_ble_eq_true rfl)) dX11_book_17 ⟨Nat.le_of_ble_eq_true rfl, Nat.le_of_ble_eq_true rfl⟩) hS (fun q _ h => hFc q h) hFc (fun r_7 u t H1 locs ht hvm hw_8 hB hz1 hk1 hS => ?_)
    obtain ⟨hP1, hK1, hD1⟩ := hB
    rw [ht] at hP1
    obtain ⟨hP, hD⟩ := s3_j (L := [(rd, .inr (7, [.ref rd_tape, .int (nI fd), .int fa1, .int fp1, .ref dr, .ref rd_names, .ref rd_nameKind, .ref rd_nameNumber, .int nm1, .ref rd_knotNames, .int en1, .int at0, .int tk1, .int ts1, .long tv1])), (x0, .inr (11, [.ref rd, .ref dr, .ref bk, .ref st, .ref j2, .ref tr, .ref pl, .ref fl, .ref rq, .int 2, .int xf1, .int xp1]))]) 1 hP hD [0] [1] hk1 hFc hP1 hD1 rfl rfl rfl (by decide) (by decide)
    generalize H1 = H at hP hS ⊢
    obtain rfl : r_7 = (-1) := hw_8
    have hK9 := hK.sub (tys' := []) [] rfl
    exact W.iret (v := (-1)) hx hb hr (fun t ht hW => ⟨⟨(-1), (), rfl, rfl, by rw [ht]; exact hP.sub [1, 0] rfl, va_K.moved hW.alike hK9, hD.sub [1, 0] (by decide) rfl⟩, hS.F ht⟩) hS.2.2 dX11_book_20
