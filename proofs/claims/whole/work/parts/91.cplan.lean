theorem wd_391 : Cond.fieldLink "MineAir$Plan" 82 "MineAir$State" "open" "[Z" ∈ wG := wG_of 391 (by decide +kernel) (by decide +kernel)
theorem wd_395 : Cond.fieldLink "MineAir$Plan" 88 "MineAir$State" "speed" "[I" ∈ wG := wG_of 395 (by decide +kernel) (by decide +kernel)
theorem wd_401 : Cond.fieldLink "MineAir$Plan" 91 "MineAir$State" "fallen" "[Z" ∈ wG := wG_of 401 (by decide +kernel) (by decide +kernel)
theorem wd_572 : Cond.fieldLink "MineAir$Plan" 42 "MineAir$Plan" "count" "I" ∈ wG := wG_of 572 (by decide +kernel) (by decide +kernel)
theorem wd_576 : Cond.fieldLink "MineAir$Plan" 27 "MineAir$Plan" "state" "LMineAir$State;" ∈ wG := wG_of 576 (by decide +kernel) (by decide +kernel)
theorem wd_579 : Cond.fieldLink "MineAir$Plan" 15 "MineAir$Plan" "kind" "[I" ∈ wG := wG_of 579 (by decide +kernel) (by decide +kernel)
theorem wd_580 : Cond.fieldLink "MineAir$Plan" 18 "MineAir$Plan" "which" "[I" ∈ wG := wG_of 580 (by decide +kernel) (by decide +kernel)
theorem wd_583 : Cond.fieldLink "MineAir$Plan" 38 "MineAir$Plan" "found" "I" ∈ wG := wG_of 583 (by decide +kernel) (by decide +kernel)
theorem dX6_alike_0 : decode cX6_alike 0 = .ok (.iconst 0, 1) := by decide +kernel
theorem dX6_alike_1 : decode cX6_alike 1 = .ok (.istore_n 2, 1) := by decide +kernel
theorem dX6_alike_2 : decode cX6_alike 2 = .ok (.iconst 0, 1) := by decide +kernel
theorem dX6_alike_3 : decode cX6_alike 3 = .ok (.istore_n 3, 1) := by decide +kernel
theorem dX6_alike_4 : decode cX6_alike 4 = .ok (.iload_n 3, 1) := by decide +kernel
theorem dX6_alike_5 : decode cX6_alike 5 = .ok (.aload_n 0, 1) := by decide +kernel
theorem dX6_alike_6 : decode cX6_alike 6 = .ok (.getfield 42, 3) := by decide +kernel
theorem dX6_alike_9 : decode cX6_alike 9 = .ok (.if_icmp .ge 45, 3) := by decide +kernel
theorem dX6_alike_12 : decode cX6_alike 12 = .ok (.aload_n 0, 1) := by decide +kernel
theorem dX6_alike_13 : decode cX6_alike 13 = .ok (.getfield 15, 3) := by decide +kernel
theorem dX6_alike_16 : decode cX6_alike 16 = .ok (.iload_n 3, 1) := by decide +kernel
theorem dX6_alike_17 : decode cX6_alike 17 = .ok (.iaload, 1) := by decide +kernel
theorem dX6_alike_18 : decode cX6_alike 18 = .ok (.aload_n 0, 1) := by decide +kernel
theorem dX6_alike_19 : decode cX6_alike 19 = .ok (.getfield 15, 3) := by decide +kernel
theorem dX6_alike_22 : decode cX6_alike 22 = .ok (.iload_n 1, 1) := by decide +kernel
theorem dX6_alike_23 : decode cX6_alike 23 = .ok (.iaload, 1) := by decide +kernel
theorem dX6_alike_24 : decode cX6_alike 24 = .ok (.if_icmp .ne 24, 3) := by decide +kernel
theorem dX6_alike_27 : decode cX6_alike 27 = .ok (.aload_n 0, 1) := by decide +kernel
theorem dX6_alike_28 : decode cX6_alike 28 = .ok (.getfield 18, 3) := by decide +kernel
theorem dX6_alike_31 : decode cX6_alike 31 = .ok (.iload_n 3, 1) := by decide +kernel
theorem dX6_alike_32 : decode cX6_alike 32 = .ok (.iaload, 1) := by decide +kernel
theorem dX6_alike_33 : decode cX6_alike 33 = .ok (.aload_n 0, 1) := by decide +kernel
theorem dX6_alike_34 : decode cX6_alike 34 = .ok (.getfield 18, 3) := by decide +kernel
theorem dX6_alike_37 : decode cX6_alike 37 = .ok (.iload_n 1, 1) := by decide +kernel
theorem dX6_alike_38 : decode cX6_alike 38 = .ok (.iaload, 1) := by decide +kernel
theorem dX6_alike_39 : decode cX6_alike 39 = .ok (.if_icmp .ne 9, 3) := by decide +kernel
theorem dX6_alike_42 : decode cX6_alike 42 = .ok (.iload_n 2, 1) := by decide +kernel
theorem dX6_alike_43 : decode cX6_alike 43 = .ok (.iconst 1, 1) := by decide +kernel
theorem dX6_alike_44 : decode cX6_alike 44 = .ok (.iload_n 3, 1) := by decide +kernel
theorem dX6_alike_45 : decode cX6_alike 45 = .ok (.ishl, 1) := by decide +kernel
theorem dX6_alike_46 : decode cX6_alike 46 = .ok (.ior, 1) := by decide +kernel
theorem dX6_alike_47 : decode cX6_alike 47 = .ok (.istore_n 2, 1) := by decide +kernel
theorem dX6_alike_48 : decode cX6_alike 48 = .ok (.iinc 3 1, 3) := by decide +kernel
theorem dX6_alike_51 : decode cX6_alike 51 = .ok (.goto (-47), 3) := by decide +kernel
theorem dX6_alike_54 : decode cX6_alike 54 = .ok (.iload_n 2, 1) := by decide +kernel
theorem dX6_alike_55 : decode cX6_alike 55 = .ok (.ireturn, 1) := by decide +kernel
theorem dX6_current_0 : decode cX6_current 0 = .ok (.aload_n 0, 1) := by decide +kernel
theorem dX6_current_1 : decode cX6_current 1 = .ok (.getfield 18, 3) := by decide +kernel
theorem dX6_current_4 : decode cX6_current 4 = .ok (.iload_n 1, 1) := by decide +kernel
theorem dX6_current_5 : decode cX6_current 5 = .ok (.iaload, 1) := by decide +kernel
theorem dX6_current_6 : decode cX6_current 6 = .ok (.istore_n 2, 1) := by decide +kernel
theorem dX6_current_7 : decode cX6_current 7 = .ok (.aload_n 0, 1) := by decide +kernel
theorem dX6_current_8 : decode cX6_current 8 = .ok (.getfield 15, 3) := by decide +kernel
theorem dX6_current_11 : decode cX6_current 11 = .ok (.iload_n 1, 1) := by decide +kernel
theorem dX6_current_12 : decode cX6_current 12 = .ok (.iaload, 1) := by decide +kernel
theorem dX6_current_13 : decode cX6_current 13 = .ok (.lookupswitch 55 #[(0, 27), (1, 45)], 27) := by decide +kernel
theorem dX6_current_40 : decode cX6_current 40 = .ok (.aload_n 0, 1) := by decide +kernel
theorem dX6_current_41 : decode cX6_current 41 = .ok (.getfield 27, 3) := by decide +kernel
theorem dX6_current_44 : decode cX6_current 44 = .ok (.getfield 82, 3) := by decide +kernel
theorem dX6_current_47 : decode cX6_current 47 = .ok (.iload_n 2, 1) := by decide +kernel
theorem dX6_current_48 : decode cX6_current 48 = .ok (.baload, 1) := by decide +kernel
theorem dX6_current_49 : decode cX6_current 49 = .ok (.ifCond .eq 7, 3) := by decide +kernel
theorem dX6_current_52 : decode cX6_current 52 = .ok (.iconst 1, 1) := by decide +kernel
theorem dX6_current_53 : decode cX6_current 53 = .ok (.goto 4, 3) := by decide +kernel
theorem dX6_current_56 : decode cX6_current 56 = .ok (.iconst 0, 1) := by decide +kernel
theorem dX6_current_57 : decode cX6_current 57 = .ok (.ireturn, 1) := by decide +kernel
theorem dX6_current_58 : decode cX6_current 58 = .ok (.aload_n 0, 1) := by decide +kernel
theorem dX6_current_59 : decode cX6_current 59 = .ok (.getfield 27, 3) := by decide +kernel
theorem dX6_current_62 : decode cX6_current 62 = .ok (.getfield 88, 3) := by decide +kernel
theorem dX6_current_65 : decode cX6_current 65 = .ok (.iload_n 2, 1) := by decide +kernel
theorem dX6_current_66 : decode cX6_current 66 = .ok (.iaload, 1) := by decide +kernel
theorem dX6_current_67 : decode cX6_current 67 = .ok (.ireturn, 1) := by decide +kernel
theorem dX6_current_68 : decode cX6_current 68 = .ok (.aload_n 0, 1) := by decide +kernel
theorem dX6_current_69 : decode cX6_current 69 = .ok (.getfield 27, 3) := by decide +kernel
theorem dX6_current_72 : decode cX6_current 72 = .ok (.getfield 91, 3) := by decide +kernel
theorem dX6_current_75 : decode cX6_current 75 = .ok (.iload_n 2, 1) := by decide +kernel
theorem dX6_current_76 : decode cX6_current 76 = .ok (.baload, 1) := by decide +kernel
theorem dX6_current_77 : decode cX6_current 77 = .ok (.ifCond .eq 7, 3) := by decide +kernel
theorem dX6_current_80 : decode cX6_current 80 = .ok (.iconst 1, 1) := by decide +kernel
theorem dX6_current_81 : decode cX6_current 81 = .ok (.goto 4, 3) := by decide +kernel
theorem dX6_current_84 : decode cX6_current 84 = .ok (.iconst 0, 1) := by decide +kernel
theorem dX6_current_85 : decode cX6_current 85 = .ok (.ireturn, 1) := by decide +kernel
theorem dX6_forget_0 : decode cX6_forget 0 = .ok (.aload_n 0, 1) := by decide +kernel
theorem dX6_forget_1 : decode cX6_forget 1 = .ok (.iconst 0, 1) := by decide +kernel
theorem dX6_forget_2 : decode cX6_forget 2 = .ok (.putfield 38, 3) := by decide +kernel
theorem dX6_forget_5 : decode cX6_forget 5 = .ok (.return_, 1) := by decide +kernel
theorem dX6_put_0 : decode cX6_put 0 = .ok (.aload_n 0, 1) := by decide +kernel
theorem dX6_put_1 : decode cX6_put 1 = .ok (.getfield 18, 3) := by decide +kernel
theorem dX6_put_4 : decode cX6_put 4 = .ok (.iload_n 1, 1) := by decide +kernel
theorem dX6_put_5 : decode cX6_put 5 = .ok (.iaload, 1) := by decide +kernel
theorem dX6_put_6 : decode cX6_put 6 = .ok (.istore_n 3, 1) := by decide +kernel
theorem dX6_put_7 : decode cX6_put 7 = .ok (.aload_n 0, 1) := by decide +kernel
theorem dX6_put_8 : decode cX6_put 8 = .ok (.getfield 15, 3) := by decide +kernel
theorem dX6_put_11 : decode cX6_put 11 = .ok (.iload_n 1, 1) := by decide +kernel
theorem dX6_put_12 : decode cX6_put 12 = .ok (.iaload, 1) := by decide +kernel
theorem dX6_put_13 : decode cX6_put 13 = .ok (.lookupswitch 62 #[(0, 27), (1, 49)], 27) := by decide +kernel
theorem dX6_put_40 : decode cX6_put 40 = .ok (.aload_n 0, 1) := by decide +kernel
theorem dX6_put_41 : decode cX6_put 41 = .ok (.getfield 27, 3) := by decide +kernel
theorem dX6_put_44 : decode cX6_put 44 = .ok (.getfield 82, 3) := by decide +kernel
theorem dX6_put_47 : decode cX6_put 47 = .ok (.iload_n 3, 1) := by decide +kernel
theorem dX6_put_48 : decode cX6_put 48 = .ok (.iload_n 2, 1) := by decide +kernel
theorem dX6_put_49 : decode cX6_put 49 = .ok (.iconst 1, 1) := by decide +kernel
theorem dX6_put_50 : decode cX6_put 50 = .ok (.if_icmp .ne 7, 3) := by decide +kernel
theorem dX6_put_53 : decode cX6_put 53 = .ok (.iconst 1, 1) := by decide +kernel
theorem dX6_put_54 : decode cX6_put 54 = .ok (.goto 4, 3) := by decide +kernel
theorem dX6_put_57 : decode cX6_put 57 = .ok (.iconst 0, 1) := by decide +kernel
theorem dX6_put_58 : decode cX6_put 58 = .ok (.bastore, 1) := by decide +kernel
theorem dX6_put_59 : decode cX6_put 59 = .ok (.goto 35, 3) := by decide +kernel
theorem dX6_put_62 : decode cX6_put 62 = .ok (.aload_n 0, 1) := by decide +kernel
theorem dX6_put_63 : decode cX6_put 63 = .ok (.getfield 27, 3) := by decide +kernel
theorem dX6_put_66 : decode cX6_put 66 = .ok (.getfield 88, 3) := by decide +kernel
theorem dX6_put_69 : decode cX6_put 69 = .ok (.iload_n 3, 1) := by decide +kernel
theorem dX6_put_70 : decode cX6_put 70 = .ok (.iload_n 2, 1) := by decide +kernel
theorem dX6_put_71 : decode cX6_put 71 = .ok (.iastore, 1) := by decide +kernel
theorem dX6_put_72 : decode cX6_put 72 = .ok (.goto 22, 3) := by decide +kernel
theorem dX6_put_75 : decode cX6_put 75 = .ok (.aload_n 0, 1) := by decide +kernel
theorem dX6_put_76 : decode cX6_put 76 = .ok (.getfield 27, 3) := by decide +kernel
theorem dX6_put_79 : decode cX6_put 79 = .ok (.getfield 91, 3) := by decide +kernel
theorem dX6_put_82 : decode cX6_put 82 = .ok (.iload_n 3, 1) := by decide +kernel
theorem dX6_put_83 : decode cX6_put 83 = .ok (.iload_n 2, 1) := by decide +kernel
theorem dX6_put_84 : decode cX6_put 84 = .ok (.iconst 1, 1) := by decide +kernel
theorem dX6_put_85 : decode cX6_put 85 = .ok (.if_icmp .ne 7, 3) := by decide +kernel
theorem dX6_put_88 : decode cX6_put 88 = .ok (.iconst 1, 1) := by decide +kernel
theorem dX6_put_89 : decode cX6_put 89 = .ok (.goto 4, 3) := by decide +kernel
theorem dX6_put_92 : decode cX6_put 92 = .ok (.iconst 0, 1) := by decide +kernel
theorem dX6_put_93 : decode cX6_put 93 = .ok (.bastore, 1) := by decide +kernel
theorem dX6_put_94 : decode cX6_put 94 = .ok (.return_, 1) := by decide +kernel
set_option maxHeartbeats 4000000 in
set_option maxRecDepth 100000 in
theorem c6_put (l : Launch) (dC : Nat → ClassId) (dI : Nat → Nat → Nat) (n0 : Nat) (atx : Nat → Nat × Nat) (sz : Nat) (pl : Nat) (pn : Nat) (pl_order : Nat) (st : Nat) (j2 : Nat) (jd : Nat) (pl_kind : Nat) (pl_which : Nat) (pl_value : Nat) (pl_soundBy : Nat) (pl_found : Int32) (pl_made : Int32) (st_open : Nat) (st_speed : Nat) (st_fallen : Nat) (st_fire : Nat) (st_mark : Int32) (st_moreIn : Int32) (st_more : Int32) (bk : Nat) (k_st_open : ClassId) (f_st_open : Nat → Int32) (k_st_speed : ClassId) (f_st_speed : Nat → Int32) (k_st_fallen : ClassId) (f_st_fallen : Nat → Int32) (k_pl_kind : ClassId) (f_pl_kind : Nat → Int32) (k_pl_which : ClassId) (f_pl_which : Nat → Int32) (cj : Nat) (v : Int32) (hpn : pn ≤ 5) (h_pc : pcI f_pl_kind f_pl_which) (hcj : cj < 5) : Met l yX6_put (wM yX6_put cX6_put 4 none) ({ frames := 0, cells := 0, slots := 0, locals := 0 }) (va_Pc [.ref pl, .int (nI cj), .int v] (fun U => U.heap.size = sz ∧ n0 ≤ sz ∧ GW n0 atx U ∧ va_P (dC, dI) classes [(pl, .inr (6, [.int (nI pn), .ref pl_order, .ref st, .ref j2, .ref jd, .ref pl_kind, .ref pl_which, .ref pl_value, .ref pl_soundBy, .int pl_found, .int pl_made])), (st, .inr (9, [.ref st_open, .ref st_speed, .ref st_fallen, .ref st_fire, .int st_mark, .int st_moreIn, .int st_more, .ref bk])), (st_open, .inl (k_st_open, 6, .inl f_st_open)), (st_speed, .inl (k_st_speed, 4, .inl f_st_speed)), (st_fallen, .inl (k_st_fallen, 14, .inl f_st_fallen)), (pl_kind, .inl (k_pl_kind, 5, .inl f_pl_kind)), (pl_which, .inl (k_pl_which, 5, .inl f_pl_which))] U.heap ∧ va_K (dC, dI) classes [(k_st_open, .boolean), (k_st_speed, .int), (k_st_fallen, .boolean), (k_pl_kind, .int), (k_pl_which, .int)] U ∧ va_D (fun q => n0 ≤ q) [(pl, .inr (6, [.int (nI pn), .ref pl_order, .ref st, .ref j2, .ref jd, .ref pl_kind, .ref pl_which, .ref pl_value, .ref pl_soundBy, .int pl_found, .int pl_made])), (st, .inr (9, [.ref st_open, .ref st_speed, .ref st_fallen, .ref st_fire, .int st_mark, .int st_moreIn, .int st_more, .ref bk])), (st_open, .inl (k_st_open, 6, .inl f_st_open)), (st_speed, .inl (k_st_speed, 4, .inl f_st_speed)), (st_fallen, .inl (k_st_fallen, 14, .inl f_st_fallen)), (pl_kind, .inl (k_pl_kind, 5, .inl f_pl_kind)), (pl_which, .inl (k_pl_which, 5, .inl f_pl_which))])) (va_Qv (fun _ : Unit => True) (fun (_ : Unit) (t : State) => ∃ (op9 : Nat → Int32), ∃ (sp9 : Nat → Int32), ∃ (fa9 : Nat → Int32), va_P (dC, dI) classes [(pl, .inr (6, [.int (nI pn), .ref pl_order, .ref st, .ref j2, .ref jd, .ref pl_kind, .ref pl_which, .ref pl_value, .ref pl_soundBy, .int pl_found, .int pl_made])), (st, .inr (9, [.ref st_open, .ref st_speed, .ref st_fallen, .ref st_fire, .int st_mark, .int st_moreIn, .int st_more, .ref bk])), (st_open, .inl (k_st_open, 6, .inl op9)), (st_speed, .inl (k_st_speed, 4, .inl sp9)), (st_fallen, .inl (k_st_fallen, 14, .inl fa9)), (pl_kind, .inl (k_pl_kind, 5, .inl f_pl_kind)), (pl_which, .inl (k_pl_which, 5, .inl f_pl_which))] t.heap ∧ va_K (dC, dI) classes [(k_st_open, .boolean), (k_st_speed, .int), (k_st_fallen, .boolean), (k_pl_kind, .int), (k_pl_which, .int)] t ∧ va_D (va_A [(pl, .inr (6, [.int (nI pn), .ref pl_order, .ref st, .ref j2, .ref jd, .ref pl_kind, .ref pl_which, .ref pl_value, .ref pl_soundBy, .int pl_found, .int pl_made])), (st, .inr (9, [.ref st_open, .ref st_speed, .ref st_fallen, .ref st_fire, .int st_mark, .int st_moreIn, .int st_more, .ref bk])), (st_open, .inl (k_st_open, 6, .inl f_st_open)), (st_speed, .inl (k_st_speed, 4, .inl f_st_speed)), (st_fallen, .inl (k_st_fallen, 14, .inl f_st_fallen)), (pl_kind, .inl (k_pl_kind, 5, .inl f_pl_kind)), (pl_which, .inl (k_pl_which, 5, .inl f_pl_which))] sz) [(pl, .inr (6, [.int (nI pn), .ref pl_order, .ref st, .ref j2, .ref jd, .ref pl_kind, .ref pl_which, .ref pl_value, .ref pl_soundBy, .int pl_found, .int pl_made])), (st, .inr (9, [.ref st_open, .ref st_speed, .ref st_fallen, .ref st_fire, .int st_mark, .int st_moreIn, .int st_more, .ref bk])), (st_open, .inl (k_st_open, 6, .inl op9)), (st_speed, .inl (k_st_speed, 4, .inl sp9)), (st_fallen, .inl (k_st_fallen, 14, .inl fa9)), (pl_kind, .inl (k_pl_kind, 5, .inl f_pl_kind)), (pl_which, .inl (k_pl_which, 5, .inl f_pl_which))]) (va_A [(pl, .inr (6, [.int (nI pn), .ref pl_order, .ref st, .ref j2, .ref jd, .ref pl_kind, .ref pl_which, .ref pl_value, .ref pl_soundBy, .int pl_found, .int pl_made])), (st, .inr (9, [.ref st_open, .ref st_speed, .ref st_fallen, .ref st_fire, .int st_mark, .int st_moreIn, .int st_more, .ref bk])), (st_open, .inl (k_st_open, 6, .inl f_st_open)), (st_speed, .inl (k_st_speed, 4, .inl f_st_speed)), (st_fallen, .inl (k_st_fallen, 14, .inl f_st_fallen)), (pl_kind, .inl (k_pl_kind, 5, .inl f_pl_kind)), (pl_which, .inl (k_pl_which, 5, .inl f_pl_which))] sz)) 0 0 (va_A [(pl, .inr (6, [.int (nI pn), .ref pl_order, .ref st, .ref j2, .ref jd, .ref pl_kind, .ref pl_which, .ref pl_value, .ref pl_soundBy, .int pl_found, .int pl_made])), (st, .inr (9, [.ref st_open, .ref st_speed, .ref st_fallen, .ref st_fire, .int st_mark, .int st_moreIn, .int st_more, .ref bk])), (st_open, .inl (k_st_open, 6, .inl f_st_open)), (st_speed, .inl (k_st_speed, 4, .inl f_st_speed)), (st_fallen, .inl (k_st_fallen, 14, .inl f_st_fallen)), (pl_kind, .inl (k_pl_kind, 5, .inl f_pl_kind)), (pl_which, .inl (k_pl_which, 5, .inl f_pl_which))] sz) := by
  refine Met.ofW (cc := cX6_put) (maxL := 4) (ret := none) (by decide) rfl ?_
  intro p e s m args below meth c s₁ B hml hv
  obtain ⟨rfl, hsz, hn0, hG, hP, hK, hD0⟩ := hv
  have hx := B.exec
  have hb := B.bytes
  have hr := B.returns
  have hts := atoms_spec (ws := wM yX6_put cX6_put 4 none) B.pre
  have hown : s.vm.findClass RX6 = some m.cls := findClass_of_methodNamed B.named
  have hlocks := B.notSynchronized
  subst hsz
  have hD := hD0.self (sz := s.heap.size)
  have hA0 := vA_n0 hD0 hn0
  generalize hAe : va_A [(pl, .inr (6, [.int (nI pn), .ref pl_order, .ref st, .ref j2, .ref jd, .ref pl_kind, .ref pl_which, .ref pl_value, .ref pl_soundBy, .int pl_found, .int pl_made])), (st, .inr (9, [.ref st_open, .ref st_speed, .ref st_fallen, .ref st_fire, .int st_mark, .int st_moreIn, .int st_more, .ref bk])), (st_open, .inl (k_st_open, 6, .inl f_st_open)), (st_speed, .inl (k_st_speed, 4, .inl f_st_speed)), (st_fallen, .inl (k_st_fallen, 14, .inl f_st_fallen)), (pl_kind, .inl (k_pl_kind, 5, .inl f_pl_kind)), (pl_which, .inl (k_pl_which, 5, .inl f_pl_which))] s.heap.size = A at hD hA0 ⊢
  have hA : ∀ q : Nat, s.heap.size ≤ q → A q := fun q h => by rw [← hAe]; exact Or.inr h
  have hS : va_S A s.heap s.heap [] := va_S.rf
  have hl := lv_entry ([.ref pl, .int (nI cj), .int v]) (n := 4) (Nat.le_of_ble_eq_true rfl)
  rw [lg_entry_eq]
  generalize (lg_sl ([.ref pl, .int (nI cj), .int v]) ++ List.replicate (4 - (lg_sl ([.ref pl, .int (nI cj), .int v])).length) Slot.unset).toArray = ls at hl ⊢
  have hl : lv_has ls 4 [(0, .ref pl), (1, .int (nI cj)), (2, .int v)] := hl
  refine lv_aload_n hx hb dX6_put_0 rfl (lv_at hl 0 rfl) ?_
  refine va_get (D := (dC, dI)) (ci := 6) (v := .ref pl_which) (C := RX6) (T := TX6) (N := 11) hx hb hts (fun w h => wM_c (iX6 w h)) hown hK hP 0 rfl rfl 6 (by decide) (hts _ (wM_c wd_580)) (fun _ h9 => h9) rfl dX6_put_1 ?_
  refine lv_iload_n hx hb dX6_put_4 rfl (lv_at hl 1 rfl) ?_
  refine va_iald hx hb hK hP 6 4 rfl rfl (vp_in_nI (n := cj) (by omega) (by omega)) dX6_put_5 ?_
  refine lv_topi (fun v_1 ev_1 => ?_)
  have nv_1 : v_1 = f_pl_which cj := by rw [ev_1]; exact congrArg _ (nI_clamp (by omega))
  refine lv_istore_n (lv' := [(3, .int v_1), (0, .ref pl), (1, .int (nI cj)), (2, .int v)]) hx hb dX6_put_6 rfl hl (by decide) rfl (fun ls hl => ?_)
  refine lv_aload_n hx hb dX6_put_7 rfl (lv_at hl 1 rfl) ?_
  refine va_get (D := (dC, dI)) (ci := 6) (v := .ref pl_kind) (C := RX6) (T := TX6) (N := 11) hx hb hts (fun w h => wM_c (iX6 w h)) hown hK hP 0 rfl rfl 5 (by decide) (hts _ (wM_c wd_579)) (fun _ h9 => h9) rfl dX6_put_8 ?_
  refine lv_iload_n hx hb dX6_put_11 rfl (lv_at hl 2 rfl) ?_
  refine va_iald hx hb hK hP 5 3 rfl rfl (vp_in_nI (n := cj) (by omega) (by omega)) dX6_put_12 ?_
  refine lv_topi (fun v_2 ev_2 => ?_)
  have nv_2 : v_2 = f_pl_kind cj := by rw [ev_2]; exact congrArg _ (nI_clamp (by omega))
  rcases lk_0_1 v_2 with sw_3 | sw_3 | sw_3
  · refine lv_lookup (off := 27) (tgt := 40) hx hb dX6_put_13 (by decide) (by rw [sw_3]; decide) (by decide) ?_
    refine lv_aload_n hx hb dX6_put_40 rfl (lv_at hl 1 rfl) ?_
    refine va_get (D := (dC, dI)) (ci := 6) (v := .ref st) (C := RX6) (T := TX6) (N := 11) hx hb hts (fun w h => wM_c (iX6 w h)) hown hK hP 0 rfl rfl 2 (by decide) (hts _ (wM_c wd_576)) (fun _ h9 => h9) rfl dX6_put_41 ?_
    refine va_get (D := (dC, dI)) (ci := 9) (v := .ref st_open) (C := RX9) (T := TX9) (N := 8) hx hb hts (fun w h => wM_c (iX9 w h)) hown hK hP 1 rfl rfl 0 (by decide) (hts _ (wM_c wd_391)) (fun _ h9 => h9) rfl dX6_put_44 ?_
    refine lv_iload_n hx hb dX6_put_47 rfl (lv_at hl 0 rfl) ?_
    refine lv_iload_n hx hb dX6_put_48 rfl (lv_at hl 3 rfl) ?_
    refine lv_iconst (v := 1) hx hb dX6_put_49 (by decide) ?_
    refine lv_icmp_ne (tgt := 57) hx hb dX6_put_50 (by decide) (fun c_4 => ?_) (fun c_4 => ?_)
    · skip
      have g_5 : v.toInt ≠ (1 : Int) := i_ne c_4
      refine lv_iconst (v := 0) hx hb dX6_put_57 (by decide) ?_
      refine va_zast hx hb hK hP hD hS 2 0 rfl rfl (vp_in_iff.mpr (by have h7 := (h_pc cj hcj).2.2; have h8 := (h_pc cj hcj).1 (nv_2.symm.trans sw_3); rw [← nv_1] at h7 h8; omega)) dX6_put_58 (fun H locs hP hD hS => ?_)
      obtain ⟨f_6, ef_6⟩ : ∃ f9, f9 = (upd f_st_open v_1.toNatClampNeg (vp_nar .boolean 0)) := ⟨_, rfl⟩
      obtain ⟨hP, hD⟩ : s3_w (dC, dI) classes A [(pl, .inr (6, [.int (nI pn), .ref pl_order, .ref st, .ref j2, .ref jd, .ref pl_kind, .ref pl_which, .ref pl_value, .ref pl_soundBy, .int pl_found, .int pl_made])), (st, .inr (9, [.ref st_open, .ref st_speed, .ref st_fallen, .ref st_fire, .int st_mark, .int st_moreIn, .int st_more, .ref bk])), (st_open, .inl (k_st_open, 6, .inl f_6)), (st_speed, .inl (k_st_speed, 4, .inl f_st_speed)), (st_fallen, .inl (k_st_fallen, 14, .inl f_st_fallen)), (pl_kind, .inl (k_pl_kind, 5, .inl f_pl_kind)), (pl_which, .inl (k_pl_which, 5, .inl f_pl_which))] H := ⟨(by rw [ef_6]; exact hP), (by rw [ef_6]; exact hD)⟩
      refine lv_goto (tgt := 94) hx hb dX6_put_59 (by decide) ?_
      have hK9 := hK.sub (tys' := [(k_st_open, .boolean), (k_st_speed, .int), (k_st_fallen, .boolean), (k_pl_kind, .int), (k_pl_which, .int)]) [0, 1, 2, 3, 4] rfl
      exact W.vret hx hb hr (fun t ht hW => ⟨⟨(), rfl, trivial, f_6, f_st_speed, f_st_fallen, by rw [ht]; exact hP.sub [0, 1, 2, 3, 4, 5, 6] rfl, va_K.moved hW.alike hK9, hD.sub [0, 1, 2, 3, 4, 5, 6] (by decide) rfl⟩, hS.F ht⟩) hS.2.2 dX6_put_94
    · skip
      have g_7 : v.toInt = (1 : Int) := i_eq c_4
      refine lv_iconst (v := 1) hx hb dX6_put_53 (by decide) ?_
      refine lv_goto (tgt := 58) hx hb dX6_put_54 (by decide) ?_
      refine va_zast hx hb hK hP hD hS 2 0 rfl rfl (vp_in_iff.mpr (by have h7 := (h_pc cj hcj).2.2; have h8 := (h_pc cj hcj).1 (nv_2.symm.trans sw_3); rw [← nv_1] at h7 h8; omega)) dX6_put_58 (fun H locs hP hD hS => ?_)
      obtain ⟨f_8, ef_8⟩ : ∃ f9, f9 = (upd f_st_open v_1.toNatClampNeg (vp_nar .boolean 1)) := ⟨_, rfl⟩
      obtain ⟨hP, hD⟩ : s3_w (dC, dI) classes A [(pl, .inr (6, [.int (nI pn), .ref pl_order, .ref st, .ref j2, .ref jd, .ref pl_kind, .ref pl_which, .ref pl_value, .ref pl_soundBy, .int pl_found, .int pl_made])), (st, .inr (9, [.ref st_open, .ref st_speed, .ref st_fallen, .ref st_fire, .int st_mark, .int st_moreIn, .int st_more, .ref bk])), (st_open, .inl (k_st_open, 6, .inl f_8)), (st_speed, .inl (k_st_speed, 4, .inl f_st_speed)), (st_fallen, .inl (k_st_fallen, 14, .inl f_st_fallen)), (pl_kind, .inl (k_pl_kind, 5, .inl f_pl_kind)), (pl_which, .inl (k_pl_which, 5, .inl f_pl_which))] H := ⟨(by rw [ef_8]; exact hP), (by rw [ef_8]; exact hD)⟩
      refine lv_goto (tgt := 94) hx hb dX6_put_59 (by decide) ?_
      have hK9 := hK.sub (tys' := [(k_st_open, .boolean), (k_st_speed, .int), (k_st_fallen, .boolean), (k_pl_kind, .int), (k_pl_which, .int)]) [0, 1, 2, 3, 4] rfl
      exact W.vret hx hb hr (fun t ht hW => ⟨⟨(), rfl, trivial, f_8, f_st_speed, f_st_fallen, by rw [ht]; exact hP.sub [0, 1, 2, 3, 4, 5, 6] rfl, va_K.moved hW.alike hK9, hD.sub [0, 1, 2, 3, 4, 5, 6] (by decide) rfl⟩, hS.F ht⟩) hS.2.2 dX6_put_94
  · refine lv_lookup (off := 49) (tgt := 62) hx hb dX6_put_13 (by decide) (by rw [sw_3]; decide) (by decide) ?_
    refine lv_aload_n hx hb dX6_put_62 rfl (lv_at hl 1 rfl) ?_
    refine va_get (D := (dC, dI)) (ci := 6) (v := .ref st) (C := RX6) (T := TX6) (N := 11) hx hb hts (fun w h => wM_c (iX6 w h)) hown hK hP 0 rfl rfl 2 (by decide) (hts _ (wM_c wd_576)) (fun _ h9 => h9) rfl dX6_put_63 ?_
    refine va_get (D := (dC, dI)) (ci := 9) (v := .ref st_speed) (C := RX9) (T := TX9) (N := 8) hx hb hts (fun w h => wM_c (iX9 w h)) hown hK hP 1 rfl rfl 1 (by decide) (hts _ (wM_c wd_395)) (fun _ h9 => h9) rfl dX6_put_66 ?_
    refine lv_iload_n hx hb dX6_put_69 rfl (lv_at hl 0 rfl) ?_
    refine lv_iload_n hx hb dX6_put_70 rfl (lv_at hl 3 rfl) ?_
    refine va_iast hx hb hK hP hD hS 3 1 rfl rfl (vp_in_iff.mpr (by have h7 := (h_pc cj hcj).2.2; have h8 := (h_pc cj hcj).2.1 (nv_2.symm.trans sw_3); rw [← nv_1] at h7 h8; omega)) dX6_put_71 (fun H locs hP hD hS => ?_)
    obtain ⟨f_9, ef_9⟩ : ∃ f9, f9 = (upd f_st_speed v_1.toNatClampNeg v) := ⟨_, rfl⟩
    obtain ⟨hP, hD⟩ : s3_w (dC, dI) classes A [(pl, .inr (6, [.int (nI pn), .ref pl_order, .ref st, .ref j2, .ref jd, .ref pl_kind, .ref pl_which, .ref pl_value, .ref pl_soundBy, .int pl_found, .int pl_made])), (st, .inr (9, [.ref st_open, .ref st_speed, .ref st_fallen, .ref st_fire, .int st_mark, .int st_moreIn, .int st_more, .ref bk])), (st_open, .inl (k_st_open, 6, .inl f_st_open)), (st_speed, .inl (k_st_speed, 4, .inl f_9)), (st_fallen, .inl (k_st_fallen, 14, .inl f_st_fallen)), (pl_kind, .inl (k_pl_kind, 5, .inl f_pl_kind)), (pl_which, .inl (k_pl_which, 5, .inl f_pl_which))] H := ⟨(by rw [ef_9]; exact hP), (by rw [ef_9]; exact hD)⟩
    refine lv_goto (tgt := 94) hx hb dX6_put_72 (by decide) ?_
    have hK9 := hK.sub (tys' := [(k_st_open, .boolean), (k_st_speed, .int), (k_st_fallen, .boolean), (k_pl_kind, .int), (k_pl_which, .int)]) [0, 1, 2, 3, 4] rfl
    exact W.vret hx hb hr (fun t ht hW => ⟨⟨(), rfl, trivial, f_st_open, f_9, f_st_fallen, by rw [ht]; exact hP.sub [0, 1, 2, 3, 4, 5, 6] rfl, va_K.moved hW.alike hK9, hD.sub [0, 1, 2, 3, 4, 5, 6] (by decide) rfl⟩, hS.F ht⟩) hS.2.2 dX6_put_94
  · refine lv_lookup (off := 62) (tgt := 75) hx hb dX6_put_13 (by decide) (lkd_0_1 sw_3) (by decide) ?_
    refine lv_aload_n hx hb dX6_put_75 rfl (lv_at hl 1 rfl) ?_
    refine va_get (D := (dC, dI)) (ci := 6) (v := .ref st) (C := RX6) (T := TX6) (N := 11) hx hb hts (fun w h => wM_c (iX6 w h)) hown hK hP 0 rfl rfl 2 (by decide) (hts _ (wM_c wd_576)) (fun _ h9 => h9) rfl dX6_put_76 ?_
    refine va_get (D := (dC, dI)) (ci := 9) (v := .ref st_fallen) (C := RX9) (T := TX9) (N := 8) hx hb hts (fun w h => wM_c (iX9 w h)) hown hK hP 1 rfl rfl 2 (by decide) (hts _ (wM_c wd_401)) (fun _ h9 => h9) rfl dX6_put_79 ?_
    refine lv_iload_n hx hb dX6_put_82 rfl (lv_at hl 0 rfl) ?_
    refine lv_iload_n hx hb dX6_put_83 rfl (lv_at hl 3 rfl) ?_
    refine lv_iconst (v := 1) hx hb dX6_put_84 (by decide) ?_
    refine lv_icmp_ne (tgt := 92) hx hb dX6_put_85 (by decide) (fun c_10 => ?_) (fun c_10 => ?_)
    · skip
      have g_11 : v.toInt ≠ (1 : Int) := i_ne c_10
      refine lv_iconst (v := 0) hx hb dX6_put_92 (by decide) ?_
      refine va_zast hx hb hK hP hD hS 4 2 rfl rfl (vp_in_iff.mpr (by have h7 := (h_pc cj hcj).2.2; rw [← nv_1] at h7; omega)) dX6_put_93 (fun H locs hP hD hS => ?_)
      obtain ⟨f_12, ef_12⟩ : ∃ f9, f9 = (upd f_st_fallen v_1.toNatClampNeg (vp_nar .boolean 0)) := ⟨_, rfl⟩
      obtain ⟨hP, hD⟩ : s3_w (dC, dI) classes A [(pl, .inr (6, [.int (nI pn), .ref pl_order, .ref st, .ref j2, .ref jd, .ref pl_kind, .ref pl_which, .ref pl_value, .ref pl_soundBy, .int pl_found, .int pl_made])), (st, .inr (9, [.ref st_open, .ref st_speed, .ref st_fallen, .ref st_fire, .int st_mark, .int st_moreIn, .int st_more, .ref bk])), (st_open, .inl (k_st_open, 6, .inl f_st_open)), (st_speed, .inl (k_st_speed, 4, .inl f_st_speed)), (st_fallen, .inl (k_st_fallen, 14, .inl f_12)), (pl_kind, .inl (k_pl_kind, 5, .inl f_pl_kind)), (pl_which, .inl (k_pl_which, 5, .inl f_pl_which))] H := ⟨(by rw [ef_12]; exact hP), (by rw [ef_12]; exact hD)⟩
      have hK9 := hK.sub (tys' := [(k_st_open, .boolean), (k_st_speed, .int), (k_st_fallen, .boolean), (k_pl_kind, .int), (k_pl_which, .int)]) [0, 1, 2, 3, 4] rfl
      exact W.vret hx hb hr (fun t ht hW => ⟨⟨(), rfl, trivial, f_st_open, f_st_speed, f_12, by rw [ht]; exact hP.sub [0, 1, 2, 3, 4, 5, 6] rfl, va_K.moved hW.alike hK9, hD.sub [0, 1, 2, 3, 4, 5, 6] (by decide) rfl⟩, hS.F ht⟩) hS.2.2 dX6_put_94
    · skip
      have g_13 : v.toInt = (1 : Int) := i_eq c_10
      refine lv_iconst (v := 1) hx hb dX6_put_88 (by decide) ?_
      refine lv_goto (tgt := 93) hx hb dX6_put_89 (by decide) ?_
      refine va_zast hx hb hK hP hD hS 4 2 rfl rfl (vp_in_iff.mpr (by have h7 := (h_pc cj hcj).2.2; rw [← nv_1] at h7; omega)) dX6_put_93 (fun H locs hP hD hS => ?_)
      obtain ⟨f_14, ef_14⟩ : ∃ f9, f9 = (upd f_st_fallen v_1.toNatClampNeg (vp_nar .boolean 1)) := ⟨_, rfl⟩
      obtain ⟨hP, hD⟩ : s3_w (dC, dI) classes A [(pl, .inr (6, [.int (nI pn), .ref pl_order, .ref st, .ref j2, .ref jd, .ref pl_kind, .ref pl_which, .ref pl_value, .ref pl_soundBy, .int pl_found, .int pl_made])), (st, .inr (9, [.ref st_open, .ref st_speed, .ref st_fallen, .ref st_fire, .int st_mark, .int st_moreIn, .int st_more, .ref bk])), (st_open, .inl (k_st_open, 6, .inl f_st_open)), (st_speed, .inl (k_st_speed, 4, .inl f_st_speed)), (st_fallen, .inl (k_st_fallen, 14, .inl f_14)), (pl_kind, .inl (k_pl_kind, 5, .inl f_pl_kind)), (pl_which, .inl (k_pl_which, 5, .inl f_pl_which))] H := ⟨(by rw [ef_14]; exact hP), (by rw [ef_14]; exact hD)⟩
      have hK9 := hK.sub (tys' := [(k_st_open, .boolean), (k_st_speed, .int), (k_st_fallen, .boolean), (k_pl_kind, .int), (k_pl_which, .int)]) [0, 1, 2, 3, 4] rfl
      exact W.vret hx hb hr (fun t ht hW => ⟨⟨(), rfl, trivial, f_st_open, f_st_speed, f_14, by rw [ht]; exact hP.sub [0, 1, 2, 3, 4, 5, 6] rfl, va_K.moved hW.alike hK9, hD.sub [0, 1, 2, 3, 4, 5, 6] (by decide) rfl⟩, hS.F ht⟩) hS.2.2 dX6_put_94
set_option maxHeartbeats 4000000 in
set_option maxRecDepth 100000 in
theorem c6_current (l : Launch) (dC : Nat → ClassId) (dI : Nat → Nat → Nat) (n0 : Nat) (atx : Nat → Nat × Nat) (sz : Nat) (pl : Nat) (pn : Nat) (pl_order : Nat) (st : Nat) (j2 : Nat) (jd : Nat) (pl_kind : Nat) (pl_which : Nat) (pl_value : Nat) (pl_soundBy : Nat) (pl_found : Int32) (pl_made : Int32) (st_open : Nat) (st_speed : Nat) (st_fallen : Nat) (st_fire : Nat) (st_mark : Int32) (st_moreIn : Int32) (st_more : Int32) (bk : Nat) (k_st_open : ClassId) (f_st_open : Nat → Int32) (k_st_speed : ClassId) (f_st_speed : Nat → Int32) (k_st_fallen : ClassId) (f_st_fallen : Nat → Int32) (k_pl_kind : ClassId) (f_pl_kind : Nat → Int32) (k_pl_which : ClassId) (f_pl_which : Nat → Int32) (cj : Nat) (hpn : pn ≤ 5) (h_pc : pcI f_pl_kind f_pl_which) (hcj : cj < 5) : Met l yX6_current (wM yX6_current cX6_current 3 (some .int)) ({ frames := 0, cells := 0, slots := 0, locals := 0 }) (va_Pc [.ref pl, .int (nI cj)] (fun U => U.heap.size = sz ∧ n0 ≤ sz ∧ GW n0 atx U ∧ va_P (dC, dI) classes [(pl, .inr (6, [.int (nI pn), .ref pl_order, .ref st, .ref j2, .ref jd, .ref pl_kind, .ref pl_which, .ref pl_value, .ref pl_soundBy, .int pl_found, .int pl_made])), (st, .inr (9, [.ref st_open, .ref st_speed, .ref st_fallen, .ref st_fire, .int st_mark, .int st_moreIn, .int st_more, .ref bk])), (st_open, .inl (k_st_open, 6, .inl f_st_open)), (st_speed, .inl (k_st_speed, 4, .inl f_st_speed)), (st_fallen, .inl (k_st_fallen, 14, .inl f_st_fallen)), (pl_kind, .inl (k_pl_kind, 5, .inl f_pl_kind)), (pl_which, .inl (k_pl_which, 5, .inl f_pl_which))] U.heap ∧ va_K (dC, dI) classes [(k_st_open, .boolean), (k_st_speed, .int), (k_st_fallen, .boolean), (k_pl_kind, .int), (k_pl_which, .int)] U ∧ va_D (fun q => n0 ≤ q) [(pl, .inr (6, [.int (nI pn), .ref pl_order, .ref st, .ref j2, .ref jd, .ref pl_kind, .ref pl_which, .ref pl_value, .ref pl_soundBy, .int pl_found, .int pl_made])), (st, .inr (9, [.ref st_open, .ref st_speed, .ref st_fallen, .ref st_fire, .int st_mark, .int st_moreIn, .int st_more, .ref bk])), (st_open, .inl (k_st_open, 6, .inl f_st_open)), (st_speed, .inl (k_st_speed, 4, .inl f_st_speed)), (st_fallen, .inl (k_st_fallen, 14, .inl f_st_fallen)), (pl_kind, .inl (k_pl_kind, 5, .inl f_pl_kind)), (pl_which, .inl (k_pl_which, 5, .inl f_pl_which))])) (va_Qi (fun (r : Int32) (_ : Unit) => True) (fun (_ : Unit) (t : State) => va_P (dC, dI) classes [(pl, .inr (6, [.int (nI pn), .ref pl_order, .ref st, .ref j2, .ref jd, .ref pl_kind, .ref pl_which, .ref pl_value, .ref pl_soundBy, .int pl_found, .int pl_made])), (st, .inr (9, [.ref st_open, .ref st_speed, .ref st_fallen, .ref st_fire, .int st_mark, .int st_moreIn, .int st_more, .ref bk])), (st_open, .inl (k_st_open, 6, .inl f_st_open)), (st_speed, .inl (k_st_speed, 4, .inl f_st_speed)), (st_fallen, .inl (k_st_fallen, 14, .inl f_st_fallen)), (pl_kind, .inl (k_pl_kind, 5, .inl f_pl_kind)), (pl_which, .inl (k_pl_which, 5, .inl f_pl_which))] t.heap ∧ va_K (dC, dI) classes [(k_st_open, .boolean), (k_st_speed, .int), (k_st_fallen, .boolean), (k_pl_kind, .int), (k_pl_which, .int)] t ∧ va_D (va_A [(pl, .inr (6, [.int (nI pn), .ref pl_order, .ref st, .ref j2, .ref jd, .ref pl_kind, .ref pl_which, .ref pl_value, .ref pl_soundBy, .int pl_found, .int pl_made])), (st, .inr (9, [.ref st_open, .ref st_speed, .ref st_fallen, .ref st_fire, .int st_mark, .int st_moreIn, .int st_more, .ref bk])), (st_open, .inl (k_st_open, 6, .inl f_st_open)), (st_speed, .inl (k_st_speed, 4, .inl f_st_speed)), (st_fallen, .inl (k_st_fallen, 14, .inl f_st_fallen)), (pl_kind, .inl (k_pl_kind, 5, .inl f_pl_kind)), (pl_which, .inl (k_pl_which, 5, .inl f_pl_which))] sz) [(pl, .inr (6, [.int (nI pn), .ref pl_order, .ref st, .ref j2, .ref jd, .ref pl_kind, .ref pl_which, .ref pl_value, .ref pl_soundBy, .int pl_found, .int pl_made])), (st, .inr (9, [.ref st_open, .ref st_speed, .ref st_fallen, .ref st_fire, .int st_mark, .int st_moreIn, .int st_more, .ref bk])), (st_open, .inl (k_st_open, 6, .inl f_st_open)), (st_speed, .inl (k_st_speed, 4, .inl f_st_speed)), (st_fallen, .inl (k_st_fallen, 14, .inl f_st_fallen)), (pl_kind, .inl (k_pl_kind, 5, .inl f_pl_kind)), (pl_which, .inl (k_pl_which, 5, .inl f_pl_which))]) (va_A [(pl, .inr (6, [.int (nI pn), .ref pl_order, .ref st, .ref j2, .ref jd, .ref pl_kind, .ref pl_which, .ref pl_value, .ref pl_soundBy, .int pl_found, .int pl_made])), (st, .inr (9, [.ref st_open, .ref st_speed, .ref st_fallen, .ref st_fire, .int st_mark, .int st_moreIn, .int st_more, .ref bk])), (st_open, .inl (k_st_open, 6, .inl f_st_open)), (st_speed, .inl (k_st_speed, 4, .inl f_st_speed)), (st_fallen, .inl (k_st_fallen, 14, .inl f_st_fallen)), (pl_kind, .inl (k_pl_kind, 5, .inl f_pl_kind)), (pl_which, .inl (k_pl_which, 5, .inl f_pl_which))] sz)) 0 0 (va_A [(pl, .inr (6, [.int (nI pn), .ref pl_order, .ref st, .ref j2, .ref jd, .ref pl_kind, .ref pl_which, .ref pl_value, .ref pl_soundBy, .int pl_found, .int pl_made])), (st, .inr (9, [.ref st_open, .ref st_speed, .ref st_fallen, .ref st_fire, .int st_mark, .int st_moreIn, .int st_more, .ref bk])), (st_open, .inl (k_st_open, 6, .inl f_st_open)), (st_speed, .inl (k_st_speed, 4, .inl f_st_speed)), (st_fallen, .inl (k_st_fallen, 14, .inl f_st_fallen)), (pl_kind, .inl (k_pl_kind, 5, .inl f_pl_kind)), (pl_which, .inl (k_pl_which, 5, .inl f_pl_which))] sz) := by
  refine Met.ofW (cc := cX6_current) (maxL := 3) (ret := (some .int)) (by decide) rfl ?_
  intro p e s m args below meth c s₁ B hml hv
  obtain ⟨rfl, hsz, hn0, hG, hP, hK, hD0⟩ := hv
  have hx := B.exec
  have hb := B.bytes
  have hr := B.returns
  have hts := atoms_spec (ws := wM yX6_current cX6_current 3 (some .int)) B.pre
  have hown : s.vm.findClass RX6 = some m.cls := findClass_of_methodNamed B.named
  have hlocks := B.notSynchronized
  subst hsz
  have hD := hD0.self (sz := s.heap.size)
  have hA0 := vA_n0 hD0 hn0
  generalize hAe : va_A [(pl, .inr (6, [.int (nI pn), .ref pl_order, .ref st, .ref j2, .ref jd, .ref pl_kind, .ref pl_which, .ref pl_value, .ref pl_soundBy, .int pl_found, .int pl_made])), (st, .inr (9, [.ref st_open, .ref st_speed, .ref st_fallen, .ref st_fire, .int st_mark, .int st_moreIn, .int st_more, .ref bk])), (st_open, .inl (k_st_open, 6, .inl f_st_open)), (st_speed, .inl (k_st_speed, 4, .inl f_st_speed)), (st_fallen, .inl (k_st_fallen, 14, .inl f_st_fallen)), (pl_kind, .inl (k_pl_kind, 5, .inl f_pl_kind)), (pl_which, .inl (k_pl_which, 5, .inl f_pl_which))] s.heap.size = A at hD hA0 ⊢
  have hA : ∀ q : Nat, s.heap.size ≤ q → A q := fun q h => by rw [← hAe]; exact Or.inr h
  have hS : va_S A s.heap s.heap [] := va_S.rf
  have hl := lv_entry ([.ref pl, .int (nI cj)]) (n := 3) (Nat.le_of_ble_eq_true rfl)
  rw [lg_entry_eq]
  generalize (lg_sl ([.ref pl, .int (nI cj)]) ++ List.replicate (3 - (lg_sl ([.ref pl, .int (nI cj)])).length) Slot.unset).toArray = ls at hl ⊢
  have hl : lv_has ls 3 [(0, .ref pl), (1, .int (nI cj))] := hl
  refine lv_aload_n hx hb dX6_current_0 rfl (lv_at hl 0 rfl) ?_
  refine va_get (D := (dC, dI)) (ci := 6) (v := .ref pl_which) (C := RX6) (T := TX6) (N := 11) hx hb hts (fun w h => wM_c (iX6 w h)) hown hK hP 0 rfl rfl 6 (by decide) (hts _ (wM_c wd_580)) (fun _ h9 => h9) rfl dX6_current_1 ?_
  refine lv_iload_n hx hb dX6_current_4 rfl (lv_at hl 1 rfl) ?_
  refine va_iald hx hb hK hP 6 4 rfl rfl (vp_in_nI (n := cj) (by omega) (by omega)) dX6_current_5 ?_
  refine lv_topi (fun v_1 ev_1 => ?_)
  have nv_1 : v_1 = f_pl_which cj := by rw [ev_1]; exact congrArg _ (nI_clamp (by omega))
  refine lv_istore_n (lv' := [(2, .int v_1), (0, .ref pl), (1, .int (nI cj))]) hx hb dX6_current_6 rfl hl (by decide) rfl (fun ls hl => ?_)
  refine lv_aload_n hx hb dX6_current_7 rfl (lv_at hl 1 rfl) ?_
  refine va_get (D := (dC, dI)) (ci := 6) (v := .ref pl_kind) (C := RX6) (T := TX6) (N := 11) hx hb hts (fun w h => wM_c (iX6 w h)) hown hK hP 0 rfl rfl 5 (by decide) (hts _ (wM_c wd_579)) (fun _ h9 => h9) rfl dX6_current_8 ?_
  refine lv_iload_n hx hb dX6_current_11 rfl (lv_at hl 2 rfl) ?_
  refine va_iald hx hb hK hP 5 3 rfl rfl (vp_in_nI (n := cj) (by omega) (by omega)) dX6_current_12 ?_
  refine lv_topi (fun v_2 ev_2 => ?_)
  have nv_2 : v_2 = f_pl_kind cj := by rw [ev_2]; exact congrArg _ (nI_clamp (by omega))
  rcases lk_0_1 v_2 with sw_3 | sw_3 | sw_3
  · refine lv_lookup (off := 27) (tgt := 40) hx hb dX6_current_13 (by decide) (by rw [sw_3]; decide) (by decide) ?_
    refine lv_aload_n hx hb dX6_current_40 rfl (lv_at hl 1 rfl) ?_
    refine va_get (D := (dC, dI)) (ci := 6) (v := .ref st) (C := RX6) (T := TX6) (N := 11) hx hb hts (fun w h => wM_c (iX6 w h)) hown hK hP 0 rfl rfl 2 (by decide) (hts _ (wM_c wd_576)) (fun _ h9 => h9) rfl dX6_current_41 ?_
    refine va_get (D := (dC, dI)) (ci := 9) (v := .ref st_open) (C := RX9) (T := TX9) (N := 8) hx hb hts (fun w h => wM_c (iX9 w h)) hown hK hP 1 rfl rfl 0 (by decide) (hts _ (wM_c wd_391)) (fun _ h9 => h9) rfl dX6_current_44 ?_
    refine lv_iload_n hx hb dX6_current_47 rfl (lv_at hl 0 rfl) ?_
    refine va_zald hx hb hK hP 2 0 rfl rfl (vp_in_iff.mpr (by have h7 := (h_pc cj hcj).2.2; have h8 := (h_pc cj hcj).1 (nv_2.symm.trans sw_3); rw [← nv_1] at h7 h8; omega)) dX6_current_48 ?_
    refine lv_topi (fun v_4 ev_4 => ?_)
    refine lv_if_eq (tgt := 56) hx hb dX6_current_49 (by decide) (fun c_5 => ?_) (fun c_5 => ?_)
    · skip
      have g_6 : v_4.toInt = (0 : Int) := i_eq c_5
      refine lv_iconst (v := 0) hx hb dX6_current_56 (by decide) ?_
      have hK9 := hK.sub (tys' := [(k_st_open, .boolean), (k_st_speed, .int), (k_st_fallen, .boolean), (k_pl_kind, .int), (k_pl_which, .int)]) [0, 1, 2, 3, 4] rfl
      exact W.iret (v := 0) hx hb hr (fun t ht hW => ⟨⟨0, (), rfl, trivial, by rw [ht]; exact hP.sub [0, 1, 2, 3, 4, 5, 6] rfl, va_K.moved hW.alike hK9, hD.sub [0, 1, 2, 3, 4, 5, 6] (by decide) rfl⟩, hS.F ht⟩) hS.2.2 dX6_current_57
    · skip
      have g_7 : v_4.toInt ≠ (0 : Int) := i_ne c_5
      refine lv_iconst (v := 1) hx hb dX6_current_52 (by decide) ?_
      refine lv_goto (tgt := 57) hx hb dX6_current_53 (by decide) ?_
      have hK9 := hK.sub (tys' := [(k_st_open, .boolean), (k_st_speed, .int), (k_st_fallen, .boolean), (k_pl_kind, .int), (k_pl_which, .int)]) [0, 1, 2, 3, 4] rfl
      exact W.iret (v := 1) hx hb hr (fun t ht hW => ⟨⟨1, (), rfl, trivial, by rw [ht]; exact hP.sub [0, 1, 2, 3, 4, 5, 6] rfl, va_K.moved hW.alike hK9, hD.sub [0, 1, 2, 3, 4, 5, 6] (by decide) rfl⟩, hS.F ht⟩) hS.2.2 dX6_current_57
  · refine lv_lookup (off := 45) (tgt := 58) hx hb dX6_current_13 (by decide) (by rw [sw_3]; decide) (by decide) ?_
    refine lv_aload_n hx hb dX6_current_58 rfl (lv_at hl 1 rfl) ?_
    refine va_get (D := (dC, dI)) (ci := 6) (v := .ref st) (C := RX6) (T := TX6) (N := 11) hx hb hts (fun w h => wM_c (iX6 w h)) hown hK hP 0 rfl rfl 2 (by decide) (hts _ (wM_c wd_576)) (fun _ h9 => h9) rfl dX6_current_59 ?_
    refine va_get (D := (dC, dI)) (ci := 9) (v := .ref st_speed) (C := RX9) (T := TX9) (N := 8) hx hb hts (fun w h => wM_c (iX9 w h)) hown hK hP 1 rfl rfl 1 (by decide) (hts _ (wM_c wd_395)) (fun _ h9 => h9) rfl dX6_current_62 ?_
    refine lv_iload_n hx hb dX6_current_65 rfl (lv_at hl 0 rfl) ?_
    refine va_iald hx hb hK hP 3 1 rfl rfl (vp_in_iff.mpr (by have h7 := (h_pc cj hcj).2.2; have h8 := (h_pc cj hcj).2.1 (nv_2.symm.trans sw_3); rw [← nv_1] at h7 h8; omega)) dX6_current_66 ?_
    refine lv_topi (fun v_8 ev_8 => ?_)
    have hK9 := hK.sub (tys' := [(k_st_open, .boolean), (k_st_speed, .int), (k_st_fallen, .boolean), (k_pl_kind, .int), (k_pl_which, .int)]) [0, 1, 2, 3, 4] rfl
    exact W.iret (v := v_8) hx hb hr (fun t ht hW => ⟨⟨v_8, (), rfl, trivial, by rw [ht]; exact hP.sub [0, 1, 2, 3, 4, 5, 6] rfl, va_K.moved hW.alike hK9, hD.sub [0, 1, 2, 3, 4, 5, 6] (by decide) rfl⟩, hS.F ht⟩) hS.2.2 dX6_current_67
  · refine lv_lookup (off := 55) (tgt := 68) hx hb dX6_current_13 (by decide) (lkd_0_1 sw_3) (by decide) ?_
    refine lv_aload_n hx hb dX6_current_68 rfl (lv_at hl 1 rfl) ?_
    refine va_get (D := (dC, dI)) (ci := 6) (v := .ref st) (C := RX6) (T := TX6) (N := 11) hx hb hts (fun w h => wM_c (iX6 w h)) hown hK hP 0 rfl rfl 2 (by decide) (hts _ (wM_c wd_576)) (fun _ h9 => h9) rfl dX6_current_69 ?_
    refine va_get (D := (dC, dI)) (ci := 9) (v := .ref st_fallen) (C := RX9) (T := TX9) (N := 8) hx hb hts (fun w h => wM_c (iX9 w h)) hown hK hP 1 rfl rfl 2 (by decide) (hts _ (wM_c wd_401)) (fun _ h9 => h9) rfl dX6_current_72 ?_
    refine lv_iload_n hx hb dX6_current_75 rfl (lv_at hl 0 rfl) ?_
    refine va_zald hx hb hK hP 4 2 rfl rfl (vp_in_iff.mpr (by have h7 := (h_pc cj hcj).2.2; rw [← nv_1] at h7; omega)) dX6_current_76 ?_
    refine lv_topi (fun v_9 ev_9 => ?_)
    refine lv_if_eq (tgt := 84) hx hb dX6_current_77 (by decide) (fun c_10 => ?_) (fun c_10 => ?_)
    · skip
      have g_11 : v_9.toInt = (0 : Int) := i_eq c_10
      refine lv_iconst (v := 0) hx hb dX6_current_84 (by decide) ?_
      have hK9 := hK.sub (tys' := [(k_st_open, .boolean), (k_st_speed, .int), (k_st_fallen, .boolean), (k_pl_kind, .int), (k_pl_which, .int)]) [0, 1, 2, 3, 4] rfl
      exact W.iret (v := 0) hx hb hr (fun t ht hW => ⟨⟨0, (), rfl, trivial, by rw [ht]; exact hP.sub [0, 1, 2, 3, 4, 5, 6] rfl, va_K.moved hW.alike hK9, hD.sub [0, 1, 2, 3, 4, 5, 6] (by decide) rfl⟩, hS.F ht⟩) hS.2.2 dX6_current_85
    · skip
      have g_12 : v_9.toInt ≠ (0 : Int) := i_ne c_10
      refine lv_iconst (v := 1) hx hb dX6_current_80 (by decide) ?_
      refine lv_goto (tgt := 85) hx hb dX6_current_81 (by decide) ?_
      have hK9 := hK.sub (tys' := [(k_st_open, .boolean), (k_st_speed, .int), (k_st_fallen, .boolean), (k_pl_kind, .int), (k_pl_which, .int)]) [0, 1, 2, 3, 4] rfl
      exact W.iret (v := 1) hx hb hr (fun t ht hW => ⟨⟨1, (), rfl, trivial, by rw [ht]; exact hP.sub [0, 1, 2, 3, 4, 5, 6] rfl, va_K.moved hW.alike hK9, hD.sub [0, 1, 2, 3, 4, 5, 6] (by decide) rfl⟩, hS.F ht⟩) hS.2.2 dX6_current_85
set_option maxHeartbeats 4000000 in
set_option maxRecDepth 100000 in
theorem c6_alike (l : Launch) (dC : Nat → ClassId) (dI : Nat → Nat → Nat) (n0 : Nat) (atx : Nat → Nat × Nat) (sz : Nat) (pl : Nat) (pn : Nat) (pl_order : Nat) (st : Nat) (j2 : Nat) (jd : Nat) (pl_kind : Nat) (pl_which : Nat) (pl_value : Nat) (pl_soundBy : Nat) (pl_found : Int32) (pl_made : Int32) (k_pl_kind : ClassId) (f_pl_kind : Nat → Int32) (k_pl_which : ClassId) (f_pl_which : Nat → Int32) (cj : Nat) (hpn : pn ≤ 5) (h_pc : pcI f_pl_kind f_pl_which) (hcj : cj < 5) : Met l yX6_alike (wM yX6_alike cX6_alike 4 (some .int)) ({ frames := 0, cells := 0, slots := 0, locals := 0 }) (va_Pc [.ref pl, .int (nI cj)] (fun U => U.heap.size = sz ∧ n0 ≤ sz ∧ GW n0 atx U ∧ va_P (dC, dI) classes [(pl, .inr (6, [.int (nI pn), .ref pl_order, .ref st, .ref j2, .ref jd, .ref pl_kind, .ref pl_which, .ref pl_value, .ref pl_soundBy, .int pl_found, .int pl_made])), (pl_kind, .inl (k_pl_kind, 5, .inl f_pl_kind)), (pl_which, .inl (k_pl_which, 5, .inl f_pl_which))] U.heap ∧ va_K (dC, dI) classes [(k_pl_kind, .int), (k_pl_which, .int)] U ∧ va_D (fun q => n0 ≤ q) [(pl, .inr (6, [.int (nI pn), .ref pl_order, .ref st, .ref j2, .ref jd, .ref pl_kind, .ref pl_which, .ref pl_value, .ref pl_soundBy, .int pl_found, .int pl_made])), (pl_kind, .inl (k_pl_kind, 5, .inl f_pl_kind)), (pl_which, .inl (k_pl_which, 5, .inl f_pl_which))])) (va_Qi (fun (r : Int32) (_ : Unit) => True) (fun (_ : Unit) (t : State) => va_P (dC, dI) classes [(pl, .inr (6, [.int (nI pn), .ref pl_order, .ref st, .ref j2, .ref jd, .ref pl_kind, .ref pl_which, .ref pl_value, .ref pl_soundBy, .int pl_found, .int pl_made])), (pl_kind, .inl (k_pl_kind, 5, .inl f_pl_kind)), (pl_which, .inl (k_pl_which, 5, .inl f_pl_which))] t.heap ∧ va_K (dC, dI) classes [(k_pl_kind, .int), (k_pl_which, .int)] t ∧ va_D (va_A [(pl, .inr (6, [.int (nI pn), .ref pl_order, .ref st, .ref j2, .ref jd, .ref pl_kind, .ref pl_which, .ref pl_value, .ref pl_soundBy, .int pl_found, .int pl_made])), (pl_kind, .inl (k_pl_kind, 5, .inl f_pl_kind)), (pl_which, .inl (k_pl_which, 5, .inl f_pl_which))] sz) [(pl, .inr (6, [.int (nI pn), .ref pl_order, .ref st, .ref j2, .ref jd, .ref pl_kind, .ref pl_which, .ref pl_value, .ref pl_soundBy, .int pl_found, .int pl_made])), (pl_kind, .inl (k_pl_kind, 5, .inl f_pl_kind)), (pl_which, .inl (k_pl_which, 5, .inl f_pl_which))]) (va_A [(pl, .inr (6, [.int (nI pn), .ref pl_order, .ref st, .ref j2, .ref jd, .ref pl_kind, .ref pl_which, .ref pl_value, .ref pl_soundBy, .int pl_found, .int pl_made])), (pl_kind, .inl (k_pl_kind, 5, .inl f_pl_kind)), (pl_which, .inl (k_pl_which, 5, .inl f_pl_which))] sz)) 0 0 (va_A [(pl, .inr (6, [.int (nI pn), .ref pl_order, .ref st, .ref j2, .ref jd, .ref pl_kind, .ref pl_which, .ref pl_value, .ref pl_soundBy, .int pl_found, .int pl_made])), (pl_kind, .inl (k_pl_kind, 5, .inl f_pl_kind)), (pl_which, .inl (k_pl_which, 5, .inl f_pl_which))] sz) := by
  refine Met.ofW (cc := cX6_alike) (maxL := 4) (ret := (some .int)) (by decide) rfl ?_
  intro p e s m args below meth c s₁ B hml hv
  obtain ⟨rfl, hsz, hn0, hG, hP, hK, hD0⟩ := hv
  have hx := B.exec
  have hb := B.bytes
  have hr := B.returns
  have hts := atoms_spec (ws := wM yX6_alike cX6_alike 4 (some .int)) B.pre
  have hown : s.vm.findClass RX6 = some m.cls := findClass_of_methodNamed B.named
  have hlocks := B.notSynchronized
  subst hsz
  have hD := hD0.self (sz := s.heap.size)
  have hA0 := vA_n0 hD0 hn0
  generalize hAe : va_A [(pl, .inr (6, [.int (nI pn), .ref pl_order, .ref st, .ref j2, .ref jd, .ref pl_kind, .ref pl_which, .ref pl_value, .ref pl_soundBy, .int pl_found, .int pl_made])), (pl_kind, .inl (k_pl_kind, 5, .inl f_pl_kind)), (pl_which, .inl (k_pl_which, 5, .inl f_pl_which))] s.heap.size = A at hD hA0 ⊢
  have hA : ∀ q : Nat, s.heap.size ≤ q → A q := fun q h => by rw [← hAe]; exact Or.inr h
  have hS : va_S A s.heap s.heap [] := va_S.rf
  have hl := lv_entry ([.ref pl, .int (nI cj)]) (n := 4) (Nat.le_of_ble_eq_true rfl)
  rw [lg_entry_eq]
  generalize (lg_sl ([.ref pl, .int (nI cj)]) ++ List.replicate (4 - (lg_sl ([.ref pl, .int (nI cj)])).length) Slot.unset).toArray = ls at hl ⊢
  have hl : lv_has ls 4 [(0, .ref pl), (1, .int (nI cj))] := hl
  refine lv_iconst (v := 0) hx hb dX6_alike_0 (by decide) ?_
  refine lv_istore_n (lv' := [(2, .int 0), (0, .ref pl), (1, .int (nI cj))]) hx hb dX6_alike_1 rfl hl (by decide) rfl (fun ls hl => ?_)
  refine lv_iconst (v := 0) hx hb dX6_alike_2 (by decide) ?_
  refine lv_istore_n (lv' := [(3, .int 0), (2, .int 0), (0, .ref pl), (1, .int (nI cj))]) hx hb dX6_alike_3 rfl hl (by decide) rfl (fun ls hl => ?_)
  refine W_lp2 (I := fun (bi1 : Int32) (i : Nat) H locs ls => (i ≤ pn) ∧ va_P (dC, dI) classes [(pl, .inr (6, [.int (nI pn), .ref pl_order, .ref st, .ref j2, .ref jd, .ref pl_kind, .ref pl_which, .ref pl_value, .ref pl_soundBy, .int pl_found, .int pl_made])), (pl_kind, .inl (k_pl_kind, 5, .inl f_pl_kind)), (pl_which, .inl (k_pl_which, 5, .inl f_pl_which))] H ∧ va_D A [(pl, .inr (6, [.int (nI pn), .ref pl_order, .ref st, .ref j2, .ref jd, .ref pl_kind, .ref pl_which, .ref pl_value, .ref pl_soundBy, .int pl_found, .int pl_made])), (pl_kind, .inl (k_pl_kind, 5, .inl f_pl_kind)), (pl_which, .inl (k_pl_which, 5, .inl f_pl_which))] ∧ va_S A s.heap H locs ∧ lv_has ls 4 [(0, .ref pl), (1, .int (nI cj)), (2, .int bi1), (3, .int (nI i))]) (μ := fun (bi1 : Int32) (i : Nat) => pn - i) ?_ 0 0 _ _ _ ⟨(by first | with_reducible assumption | omega | exact vp_in_iff.mpr (by omega) | exact vp_in_nI (by omega) (by omega) | exact ⟨by omega, by omega⟩), hP, hD, hS, lv_sub hl [2, 3, 1, 0] rfl⟩
  intro bi1 i H locs ls hI ih_1
  obtain ⟨hi, hP, hD, hS, hl⟩ := hI
  refine lv_iload_n hx hb dX6_alike_4 rfl (lv_at hl 3 rfl) ?_
  refine lv_aload_n hx hb dX6_alike_5 rfl (lv_at hl 0 rfl) ?_
  refine va_get (D := (dC, dI)) (ci := 6) (v := .int (nI pn)) (C := RX6) (T := TX6) (N := 11) hx hb hts (fun w h => wM_c (iX6 w h)) hown hK hP 0 rfl rfl 0 (by decide) (hts _ (wM_c wd_572)) (fun _ h9 => h9) rfl dX6_alike_6 ?_
  refine lv_icmp_ge (tgt := 54) hx hb dX6_alike_9 (by decide) (fun c_2 => ?_) (fun c_2 => ?_)
  · skip
    have g_3 := n_ge (a := i) (b := pn) c_2 (by omega) (by omega)
    refine lv_iload_n hx hb dX6_alike_54 rfl (lv_at hl 2 rfl) ?_
    have hK9 := hK.sub (tys' := [(k_pl_kind, .int), (k_pl_which, .int)]) [0, 1] rfl
    exact W.iret (v := bi1) hx hb hr (fun t ht hW => ⟨⟨bi1, (), rfl, trivial, by rw [ht]; exact hP.sub [0, 1, 2] rfl, va_K.moved hW.alike hK9, hD.sub [0, 1, 2] (by decide) rfl⟩, hS.F ht⟩) hS.2.2 dX6_alike_55
  · skip
    have g_4 := n_nge (a := i) (b := pn) c_2 (by omega) (by omega)
    refine lv_aload_n hx hb dX6_alike_12 rfl (lv_at hl 0 rfl) ?_
    refine va_get (D := (dC, dI)) (ci := 6) (v := .ref pl_kind) (C := RX6) (T := TX6) (N := 11) hx hb hts (fun w h => wM_c (iX6 w h)) hown hK hP 0 rfl rfl 5 (by decide) (hts _ (wM_c wd_579)) (fun _ h9 => h9) rfl dX6_alike_13 ?_
    refine lv_iload_n hx hb dX6_alike_16 rfl (lv_at hl 3 rfl) ?_
    refine va_iald hx hb hK hP 1 0 rfl rfl (vp_in_nI (n := i) (by omega) (by omega)) dX6_alike_17 ?_
    refine lv_topi (fun v_5 ev_5 => ?_)
    have nv_5 : v_5 = f_pl_kind i := by rw [ev_5]; exact congrArg _ (nI_clamp (by omega))
    refine lv_aload_n hx hb dX6_alike_18 rfl (lv_at hl 0 rfl) ?_
    refine va_get (D := (dC, dI)) (ci := 6) (v := .ref pl_kind) (C := RX6) (T := TX6) (N := 11) hx hb hts (fun w h => wM_c (iX6 w h)) hown hK hP 0 rfl rfl 5 (by decide) (hts _ (wM_c wd_579)) (fun _ h9 => h9) rfl dX6_alike_19 ?_
    refine lv_iload_n hx hb dX6_alike_22 rfl (lv_at hl 1 rfl) ?_
    refine va_iald hx hb hK hP 1 0 rfl rfl (vp_in_nI (n := cj) (by omega) (by omega)) dX6_alike_23 ?_
    refine lv_topi (fun v_6 ev_6 => ?_)
    have nv_6 : v_6 = f_pl_kind cj := by rw [ev_6]; exact congrArg _ (nI_clamp (by omega))
    refine lv_icmp_ne (tgt := 48) hx hb dX6_alike_24 (by decide) (fun c_7 => ?_) (fun c_7 => ?_)
    · skip
      have g_8 : v_5.toInt ≠ v_6.toInt := i_ne c_7
      refine lv_iinc (v := (nI (i + 1))) (lv' := [(3, .int (nI (i + 1))), (0, .ref pl), (1, .int (nI cj)), (2, .int bi1)]) hx hb dX6_alike_48 hl (k := 3) rfl (nI_add _ 1) (by decide) rfl (fun ls hl => ?_)
      refine lv_goto (tgt := 4) hx hb dX6_alike_51 (by decide) ?_
      exact ih_1 bi1 (i + 1) _ _ _ ⟨(by first | with_reducible assumption | omega | exact vp_in_iff.mpr (by omega) | exact vp_in_nI (by omega) (by omega) | exact ⟨by omega, by omega⟩), hP.sub [0, 1, 2] rfl, hD.sub [0, 1, 2] (by decide) rfl, hS, lv_sub hl [1, 2, 3, 0] rfl⟩ (by omega)
    · skip
      have g_9 : v_5.toInt = v_6.toInt := i_eq c_7
      refine lv_aload_n hx hb dX6_alike_27 rfl (lv_at hl 0 rfl) ?_
      refine va_get (D := (dC, dI)) (ci := 6) (v := .ref pl_which) (C := RX6) (T := TX6) (N := 11) hx hb hts (fun w h => wM_c (iX6 w h)) hown hK hP 0 rfl rfl 6 (by decide) (hts _ (wM_c wd_580)) (fun _ h9 => h9) rfl dX6_alike_28 ?_
      refine lv_iload_n hx hb dX6_alike_31 rfl (lv_at hl 3 rfl) ?_
      refine va_iald hx hb hK hP 2 1 rfl rfl (vp_in_nI (n := i) (by omega) (by omega)) dX6_alike_32 ?_
      refine lv_topi (fun v_10 ev_10 => ?_)
      have nv_10 : v_10 = f_pl_which i := by rw [ev_10]; exact congrArg _ (nI_clamp (by omega))
      refine lv_aload_n hx hb dX6_alike_33 rfl (lv_at hl 0 rfl) ?_
      refine va_get (D := (dC, dI)) (ci := 6) (v := .ref pl_which) (C := RX6) (T := TX6) (N := 11) hx hb hts (fun w h => wM_c (iX6 w h)) hown hK hP 0 rfl rfl 6 (by decide) (hts _ (wM_c wd_580)) (fun _ h9 => h9) rfl dX6_alike_34 ?_
      refine lv_iload_n hx hb dX6_alike_37 rfl (lv_at hl 1 rfl) ?_
      refine va_iald hx hb hK hP 2 1 rfl rfl (vp_in_nI (n := cj) (by omega) (by omega)) dX6_alike_38 ?_
      refine lv_topi (fun v_11 ev_11 => ?_)
      have nv_11 : v_11 = f_pl_which cj := by rw [ev_11]; exact congrArg _ (nI_clamp (by omega))
      refine lv_icmp_ne (tgt := 48) hx hb dX6_alike_39 (by decide) (fun c_12 => ?_) (fun c_12 => ?_)
      · skip
        have g_13 : v_10.toInt ≠ v_11.toInt := i_ne c_12
        refine lv_iinc (v := (nI (i + 1))) (lv' := [(3, .int (nI (i + 1))), (0, .ref pl), (1, .int (nI cj)), (2, .int bi1)]) hx hb dX6_alike_48 hl (k := 3) rfl (nI_add _ 1) (by decide) rfl (fun ls hl => ?_)
        refine lv_goto (tgt := 4) hx hb dX6_alike_51 (by decide) ?_
        exact ih_1 bi1 (i + 1) _ _ _ ⟨(by first | with_reducible assumption | omega | exact vp_in_iff.mpr (by omega) | exact vp_in_nI (by omega) (by omega) | exact ⟨by omega, by omega⟩), hP.sub [0, 1, 2] rfl, hD.sub [0, 1, 2] (by decide) rfl, hS, lv_sub hl [1, 2, 3, 0] rfl⟩ (by omega)
      · skip
        have g_14 : v_10.toInt = v_11.toInt := i_eq c_12
        refine lv_iload_n hx hb dX6_alike_42 rfl (lv_at hl 2 rfl) ?_
        refine lv_iconst (v := 1) hx hb dX6_alike_43 (by decide) ?_
        refine lv_iload_n hx hb dX6_alike_44 rfl (lv_at hl 3 rfl) ?_
        refine lv_ishl hx hb dX6_alike_45 ?_
        refine lv_topi (fun v_15 ev_15 => ?_)
        refine lv_ior hx hb dX6_alike_46 ?_
        refine lv_topi (fun v_16 ev_16 => ?_)
        refine lv_istore_n (lv' := [(2, .int v_16), (0, .ref pl), (1, .int (nI cj)), (3, .int (nI i))]) hx hb dX6_alike_47 rfl hl (by decide) rfl (fun ls hl => ?_)
        refine lv_iinc (v := (nI (i + 1))) (lv' := [(3, .int (nI (i + 1))), (2, .int v_16), (0, .ref pl), (1, .int (nI cj))]) hx hb dX6_alike_48 hl (k := 3) rfl (nI_add _ 1) (by decide) rfl (fun ls hl => ?_)
        refine lv_goto (tgt := 4) hx hb dX6_alike_51 (by decide) ?_
        exact ih_1 v_16 (i + 1) _ _ _ ⟨(by first | with_reducible assumption | omega | exact vp_in_iff.mpr (by omega) | exact vp_in_nI (by omega) (by omega) | exact ⟨by omega, by omega⟩), hP.sub [0, 1, 2] rfl, hD.sub [0, 1, 2] (by decide) rfl, hS, lv_sub hl [2, 3, 1, 0] rfl⟩ (by omega)
set_option maxHeartbeats 4000000 in
set_option maxRecDepth 100000 in
theorem c6_forget (l : Launch) (dC : Nat → ClassId) (dI : Nat → Nat → Nat) (n0 : Nat) (atx : Nat → Nat × Nat) (sz : Nat) (pl : Nat) (pn : Nat) (pl_order : Nat) (st : Nat) (j2 : Nat) (jd : Nat) (pl_kind : Nat) (pl_which : Nat) (pl_value : Nat) (pl_soundBy : Nat) (pl_found : Int32) (pl_made : Int32) : Met l yX6_forget (wM yX6_forget cX6_forget 1 none) ({ frames := 0, cells := 0, slots := 0, locals := 0 }) (va_Pc [.ref pl] (fun U => U.heap.size = sz ∧ n0 ≤ sz ∧ GW n0 atx U ∧ va_P (dC, dI) classes [(pl, .inr (6, [.int (nI pn), .ref pl_order, .ref st, .ref j2, .ref jd, .ref pl_kind, .ref pl_which, .ref pl_value, .ref pl_soundBy, .int pl_found, .int pl_made]))] U.heap ∧ va_K (dC, dI) classes [] U ∧ va_D (fun q => n0 ≤ q) [(pl, .inr (6, [.int (nI pn), .ref pl_order, .ref st, .ref j2, .ref jd, .ref pl_kind, .ref pl_which, .ref pl_value, .ref pl_soundBy, .int pl_found, .int pl_made]))])) (va_Qv (fun _ : Unit => True) (fun (_ : Unit) (t : State) => va_P (dC, dI) classes [(pl, .inr (6, [.int (nI pn), .ref pl_order, .ref st, .ref j2, .ref jd, .ref pl_kind, .ref pl_which, .ref pl_value, .ref pl_soundBy, .int 0, .int pl_made]))] t.heap ∧ va_K (dC, dI) classes [] t ∧ va_D (va_A [(pl, .inr (6, [.int (nI pn), .ref pl_order, .ref st, .ref j2, .ref jd, .ref pl_kind, .ref pl_which, .ref pl_value, .ref pl_soundBy, .int pl_found, .int pl_made]))] sz) [(pl, .inr (6, [.int (nI pn), .ref pl_order, .ref st, .ref j2, .ref jd, .ref pl_kind, .ref pl_which, .ref pl_value, .ref pl_soundBy, .int 0, .int pl_made]))]) (va_A [(pl, .inr (6, [.int (nI pn), .ref pl_order, .ref st, .ref j2, .ref jd, .ref pl_kind, .ref pl_which, .ref pl_value, .ref pl_soundBy, .int pl_found, .int pl_made]))] sz)) 0 0 (va_A [(pl, .inr (6, [.int (nI pn), .ref pl_order, .ref st, .ref j2, .ref jd, .ref pl_kind, .ref pl_which, .ref pl_value, .ref pl_soundBy, .int pl_found, .int pl_made]))] sz) := by
  refine Met.ofW (cc := cX6_forget) (maxL := 1) (ret := none) (by decide) rfl ?_
  intro p e s m args below meth c s₁ B hml hv
  obtain ⟨rfl, hsz, hn0, hG, hP, hK, hD0⟩ := hv
  have hx := B.exec
  have hb := B.bytes
  have hr := B.returns
  have hts := atoms_spec (ws := wM yX6_forget cX6_forget 1 none) B.pre
  have hown : s.vm.findClass RX6 = some m.cls := findClass_of_methodNamed B.named
  have hlocks := B.notSynchronized
  subst hsz
  have hD := hD0.self (sz := s.heap.size)
  have hA0 := vA_n0 hD0 hn0
  generalize hAe : va_A [(pl, .inr (6, [.int (nI pn), .ref pl_order, .ref st, .ref j2, .ref jd, .ref pl_kind, .ref pl_which, .ref pl_value, .ref pl_soundBy, .int pl_found, .int pl_made]))] s.heap.size = A at hD hA0 ⊢
  have hA : ∀ q : Nat, s.heap.size ≤ q → A q := fun q h => by rw [← hAe]; exact Or.inr h
  have hS : va_S A s.heap s.heap [] := va_S.rf
  have hl := lv_entry ([.ref pl]) (n := 1) (Nat.le_of_ble_eq_true rfl)
  rw [lg_entry_eq]
  generalize (lg_sl ([.ref pl]) ++ List.replicate (1 - (lg_sl ([.ref pl])).length) Slot.unset).toArray = ls at hl ⊢
  have hl : lv_has ls 1 [(0, .ref pl)] := hl
  refine lv_aload_n hx hb dX6_forget_0 rfl (lv_at hl 0 rfl) ?_
  refine lv_iconst (v := 0) hx hb dX6_forget_1 (by decide) ?_
  refine va_put (D := (dC, dI)) (ci := 6) (v := .int 0) (ty := .int) (C := RX6) (T := TX6) (N := 11) hx hb hts (fun w h => wM_c (iX6 w h)) tyX6 tyX6_ok nmX6 hown hK hP hD hS 0 rfl rfl 9 (by decide) (hts _ (wM_c wd_583)) (fun _ h9 => h9) rfl (by decide +kernel) rfl rfl (Nat.le_of_ble_eq_true rfl) dX6_forget_2 (fun H locs hP hD hS => ?_)
  obtain ⟨hP, hD⟩ : s3_w (dC, dI) classes A [(pl, .inr (6, [.int (nI pn), .ref pl_order, .ref st, .ref j2, .ref jd, .ref pl_kind, .ref pl_which, .ref pl_value, .ref pl_soundBy, .int 0, .int pl_made]))] H := ⟨hP, hD⟩
  have hK9 := hK.sub (tys' := []) [] rfl
  exact W.vret hx hb hr (fun t ht hW => ⟨⟨(), rfl, trivial, by rw [ht]; exact hP.sub [0] rfl, va_K.moved hW.alike hK9, hD.sub [0] (by decide) rfl⟩, hS.F ht⟩) hS.2.2 dX6_forget_5
