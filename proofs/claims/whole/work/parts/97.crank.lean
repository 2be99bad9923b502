theorem wd_46 : Cond.selects "MineAir$Trials" (⟨"MineAir$Trials", "sortBy", "(II)V"⟩ : MethodName) (⟨"MineAir$Trials", "sortBy", "(II)V"⟩ : MethodName) ∈ wG := wG_of 46 (by decide +kernel) (by decide +kernel)
theorem wd_122 : Cond.initialized "MineAir$Trials" ∈ wG := wG_of 122 (by decide +kernel) (by decide +kernel)
theorem wd_191 : Cond.fieldLink "MineAir$Trials" 115 "MineAir$Gear" "fanCost" "[I" ∈ wG := wG_of 191 (by decide +kernel) (by decide +kernel)
theorem wd_547 : Cond.fieldLink "MineAir$Trials" 11 "MineAir$Trials" "ranks" "[I" ∈ wG := wG_of 547 (by decide +kernel) (by decide +kernel)
theorem wd_1201 : Cond.fieldLink "MineAir$Trials" 118 "MineAir$Trials" "GAPS" "[I" ∈ wG := wG_of 1201 (by decide +kernel) (by decide +kernel)
theorem wd_1203 : Cond.methodLink "MineAir$Trials" 121 (⟨"MineAir$Trials", "sortBy", "(II)V"⟩ : MethodName) ∈ wG := wG_of 1203 (by decide +kernel) (by decide +kernel)
theorem wd_1205 : Cond.instanceMethod (⟨"MineAir$Trials", "sortBy", "(II)V"⟩ : MethodName) ∈ wG := wG_of 1205 (by decide +kernel) (by decide +kernel)
theorem wd_1206 : Cond.code (⟨"MineAir$Trials", "sortBy", "(II)V"⟩ : MethodName) prog_12_method_9_code 7 (Option.none : Option Jvm.ClassFile.FieldType) ∈ wG := wG_of 1206 (by decide +kernel) (by decide +kernel)
theorem dX10_rankSettings_0 : decode cX10_rankSettings 0 = .ok (.iconst 1, 1) := by decide +kernel
theorem dX10_rankSettings_1 : decode cX10_rankSettings 1 = .ok (.istore_n 1, 1) := by decide +kernel
theorem dX10_rankSettings_2 : decode cX10_rankSettings 2 = .ok (.iconst 0, 1) := by decide +kernel
theorem dX10_rankSettings_3 : decode cX10_rankSettings 3 = .ok (.istore_n 2, 1) := by decide +kernel
theorem dX10_rankSettings_4 : decode cX10_rankSettings 4 = .ok (.iload_n 2, 1) := by decide +kernel
theorem dX10_rankSettings_5 : decode cX10_rankSettings 5 = .ok (.aload_n 0, 1) := by decide +kernel
theorem dX10_rankSettings_6 : decode cX10_rankSettings 6 = .ok (.getfield 18, 3) := by decide +kernel
theorem dX10_rankSettings_9 : decode cX10_rankSettings 9 = .ok (.getfield 62, 3) := by decide +kernel
theorem dX10_rankSettings_12 : decode cX10_rankSettings 12 = .ok (.getfield 66, 3) := by decide +kernel
theorem dX10_rankSettings_15 : decode cX10_rankSettings 15 = .ok (.if_icmp .ge 13, 3) := by decide +kernel
theorem dX10_rankSettings_18 : decode cX10_rankSettings 18 = .ok (.iload_n 1, 1) := by decide +kernel
theorem dX10_rankSettings_19 : decode cX10_rankSettings 19 = .ok (.iconst 4, 1) := by decide +kernel
theorem dX10_rankSettings_20 : decode cX10_rankSettings 20 = .ok (.imul, 1) := by decide +kernel
theorem dX10_rankSettings_21 : decode cX10_rankSettings 21 = .ok (.istore_n 1, 1) := by decide +kernel
theorem dX10_rankSettings_22 : decode cX10_rankSettings 22 = .ok (.iinc 2 1, 3) := by decide +kernel
theorem dX10_rankSettings_25 : decode cX10_rankSettings 25 = .ok (.goto (-21), 3) := by decide +kernel
theorem dX10_rankSettings_28 : decode cX10_rankSettings 28 = .ok (.iconst 0, 1) := by decide +kernel
theorem dX10_rankSettings_29 : decode cX10_rankSettings 29 = .ok (.istore_n 2, 1) := by decide +kernel
theorem dX10_rankSettings_30 : decode cX10_rankSettings 30 = .ok (.iload_n 2, 1) := by decide +kernel
theorem dX10_rankSettings_31 : decode cX10_rankSettings 31 = .ok (.iload_n 1, 1) := by decide +kernel
theorem dX10_rankSettings_32 : decode cX10_rankSettings 32 = .ok (.if_icmp .ge 79, 3) := by decide +kernel
theorem dX10_rankSettings_35 : decode cX10_rankSettings 35 = .ok (.iload_n 2, 1) := by decide +kernel
theorem dX10_rankSettings_36 : decode cX10_rankSettings 36 = .ok (.istore_n 3, 1) := by decide +kernel
theorem dX10_rankSettings_37 : decode cX10_rankSettings 37 = .ok (.iconst 0, 1) := by decide +kernel
theorem dX10_rankSettings_38 : decode cX10_rankSettings 38 = .ok (.istore 4, 2) := by decide +kernel
theorem dX10_rankSettings_40 : decode cX10_rankSettings 40 = .ok (.aload_n 0, 1) := by decide +kernel
theorem dX10_rankSettings_41 : decode cX10_rankSettings 41 = .ok (.getfield 18, 3) := by decide +kernel
theorem dX10_rankSettings_44 : decode cX10_rankSettings 44 = .ok (.getfield 62, 3) := by decide +kernel
theorem dX10_rankSettings_47 : decode cX10_rankSettings 47 = .ok (.getfield 66, 3) := by decide +kernel
theorem dX10_rankSettings_50 : decode cX10_rankSettings 50 = .ok (.iconst 1, 1) := by decide +kernel
theorem dX10_rankSettings_51 : decode cX10_rankSettings 51 = .ok (.isub, 1) := by decide +kernel
theorem dX10_rankSettings_52 : decode cX10_rankSettings 52 = .ok (.istore 5, 2) := by decide +kernel
theorem dX10_rankSettings_54 : decode cX10_rankSettings 54 = .ok (.iload 5, 2) := by decide +kernel
theorem dX10_rankSettings_56 : decode cX10_rankSettings 56 = .ok (.ifCond .lt 35, 3) := by decide +kernel
theorem dX10_rankSettings_59 : decode cX10_rankSettings 59 = .ok (.iload 4, 2) := by decide +kernel
theorem dX10_rankSettings_61 : decode cX10_rankSettings 61 = .ok (.iload_n 3, 1) := by decide +kernel
theorem dX10_rankSettings_62 : decode cX10_rankSettings 62 = .ok (.iconst 4, 1) := by decide +kernel
theorem dX10_rankSettings_63 : decode cX10_rankSettings 63 = .ok (.irem, 1) := by decide +kernel
theorem dX10_rankSettings_64 : decode cX10_rankSettings 64 = .ok (.aload_n 0, 1) := by decide +kernel
theorem dX10_rankSettings_65 : decode cX10_rankSettings 65 = .ok (.getfield 18, 3) := by decide +kernel
theorem dX10_rankSettings_68 : decode cX10_rankSettings 68 = .ok (.getfield 62, 3) := by decide +kernel
theorem dX10_rankSettings_71 : decode cX10_rankSettings 71 = .ok (.getfield 115, 3) := by decide +kernel
theorem dX10_rankSettings_74 : decode cX10_rankSettings 74 = .ok (.iload 5, 2) := by decide +kernel
theorem dX10_rankSettings_76 : decode cX10_rankSettings 76 = .ok (.iaload, 1) := by decide +kernel
theorem dX10_rankSettings_77 : decode cX10_rankSettings 77 = .ok (.imul, 1) := by decide +kernel
theorem dX10_rankSettings_78 : decode cX10_rankSettings 78 = .ok (.iadd, 1) := by decide +kernel
theorem dX10_rankSettings_79 : decode cX10_rankSettings 79 = .ok (.istore 4, 2) := by decide +kernel
theorem dX10_rankSettings_81 : decode cX10_rankSettings 81 = .ok (.iload_n 3, 1) := by decide +kernel
theorem dX10_rankSettings_82 : decode cX10_rankSettings 82 = .ok (.iconst 4, 1) := by decide +kernel
theorem dX10_rankSettings_83 : decode cX10_rankSettings 83 = .ok (.idiv, 1) := by decide +kernel
theorem dX10_rankSettings_84 : decode cX10_rankSettings 84 = .ok (.istore_n 3, 1) := by decide +kernel
theorem dX10_rankSettings_85 : decode cX10_rankSettings 85 = .ok (.iinc 5 (-1), 3) := by decide +kernel
theorem dX10_rankSettings_88 : decode cX10_rankSettings 88 = .ok (.goto (-34), 3) := by decide +kernel
theorem dX10_rankSettings_91 : decode cX10_rankSettings 91 = .ok (.aload_n 0, 1) := by decide +kernel
theorem dX10_rankSettings_92 : decode cX10_rankSettings 92 = .ok (.getfield 11, 3) := by decide +kernel
theorem dX10_rankSettings_95 : decode cX10_rankSettings 95 = .ok (.iload_n 2, 1) := by decide +kernel
theorem dX10_rankSettings_96 : decode cX10_rankSettings 96 = .ok (.iload 4, 2) := by decide +kernel
theorem dX10_rankSettings_98 : decode cX10_rankSettings 98 = .ok (.sipush 256, 3) := by decide +kernel
theorem dX10_rankSettings_101 : decode cX10_rankSettings 101 = .ok (.imul, 1) := by decide +kernel
theorem dX10_rankSettings_102 : decode cX10_rankSettings 102 = .ok (.iload_n 2, 1) := by decide +kernel
theorem dX10_rankSettings_103 : decode cX10_rankSettings 103 = .ok (.iadd, 1) := by decide +kernel
theorem dX10_rankSettings_104 : decode cX10_rankSettings 104 = .ok (.iastore, 1) := by decide +kernel
theorem dX10_rankSettings_105 : decode cX10_rankSettings 105 = .ok (.iinc 2 1, 3) := by decide +kernel
theorem dX10_rankSettings_108 : decode cX10_rankSettings 108 = .ok (.goto (-78), 3) := by decide +kernel
theorem dX10_rankSettings_111 : decode cX10_rankSettings 111 = .ok (.getstatic 118, 3) := by decide +kernel
theorem dX10_rankSettings_114 : decode cX10_rankSettings 114 = .ok (.astore_n 2, 1) := by decide +kernel
theorem dX10_rankSettings_115 : decode cX10_rankSettings 115 = .ok (.aload_n 2, 1) := by decide +kernel
theorem dX10_rankSettings_116 : decode cX10_rankSettings 116 = .ok (.arraylength, 1) := by decide +kernel
theorem dX10_rankSettings_117 : decode cX10_rankSettings 117 = .ok (.istore_n 3, 1) := by decide +kernel
theorem dX10_rankSettings_118 : decode cX10_rankSettings 118 = .ok (.iconst 0, 1) := by decide +kernel
theorem dX10_rankSettings_119 : decode cX10_rankSettings 119 = .ok (.istore 4, 2) := by decide +kernel
theorem dX10_rankSettings_121 : decode cX10_rankSettings 121 = .ok (.iload 4, 2) := by decide +kernel
theorem dX10_rankSettings_123 : decode cX10_rankSettings 123 = .ok (.iload_n 3, 1) := by decide +kernel
theorem dX10_rankSettings_124 : decode cX10_rankSettings 124 = .ok (.if_icmp .ge 22, 3) := by decide +kernel
theorem dX10_rankSettings_127 : decode cX10_rankSettings 127 = .ok (.aload_n 2, 1) := by decide +kernel
theorem dX10_rankSettings_128 : decode cX10_rankSettings 128 = .ok (.iload 4, 2) := by decide +kernel
theorem dX10_rankSettings_130 : decode cX10_rankSettings 130 = .ok (.iaload, 1) := by decide +kernel
theorem dX10_rankSettings_131 : decode cX10_rankSettings 131 = .ok (.istore 5, 2) := by decide +kernel
theorem dX10_rankSettings_133 : decode cX10_rankSettings 133 = .ok (.aload_n 0, 1) := by decide +kernel
theorem dX10_rankSettings_134 : decode cX10_rankSettings 134 = .ok (.iload 5, 2) := by decide +kernel
theorem dX10_rankSettings_136 : decode cX10_rankSettings 136 = .ok (.iload_n 1, 1) := by decide +kernel
theorem dX10_rankSettings_137 : decode cX10_rankSettings 137 = .ok (.invokevirtual 121, 3) := by decide +kernel
theorem dX10_rankSettings_140 : decode cX10_rankSettings 140 = .ok (.iinc 4 1, 3) := by decide +kernel
theorem dX10_rankSettings_143 : decode cX10_rankSettings 143 = .ok (.goto (-22), 3) := by decide +kernel
theorem dX10_rankSettings_146 : decode cX10_rankSettings 146 = .ok (.iload_n 1, 1) := by decide +kernel
theorem dX10_rankSettings_147 : decode cX10_rankSettings 147 = .ok (.ireturn, 1) := by decide +kernel
theorem dX10_sortBy_0 : decode cX10_sortBy 0 = .ok (.iload_n 1, 1) := by decide +kernel
theorem dX10_sortBy_1 : decode cX10_sortBy 1 = .ok (.istore_n 3, 1) := by decide +kernel
theorem dX10_sortBy_2 : decode cX10_sortBy 2 = .ok (.iload_n 3, 1) := by decide +kernel
theorem dX10_sortBy_3 : decode cX10_sortBy 3 = .ok (.iload_n 2, 1) := by decide +kernel
theorem dX10_sortBy_4 : decode cX10_sortBy 4 = .ok (.if_icmp .ge 78, 3) := by decide +kernel
theorem dX10_sortBy_7 : decode cX10_sortBy 7 = .ok (.aload_n 0, 1) := by decide +kernel
theorem dX10_sortBy_8 : decode cX10_sortBy 8 = .ok (.getfield 11, 3) := by decide +kernel
theorem dX10_sortBy_11 : decode cX10_sortBy 11 = .ok (.iload_n 3, 1) := by decide +kernel
theorem dX10_sortBy_12 : decode cX10_sortBy 12 = .ok (.iaload, 1) := by decide +kernel
theorem dX10_sortBy_13 : decode cX10_sortBy 13 = .ok (.istore 4, 2) := by decide +kernel
theorem dX10_sortBy_15 : decode cX10_sortBy 15 = .ok (.iload_n 3, 1) := by decide +kernel
theorem dX10_sortBy_16 : decode cX10_sortBy 16 = .ok (.istore 5, 2) := by decide +kernel
theorem dX10_sortBy_18 : decode cX10_sortBy 18 = .ok (.iload_n 3, 1) := by decide +kernel
theorem dX10_sortBy_19 : decode cX10_sortBy 19 = .ok (.iload_n 1, 1) := by decide +kernel
theorem dX10_sortBy_20 : decode cX10_sortBy 20 = .ok (.isub, 1) := by decide +kernel
theorem dX10_sortBy_21 : decode cX10_sortBy 21 = .ok (.istore 6, 2) := by decide +kernel
theorem dX10_sortBy_23 : decode cX10_sortBy 23 = .ok (.iload 6, 2) := by decide +kernel
theorem dX10_sortBy_25 : decode cX10_sortBy 25 = .ok (.ifCond .lt 42, 3) := by decide +kernel
theorem dX10_sortBy_28 : decode cX10_sortBy 28 = .ok (.aload_n 0, 1) := by decide +kernel
theorem dX10_sortBy_29 : decode cX10_sortBy 29 = .ok (.getfield 11, 3) := by decide +kernel
theorem dX10_sortBy_32 : decode cX10_sortBy 32 = .ok (.iload 6, 2) := by decide +kernel
theorem dX10_sortBy_34 : decode cX10_sortBy 34 = .ok (.iaload, 1) := by decide +kernel
theorem dX10_sortBy_35 : decode cX10_sortBy 35 = .ok (.iload 4, 2) := by decide +kernel
theorem dX10_sortBy_37 : decode cX10_sortBy 37 = .ok (.if_icmp .le 30, 3) := by decide +kernel
theorem dX10_sortBy_40 : decode cX10_sortBy 40 = .ok (.aload_n 0, 1) := by decide +kernel
theorem dX10_sortBy_41 : decode cX10_sortBy 41 = .ok (.getfield 11, 3) := by decide +kernel
theorem dX10_sortBy_44 : decode cX10_sortBy 44 = .ok (.iload 5, 2) := by decide +kernel
theorem dX10_sortBy_46 : decode cX10_sortBy 46 = .ok (.aload_n 0, 1) := by decide +kernel
theorem dX10_sortBy_47 : decode cX10_sortBy 47 = .ok (.getfield 11, 3) := by decide +kernel
theorem dX10_sortBy_50 : decode cX10_sortBy 50 = .ok (.iload 6, 2) := by decide +kernel
theorem dX10_sortBy_52 : decode cX10_sortBy 52 = .ok (.iaload, 1) := by decide +kernel
theorem dX10_sortBy_53 : decode cX10_sortBy 53 = .ok (.iastore, 1) := by decide +kernel
theorem dX10_sortBy_54 : decode cX10_sortBy 54 = .ok (.iload 6, 2) := by decide +kernel
theorem dX10_sortBy_56 : decode cX10_sortBy 56 = .ok (.istore 5, 2) := by decide +kernel
theorem dX10_sortBy_58 : decode cX10_sortBy 58 = .ok (.iload 6, 2) := by decide +kernel
theorem dX10_sortBy_60 : decode cX10_sortBy 60 = .ok (.iload_n 1, 1) := by decide +kernel
theorem dX10_sortBy_61 : decode cX10_sortBy 61 = .ok (.isub, 1) := by decide +kernel
theorem dX10_sortBy_62 : decode cX10_sortBy 62 = .ok (.istore 6, 2) := by decide +kernel
theorem dX10_sortBy_64 : decode cX10_sortBy 64 = .ok (.goto (-41), 3) := by decide +kernel
theorem dX10_sortBy_67 : decode cX10_sortBy 67 = .ok (.aload_n 0, 1) := by decide +kernel
theorem dX10_sortBy_68 : decode cX10_sortBy 68 = .ok (.getfield 11, 3) := by decide +kernel
theorem dX10_sortBy_71 : decode cX10_sortBy 71 = .ok (.iload 5, 2) := by decide +kernel
theorem dX10_sortBy_73 : decode cX10_sortBy 73 = .ok (.iload 4, 2) := by decide +kernel
theorem dX10_sortBy_75 : decode cX10_sortBy 75 = .ok (.iastore, 1) := by decide +kernel
theorem dX10_sortBy_76 : decode cX10_sortBy 76 = .ok (.iinc 3 1, 3) := by decide +kernel
theorem dX10_sortBy_79 : decode cX10_sortBy 79 = .ok (.goto (-77), 3) := by decide +kernel
theorem dX10_sortBy_82 : decode cX10_sortBy 82 = .ok (.return_, 1) := by decide +kernel
theorem dX10_takeSetting_0 : decode cX10_takeSetting 0 = .ok (.iload_n 1, 1) := by decide +kernel
theorem dX10_takeSetting_1 : decode cX10_takeSetting 1 = .ok (.istore_n 2, 1) := by decide +kernel
theorem dX10_takeSetting_2 : decode cX10_takeSetting 2 = .ok (.iconst 0, 1) := by decide +kernel
theorem dX10_takeSetting_3 : decode cX10_takeSetting 3 = .ok (.istore_n 3, 1) := by decide +kernel
theorem dX10_takeSetting_4 : decode cX10_takeSetting 4 = .ok (.aload_n 0, 1) := by decide +kernel
theorem dX10_takeSetting_5 : decode cX10_takeSetting 5 = .ok (.getfield 18, 3) := by decide +kernel
theorem dX10_takeSetting_8 : decode cX10_takeSetting 8 = .ok (.getfield 62, 3) := by decide +kernel
theorem dX10_takeSetting_11 : decode cX10_takeSetting 11 = .ok (.getfield 66, 3) := by decide +kernel
theorem dX10_takeSetting_14 : decode cX10_takeSetting 14 = .ok (.iconst 1, 1) := by decide +kernel
theorem dX10_takeSetting_15 : decode cX10_takeSetting 15 = .ok (.isub, 1) := by decide +kernel
theorem dX10_takeSetting_16 : decode cX10_takeSetting 16 = .ok (.istore 4, 2) := by decide +kernel
theorem dX10_takeSetting_18 : decode cX10_takeSetting 18 = .ok (.iload 4, 2) := by decide +kernel
theorem dX10_takeSetting_20 : decode cX10_takeSetting 20 = .ok (.ifCond .lt 34, 3) := by decide +kernel
theorem dX10_takeSetting_23 : decode cX10_takeSetting 23 = .ok (.aload_n 0, 1) := by decide +kernel
theorem dX10_takeSetting_24 : decode cX10_takeSetting 24 = .ok (.getfield 22, 3) := by decide +kernel
theorem dX10_takeSetting_27 : decode cX10_takeSetting 27 = .ok (.getfield 42, 3) := by decide +kernel
theorem dX10_takeSetting_30 : decode cX10_takeSetting 30 = .ok (.iload 4, 2) := by decide +kernel
theorem dX10_takeSetting_32 : decode cX10_takeSetting 32 = .ok (.iload_n 2, 1) := by decide +kernel
theorem dX10_takeSetting_33 : decode cX10_takeSetting 33 = .ok (.iconst 4, 1) := by decide +kernel
theorem dX10_takeSetting_34 : decode cX10_takeSetting 34 = .ok (.irem, 1) := by decide +kernel
theorem dX10_takeSetting_35 : decode cX10_takeSetting 35 = .ok (.iastore, 1) := by decide +kernel
theorem dX10_takeSetting_36 : decode cX10_takeSetting 36 = .ok (.iload_n 3, 1) := by decide +kernel
theorem dX10_takeSetting_37 : decode cX10_takeSetting 37 = .ok (.iconst 4, 1) := by decide +kernel
theorem dX10_takeSetting_38 : decode cX10_takeSetting 38 = .ok (.imul, 1) := by decide +kernel
theorem dX10_takeSetting_39 : decode cX10_takeSetting 39 = .ok (.iload_n 2, 1) := by decide +kernel
theorem dX10_takeSetting_40 : decode cX10_takeSetting 40 = .ok (.iconst 4, 1) := by decide +kernel
theorem dX10_takeSetting_41 : decode cX10_takeSetting 41 = .ok (.irem, 1) := by decide +kernel
theorem dX10_takeSetting_42 : decode cX10_takeSetting 42 = .ok (.iadd, 1) := by decide +kernel
theorem dX10_takeSetting_43 : decode cX10_takeSetting 43 = .ok (.istore_n 3, 1) := by decide +kernel
theorem dX10_takeSetting_44 : decode cX10_takeSetting 44 = .ok (.iload_n 2, 1) := by decide +kernel
theorem dX10_takeSetting_45 : decode cX10_takeSetting 45 = .ok (.iconst 4, 1) := by decide +kernel
theorem dX10_takeSetting_46 : decode cX10_takeSetting 46 = .ok (.idiv, 1) := by decide +kernel
theorem dX10_takeSetting_47 : decode cX10_takeSetting 47 = .ok (.istore_n 2, 1) := by decide +kernel
theorem dX10_takeSetting_48 : decode cX10_takeSetting 48 = .ok (.iinc 4 (-1), 3) := by decide +kernel
theorem dX10_takeSetting_51 : decode cX10_takeSetting 51 = .ok (.goto (-33), 3) := by decide +kernel
theorem dX10_takeSetting_54 : decode cX10_takeSetting 54 = .ok (.iload_n 3, 1) := by decide +kernel
theorem dX10_takeSetting_55 : decode cX10_takeSetting 55 = .ok (.ireturn, 1) := by decide +kernel
set_option maxHeartbeats 4000000 in
set_option maxRecDepth 100000 in
theorem c10_sortBy (l : Launch) (dC : Nat → ClassId) (dI : Nat → Nat → Nat) (n0 : Nat) (atx : Nat → Nat × Nat) (sz : Nat) (tr : Nat) (tr_settingKnown : Int32) (tr_knownSetting : Int32) (bk : Nat) (st : Nat) (j2 : Nat) (jd : Nat) (tr_ranks : Nat) (tr_keptSpeed : Nat) (k_tr_ranks : ClassId) (f_tr_ranks : Nat → Int32) (ga : Nat) (cn : Nat) (hga : 1 ≤ ga ∧ ga ≤ 121) (hcn : cn ≤ 256) : Met l yX10_sortBy (wM yX10_sortBy cX10_sortBy 7 none) ({ frames := 0, cells := 0, slots := 0, locals := 0 }) (va_Pc [.ref tr, .int (nI ga), .int (nI cn)] (fun U => U.heap.size = sz ∧ n0 ≤ sz ∧ GW n0 atx U ∧ va_P (dC, dI) classes [(tr, .inr (10, [.int tr_settingKnown, .int tr_knownSetting, .ref bk, .ref st, .ref j2, .ref jd, .ref tr_ranks, .ref tr_keptSpeed])), (tr_ranks, .inl (k_tr_ranks, 256, .inl f_tr_ranks))] U.heap ∧ va_K (dC, dI) classes [(k_tr_ranks, .int)] U ∧ va_D (fun q => n0 ≤ q) [(tr, .inr (10, [.int tr_settingKnown, .int tr_knownSetting, .ref bk, .ref st, .ref j2, .ref jd, .ref tr_ranks, .ref tr_keptSpeed])), (tr_ranks, .inl (k_tr_ranks, 256, .inl f_tr_ranks))])) (va_Qv (fun _ : Unit => True) (fun (_ : Unit) (t : State) => ∃ (ra9 : Nat → Int32), va_P (dC, dI) classes [(tr, .inr (10, [.int tr_settingKnown, .int tr_knownSetting, .ref bk, .ref st, .ref j2, .ref jd, .ref tr_ranks, .ref tr_keptSpeed])), (tr_ranks, .inl (k_tr_ranks, 256, .inl ra9))] t.heap ∧ va_K (dC, dI) classes [(k_tr_ranks, .int)] t ∧ va_D (va_A [(tr, .inr (10, [.int tr_settingKnown, .int tr_knownSetting, .ref bk, .ref st, .ref j2, .ref jd, .ref tr_ranks, .ref tr_keptSpeed])), (tr_ranks, .inl (k_tr_ranks, 256, .inl f_tr_ranks))] sz) [(tr, .inr (10, [.int tr_settingKnown, .int tr_knownSetting, .ref bk, .ref st, .ref j2, .ref jd, .ref tr_ranks, .ref tr_keptSpeed])), (tr_ranks, .inl (k_tr_ranks, 256, .inl ra9))]) (va_A [(tr, .inr (10, [.int tr_settingKnown, .int tr_knownSetting, .ref bk, .ref st, .ref j2, .ref jd, .ref tr_ranks, .ref tr_keptSpeed])), (tr_ranks, .inl (k_tr_ranks, 256, .inl f_tr_ranks))] sz)) 0 0 (va_A [(tr, .inr (10, [.int tr_settingKnown, .int tr_knownSetting, .ref bk, .ref st, .ref j2, .ref jd, .ref tr_ranks, .ref tr_keptSpeed])), (tr_ranks, .inl (k_tr_ranks, 256, .inl f_tr_ranks))] sz) := by
  refine Met.ofW (cc := cX10_sortBy) (maxL := 7) (ret := none) (by decide) rfl ?_
  intro p e s m args below meth c s₁ B hml hv
  obtain ⟨rfl, hsz, hn0, hG, hP, hK, hD0⟩ := hv
  have hx := B.exec
  have hb := B.bytes
  have hr := B.returns
  have hts := atoms_spec (ws := wM yX10_sortBy cX10_sortBy 7 none) B.pre
  have hown : s.vm.findClass RX10 = some m.cls := findClass_of_methodNamed B.named
  have hlocks := B.notSynchronized
  subst hsz
  have hD := hD0.self (sz := s.heap.size)
  have hA0 := vA_n0 hD0 hn0
  generalize hAe : va_A [(tr, .inr (10, [.int tr_settingKnown, .int tr_knownSetting, .ref bk, .ref st, .ref j2, .ref jd, .ref tr_ranks, .ref tr_keptSpeed])), (tr_ranks, .inl (k_tr_ranks, 256, .inl f_tr_ranks))] s.heap.size = A at hD hA0 ⊢
  have hA : ∀ q : Nat, s.heap.size ≤ q → A q := fun q h => by rw [← hAe]; exact Or.inr h
  have hS : va_S A s.heap s.heap [] := va_S.rf
  have hl := lv_entry ([.ref tr, .int (nI ga), .int (nI cn)]) (n := 7) (Nat.le_of_ble_eq_true rfl)
  rw [lg_entry_eq]
  generalize (lg_sl ([.ref tr, .int (nI ga), .int (nI cn)]) ++ List.replicate (7 - (lg_sl ([.ref tr, .int (nI ga), .int (nI cn)])).length) Slot.unset).toArray = ls at hl ⊢
  have hl : lv_has ls 7 [(0, .ref tr), (1, .int (nI ga)), (2, .int (nI cn))] := hl
  refine lv_iload_n hx hb dX10_sortBy_0 rfl (lv_at hl 1 rfl) ?_
  refine lv_istore_n (lv' := [(3, .int (nI ga)), (0, .ref tr), (1, .int (nI ga)), (2, .int (nI cn))]) hx hb dX10_sortBy_1 rfl hl (by decide) rfl (fun ls hl => ?_)
  refine W_lp2 (I := fun (i1 : Nat) (ra1 : Nat → Int32) H locs ls => (ga ≤ i1 ∧ (i1 ≤ cn ∨ i1 = ga)) ∧ va_P (dC, dI) classes [(tr, .inr (10, [.int tr_settingKnown, .int tr_knownSetting, .ref bk, .ref st, .ref j2, .ref jd, .ref tr_ranks, .ref tr_keptSpeed])), (tr_ranks, .inl (k_tr_ranks, 256, .inl ra1))] H ∧ va_D A [(tr, .inr (10, [.int tr_settingKnown, .int tr_knownSetting, .ref bk, .ref st, .ref j2, .ref jd, .ref tr_ranks, .ref tr_keptSpeed])), (tr_ranks, .inl (k_tr_ranks, 256, .inl ra1))] ∧ va_S A s.heap H locs ∧ lv_has ls 7 [(0, .ref tr), (1, .int (nI ga)), (2, .int (nI cn)), (3, .int (nI i1))]) (μ := fun (i1 : Nat) (ra1 : Nat → Int32) => cn - i1) ?_ ga f_tr_ranks _ _ _ ⟨(by first | with_reducible assumption | omega | exact vp_in_iff.mpr (by omega) | exact vp_in_nI (by omega) (by omega) | exact ⟨by omega, by omega⟩), hP, hD, hS, lv_sub hl [1, 2, 3, 0] rfl⟩
  intro i1 ra1 H locs ls hI ih_1
  obtain ⟨hi1, hP, hD, hS, hl⟩ := hI
  refine lv_iload_n hx hb dX10_sortBy_2 rfl (lv_at hl 3 rfl) ?_
  refine lv_iload_n hx hb dX10_sortBy_3 rfl (lv_at hl 2 rfl) ?_
  refine lv_icmp_ge (tgt := 82) hx hb dX10_sortBy_4 (by decide) (fun c_2 => ?_) (fun c_2 => ?_)
  · skip
    have g_3 := n_ge (a := i1) (b := cn) c_2 (by omega) (by omega)
    have hK9 := hK.sub (tys' := [(k_tr_ranks, .int)]) [0] rfl
    exact W.vret hx hb hr (fun t ht hW => ⟨⟨(), rfl, trivial, ra1, by rw [ht]; exact hP.sub [0, 1] rfl, va_K.moved hW.alike hK9, hD.sub [0, 1] (by decide) rfl⟩, hS.F ht⟩) hS.2.2 dX10_sortBy_82
  · skip
    have g_4 := n_nge (a := i1) (b := cn) c_2 (by omega) (by omega)
    refine lv_aload_n hx hb dX10_sortBy_7 rfl (lv_at hl 0 rfl) ?_
    refine va_get (D := (dC, dI)) (ci := 10) (v := .ref tr_ranks) (C := RX10) (T := TX10) (N := 8) hx hb hts (fun w h => wM_c (iX10 w h)) hown hK hP 0 rfl rfl 6 (by decide) (hts _ (wM_c wd_547)) (fun _ h9 => h9) rfl dX10_sortBy_8 ?_
    refine lv_iload_n hx hb dX10_sortBy_11 rfl (lv_at hl 3 rfl) ?_
    refine va_iald hx hb hK hP 1 0 rfl rfl (vp_in_nI (n := i1) (by omega) (by omega)) dX10_sortBy_12 ?_
    refine lv_topi (fun v_5 ev_5 => ?_)
    have nv_5 : v_5 = ra1 i1 := by rw [ev_5]; exact congrArg _ (nI_clamp (by omega))
    refine lv_istore (lv' := [(4, .int v_5), (0, .ref tr), (1, .int (nI ga)), (2, .int (nI cn)), (3, .int (nI i1))]) hx hb dX10_sortBy_13 hl (by decide) rfl (fun ls hl => ?_)
    refine lv_iload_n hx hb dX10_sortBy_15 rfl (lv_at hl 4 rfl) ?_
    refine lv_istore (lv' := [(5, .int (nI i1)), (4, .int v_5), (0, .ref tr), (1, .int (nI ga)), (2, .int (nI cn)), (3, .int (nI i1))]) hx hb dX10_sortBy_16 hl (by decide) rfl (fun ls hl => ?_)
    refine lv_iload_n hx hb dX10_sortBy_18 rfl (lv_at hl 5 rfl) ?_
    refine lv_iload_n hx hb dX10_sortBy_19 rfl (lv_at hl 3 rfl) ?_
    refine lv_isub hx hb dX10_sortBy_20 ?_
    refine lv_topi (fun v_6 ev_6 => ?_)
    have z8 : (nI i1).toInt = ((i1 : Nat) : Int) := nI_toInt (by omega)
    have z8 : (nI ga).toInt = ((ga : Nat) : Int) := nI_toInt (by omega)
    have g_7 : v_6.toInt = ((i1 : Nat) : Int) - ((ga : Nat) : Int) := by have h9 := i_sub (x := (nI i1)) (y := (nI ga)) (by omega) (by omega); rw [← ev_6] at h9; omega
    refine lv_istore (lv' := [(6, .int v_6), (5, .int (nI i1)), (4, .int v_5), (0, .ref tr), (1, .int (nI ga)), (2, .int (nI cn)), (3, .int (nI i1))]) hx hb dX10_sortBy_21 hl (by decide) rfl (fun ls hl => ?_)
    refine W_lp3 (I := fun (jj : Int32) (to1 : Int32) (ra2 : Nat → Int32) H locs ls => (0 ≤ jj.toInt ∧ jj.toInt < 256) ∧ (-121 ≤ to1.toInt ∧ to1.toInt < 256) ∧ va_P (dC, dI) classes [(tr, .inr (10, [.int tr_settingKnown, .int tr_knownSetting, .ref bk, .ref st, .ref j2, .ref jd, .ref tr_ranks, .ref tr_keptSpeed])), (tr_ranks, .inl (k_tr_ranks, 256, .inl ra2))] H ∧ va_D A [(tr, .inr (10, [.int tr_settingKnown, .int tr_knownSetting, .ref bk, .ref st, .ref j2, .ref jd, .ref tr_ranks, .ref tr_keptSpeed])), (tr_ranks, .inl (k_tr_ranks, 256, .inl ra2))] ∧ va_S A s.heap H locs ∧ lv_has ls 7 [(0, .ref tr), (1, .int (nI ga)), (2, .int (nI cn)), (3, .int (nI i1)), (4, .int v_5), (5, .int jj), (6, .int to1)]) (μ := fun (jj : Int32) (to1 : Int32) (ra2 : Nat → Int32) => (to1.toInt + 121).toNat) ?_ (nI i1) v_6 ra1 _ _ _ ⟨(by rw [nI_toInt (by omega)]; omega), (by omega), hP, hD, hS, lv_sub hl [3, 4, 5, 6, 2, 1, 0] rfl⟩
    intro jj to1 ra2 H locs ls hI ih_8
    obtain ⟨hjj, hto, hP, hD, hS, hl⟩ := hI
    refine lv_iload hx hb dX10_sortBy_23 (lv_at hl 6 rfl) ?_
    refine lv_if_lt (tgt := 67) hx hb dX10_sortBy_25 (by decide) (fun c_9 => ?_) (fun c_9 => ?_)
    · skip
      have g_10 : to1.toInt < (0 : Int) := i_lt c_9
      refine lv_aload_n hx hb dX10_sortBy_67 rfl (lv_at hl 0 rfl) ?_
      refine va_get (D := (dC, dI)) (ci := 10) (v := .ref tr_ranks) (C := RX10) (T := TX10) (N := 8) hx hb hts (fun w h => wM_c (iX10 w h)) hown hK hP 0 rfl rfl 6 (by decide) (hts _ (wM_c wd_547)) (fun _ h9 => h9) rfl dX10_sortBy_68 ?_
      refine lv_iload hx hb dX10_sortBy_71 (lv_at hl 5 rfl) ?_
      refine lv_iload hx hb dX10_sortBy_73 (lv_at hl 4 rfl) ?_
      refine va_iast hx hb hK hP hD hS 1 0 rfl rfl (by first | with_reducible assumption | exact vp_in_iff.mpr (by omega)) dX10_sortBy_75 (fun H locs hP hD hS => ?_)
      obtain ⟨f_11, ef_11⟩ : ∃ f9, f9 = (upd ra2 jj.toNatClampNeg v_5) := ⟨_, rfl⟩
      obtain ⟨hP, hD⟩ : s3_w (dC, dI) classes A [(tr, .inr (10, [.int tr_settingKnown, .int tr_knownSetting, .ref bk, .ref st, .ref j2, .ref jd, .ref tr_ranks, .ref tr_keptSpeed])), (tr_ranks, .inl (k_tr_ranks, 256, .inl f_11))] H := ⟨(by rw [ef_11]; exact hP), (by rw [ef_11]; exact hD)⟩
      refine lv_iinc (v := (nI (i1 + 1))) (lv' := [(3, .int (nI (i1 + 1))), (0, .ref tr), (1, .int (nI ga)), (2, .int (nI cn)), (4, .int v_5), (5, .int jj), (6, .int to1)]) hx hb dX10_sortBy_76 hl (k := 3) rfl (nI_add _ 1) (by decide) rfl (fun ls hl => ?_)
      refine lv_goto (tgt := 2) hx hb dX10_sortBy_79 (by decide) ?_
      exact ih_1 (i1 + 1) f_11 _ _ _ ⟨(by first | with_reducible assumption | omega | exact vp_in_iff.mpr (by omega) | exact vp_in_nI (by omega) (by omega) | exact ⟨by omega, by omega⟩), hP.sub [0, 1] rfl, hD.sub [0, 1] (by decide) rfl, hS, lv_sub hl [1, 2, 3, 0] rfl⟩ (by omega)
    · skip
      have g_12 : (0 : Int) ≤ to1.toInt := i_nlt c_9
      refine lv_aload_n hx hb dX10_sortBy_28 rfl (lv_at hl 0 rfl) ?_
      refine va_get (D := (dC, dI)) (ci := 10) (v := .ref tr_ranks) (C := RX10) (T := TX10) (N := 8) hx hb hts (fun w h => wM_c (iX10 w h)) hown hK hP 0 rfl rfl 6 (by decide) (hts _ (wM_c wd_547)) (fun _ h9 => h9) rfl dX10_sortBy_29 ?_
      refine lv_iload hx hb dX10_sortBy_32 (lv_at hl 6 rfl) ?_
      refine va_iald hx hb hK hP 1 0 rfl rfl (by first | with_reducible assumption | exact vp_in_iff.mpr (by omega)) dX10_sortBy_34 ?_
      refine lv_topi (fun v_13 ev_13 => ?_)
      refine lv_iload hx hb dX10_sortBy_35 (lv_at hl 4 rfl) ?_
      refine lv_icmp_le (tgt := 67) hx hb dX10_sortBy_37 (by decide) (fun c_14 => ?_) (fun c_14 => ?_)
      · skip
        have g_15 : v_13.toInt ≤ v_5.toInt := i_le c_14
        refine lv_aload_n hx hb dX10_sortBy_67 rfl (lv_at hl 0 rfl) ?_
        refine va_get (D := (dC, dI)) (ci := 10) (v := .ref tr_ranks) (C := RX10) (T := TX10) (N := 8) hx hb hts (fun w h => wM_c (iX10 w h)) hown hK hP 0 rfl rfl 6 (by decide) (hts _ (wM_c wd_547)) (fun _ h9 => h9) rfl dX10_sortBy_68 ?_
        refine lv_iload hx hb dX10_sortBy_71 (lv_at hl 5 rfl) ?_
        refine lv_iload hx hb dX10_sortBy_73 (lv_at hl 4 rfl) ?_
        refine va_iast hx hb hK hP hD hS 1 0 rfl rfl (by first | with_reducible assumption | exact vp_in_iff.mpr (by omega)) dX10_sortBy_75 (fun H locs hP hD hS => ?_)
        obtain ⟨f_16, ef_16⟩ : ∃ f9, f9 = (upd ra2 jj.toNatClampNeg v_5) := ⟨_, rfl⟩
        obtain ⟨hP, hD⟩ : s3_w (dC, dI) classes A [(tr, .inr (10, [.int tr_settingKnown, .int tr_knownSetting, .ref bk, .ref st, .ref j2, .ref jd, .ref tr_ranks, .ref tr_keptSpeed])), (tr_ranks, .inl (k_tr_ranks, 256, .inl f_16))] H := ⟨(by rw [ef_16]; exact hP), (by rw [ef_16]; exact hD)⟩
        refine lv_iinc (v := (nI (i1 + 1))) (lv' := [(3, .int (nI (i1 + 1))), (0, .ref tr), (1, .int (nI ga)), (2, .int (nI cn)), (4, .int v_5), (5, .int jj), (6, .int to1)]) hx hb dX10_sortBy_76 hl (k := 3) rfl (nI_add _ 1) (by decide) rfl (fun ls hl => ?_)
        refine lv_goto (tgt := 2) hx hb dX10_sortBy_79 (by decide) ?_
        exact ih_1 (i1 + 1) f_16 _ _ _ ⟨(by first | with_reducible assumption | omega | exact vp_in_iff.mpr (by omega) | exact vp_in_nI (by omega) (by omega) | exact ⟨by omega, by omega⟩), hP.sub [0, 1] rfl, hD.sub [0, 1] (by decide) rfl, hS, lv_sub hl [1, 2, 3, 0] rfl⟩ (by omega)
      · skip
        have g_17 : v_5.toInt < v_13.toInt := i_nle c_14
        refine lv_aload_n hx hb dX10_sortBy_40 rfl (lv_at hl 0 rfl) ?_
        refine va_get (D := (dC, dI)) (ci := 10) (v := .ref tr_ranks) (C := RX10) (T := TX10) (N := 8) hx hb hts (fun w h => wM_c (iX10 w h)) hown hK hP 0 rfl rfl 6 (by decide) (hts _ (wM_c wd_547)) (fun _ h9 => h9) rfl dX10_sortBy_41 ?_
        refine lv_iload hx hb dX10_sortBy_44 (lv_at hl 5 rfl) ?_
        refine lv_aload_n hx hb dX10_sortBy_46 rfl (lv_at hl 0 rfl) ?_
        refine va_get (D := (dC, dI)) (ci := 10) (v := .ref tr_ranks) (C := RX10) (T := TX10) (N := 8) hx hb hts (fun w h => wM_c (iX10 w h)) hown hK hP 0 rfl rfl 6 (by decide) (hts _ (wM_c wd_547)) (fun _ h9 => h9) rfl dX10_sortBy_47 ?_
        refine lv_iload hx hb dX10_sortBy_50 (lv_at hl 6 rfl) ?_
        refine va_iald hx hb hK hP 1 0 rfl rfl (by first | with_reducible assumption | exact vp_in_iff.mpr (by omega)) dX10_sortBy_52 ?_
        refine lv_topi (fun v_18 ev_18 => ?_)
        refine va_iast hx hb hK hP hD hS 1 0 rfl rfl (by first | with_reducible assumption | exact vp_in_iff.mpr (by omega)) dX10_sortBy_53 (fun H locs hP hD hS => ?_)
        obtain ⟨f_19, ef_19⟩ : ∃ f9, f9 = (upd ra2 jj.toNatClampNeg v_18) := ⟨_, rfl⟩
        obtain ⟨hP, hD⟩ : s3_w (dC, dI) classes A [(tr, .inr (10, [.int tr_settingKnown, .int tr_knownSetting, .ref bk, .ref st, .ref j2, .ref jd, .ref tr_ranks, .ref tr_keptSpeed])), (tr_ranks, .inl (k_tr_ranks, 256, .inl f_19))] H := ⟨(by rw [ef_19]; exact hP), (by rw [ef_19]; exact hD)⟩
        refine lv_iload hx hb dX10_sortBy_54 (lv_at hl 6 rfl) ?_
        refine lv_istore (lv' := [(5, .int to1), (0, .ref tr), (1, .int (nI ga)), (2, .int (nI cn)), (3, .int (nI i1)), (4, .int v_5), (6, .int to1)]) hx hb dX10_sortBy_56 hl (by decide) rfl (fun ls hl => ?_)
        refine lv_iload hx hb dX10_sortBy_58 (lv_at hl 6 rfl) ?_
        refine lv_iload_n hx hb dX10_sortBy_60 rfl (lv_at hl 2 rfl) ?_
        refine lv_isub hx hb dX10_sortBy_61 ?_
        refine lv_topi (fun v_20 ev_20 => ?_)
        have z8 : (nI ga).toInt = ((ga : Nat) : Int) := nI_toInt (by omega)
        have g_21 : v_20.toInt = to1.toInt - ((ga : Nat) : Int) := by have h9 := i_sub (x := to1) (y := (nI ga)) (by omega) (by omega); rw [← ev_20] at h9; omega
        refine lv_istore (lv' := [(6, .int v_20), (5, .int to1), (0, .ref tr), (1, .int (nI ga)), (2, .int (nI cn)), (3, .int (nI i1)), (4, .int v_5)]) hx hb dX10_sortBy_62 hl (by decide) rfl (fun ls hl => ?_)
        refine lv_goto (tgt := 23) hx hb dX10_sortBy_64 (by decide) ?_
        exact ih_8 to1 v_20 f_19 _ _ _ ⟨(by omega), (by omega), hP.sub [0, 1] rfl, hD.sub [0, 1] (by decide) rfl, hS, lv_sub hl [2, 3, 4, 5, 6, 1, 0] rfl⟩ (by omega)
set_option maxHeartbeats 4000000 in
set_option maxRecDepth 100000 in
theorem c10_takeSetting (l : Launch) (dC : Nat → ClassId) (dI : Nat → Nat → Nat) (n0 : Nat) (atx : Nat → Nat × Nat) (sz : Nat) (tr : Nat) (tr_settingKnown : Int32) (tr_knownSetting : Int32) (bk : Nat) (st : Nat) (j2 : Nat) (jd : Nat) (tr_ranks : Nat) (tr_keptSpeed : Nat) (st_open : Nat) (st_speed : Nat) (st_fallen : Nat) (st_fire : Nat) (st_mark : Int32) (st_moreIn : Int32) (st_more : Int32) (bw : Nat) (bk_tail : Nat) (bk_head : Nat) (bk_hinder : Nat) (bk_size : Nat) (bk_walk : Nat) (bk_draught : Nat) (bk_doorIn : Nat) (bk_fanIn : Nat) (bk_faceIn : Nat) (bn : Nat) (bk_day : Int32) (gr : Nat) (gd : Nat) (gr_doorBy : Nat) (gp : Nat) (gr_pairFirst : Nat) (gr_pairSecond : Nat) (gf : Nat) (gr_fanPush : Nat) (gr_fanFall : Nat) (gr_fanCost : Nat) (ge : Nat) (gr_faceWay : Nat) (gr_faceGas : Nat) (gr_faceNeed : Nat) (k_st_speed : ClassId) (f_st_speed : Nat → Int32) (cd : Int32) (hbw : bw ≤ 14) (hbn : bn ≤ 10) (hgd : gd ≤ 6) (hgp : gp ≤ 3) (hgf : gf ≤ 4) (hge : ge ≤ 4) (q_day : -1 ≤ bk_day.toInt ∧ bk_day.toInt < 10) : Met l yX10_takeSetting (wM yX10_takeSetting cX10_takeSetting 5 (some .int)) ({ frames := 0, cells := 0, slots := 0, locals := 0 }) (va_Pc [.ref tr, .int cd] (fun U => U.heap.size = sz ∧ n0 ≤ sz ∧ GW n0 atx U ∧ va_P (dC, dI) classes [(tr, .inr (10, [.int tr_settingKnown, .int tr_knownSetting, .ref bk, .ref st, .ref j2, .ref jd, .ref tr_ranks, .ref tr_keptSpeed])), (st, .inr (9, [.ref st_open, .ref st_speed, .ref st_fallen, .ref st_fire, .int st_mark, .int st_moreIn, .int st_more, .ref bk])), (bk, .inr (0, [.int (nI bw), .ref bk_tail, .ref bk_head, .ref bk_hinder, .ref bk_size, .ref bk_walk, .ref bk_draught, .ref bk_doorIn, .ref bk_fanIn, .ref bk_faceIn, .int (nI bn), .int bk_day, .ref gr])), (gr, .inr (3, [.int (nI gd), .ref gr_doorBy, .int (nI gp), .ref gr_pairFirst, .ref gr_pairSecond, .int (nI gf), .ref gr_fanPush, .ref gr_fanFall, .ref gr_fanCost, .int (nI ge), .ref gr_faceWay, .ref gr_faceGas, .ref gr_faceNeed])), (st_speed, .inl (k_st_speed, 4, .inl f_st_speed))] U.heap ∧ va_K (dC, dI) classes [(k_st_speed, .int)] U ∧ va_D (fun q => n0 ≤ q) [(tr, .inr (10, [.int tr_settingKnown, .int tr_knownSetting, .ref bk, .ref st, .ref j2, .ref jd, .ref tr_ranks, .ref tr_keptSpeed])), (st, .inr (9, [.ref st_open, .ref st_speed, .ref st_fallen, .ref st_fire, .int st_mark, .int st_moreIn, .int st_more, .ref bk])), (bk, .inr (0, [.int (nI bw), .ref bk_tail, .ref bk_head, .ref bk_hinder, .ref bk_size, .ref bk_walk, .ref bk_draught, .ref bk_doorIn, .ref bk_fanIn, .ref bk_faceIn, .int (nI bn), .int bk_day, .ref gr])), (gr, .inr (3, [.int (nI gd), .ref gr_doorBy, .int (nI gp), .ref gr_pairFirst, .ref gr_pairSecond, .int (nI gf), .ref gr_fanPush, .ref gr_fanFall, .ref gr_fanCost, .int (nI ge), .ref gr_faceWay, .ref gr_faceGas, .ref gr_faceNeed])), (st_speed, .inl (k_st_speed, 4, .inl f_st_speed))])) (va_Qi (fun (r : Int32) (_ : Unit) => True) (fun (_ : Unit) (t : State) => ∃ (sp9 : Nat → Int32), va_P (dC, dI) classes [(tr, .inr (10, [.int tr_settingKnown, .int tr_knownSetting, .ref bk, .ref st, .ref j2, .ref jd, .ref tr_ranks, .ref tr_keptSpeed])), (st, .inr (9, [.ref st_open, .ref st_speed, .ref st_fallen, .ref st_fire, .int st_mark, .int st_moreIn, .int st_more, .ref bk])), (bk, .inr (0, [.int (nI bw), .ref bk_tail, .ref bk_head, .ref bk_hinder, .ref bk_size, .ref bk_walk, .ref bk_draught, .ref bk_doorIn, .ref bk_fanIn, .ref bk_faceIn, .int (nI bn), .int bk_day, .ref gr])), (gr, .inr (3, [.int (nI gd), .ref gr_doorBy, .int (nI gp), .ref gr_pairFirst, .ref gr_pairSecond, .int (nI gf), .ref gr_fanPush, .ref gr_fanFall, .ref gr_fanCost, .int (nI ge), .ref gr_faceWay, .ref gr_faceGas, .ref gr_faceNeed])), (st_speed, .inl (k_st_speed, 4, .inl sp9))] t.heap ∧ va_K (dC, dI) classes [(k_st_speed, .int)] t ∧ va_D (va_A [(tr, .inr (10, [.int tr_settingKnown, .int tr_knownSetting, .ref bk, .ref st, .ref j2, .ref jd, .ref tr_ranks, .ref tr_keptSpeed])), (st, .inr (9, [.ref st_open, .ref st_speed, .ref st_fallen, .ref st_fire, .int st_mark, .int st_moreIn, .int st_more, .ref bk])), (bk, .inr (0, [.int (nI bw), .ref bk_tail, .ref bk_head, .ref bk_hinder, .ref bk_size, .ref bk_walk, .ref bk_draught, .ref bk_doorIn, .ref bk_fanIn, .ref bk_faceIn, .int (nI bn), .int bk_day, .ref gr])), (gr, .inr (3, [.int (nI gd), .ref gr_doorBy, .int (nI gp), .ref gr_pairFirst, .ref gr_pairSecond, .int (nI gf), .ref gr_fanPush, .ref gr_fanFall, .ref gr_fanCost, .int (nI ge), .ref gr_faceWay, .ref gr_faceGas, .ref gr_faceNeed])), (st_speed, .inl (k_st_speed, 4, .inl f_st_speed))] sz) [(tr, .inr (10, [.int tr_settingKnown, .int tr_knownSetting, .ref bk, .ref st, .ref j2, .ref jd, .ref tr_ranks, .ref tr_keptSpeed])), (st, .inr (9, [.ref st_open, .ref st_speed, .ref st_fallen, .ref st_fire, .int st_mark, .int st_moreIn, .int st_more, .ref bk])), (bk, .inr (0, [.int (nI bw), .ref bk_tail, .ref bk_head, .ref bk_hinder, .ref bk_size, .ref bk_walk, .ref bk_draught, .ref bk_doorIn, .ref bk_fanIn, .ref bk_faceIn, .int (nI bn), .int bk_day, .ref gr])), (gr, .inr (3, [.int (nI gd), .ref gr_doorBy, .int (nI gp), .ref gr_pairFirst, .ref gr_pairSecond, .int (nI gf), .ref gr_fanPush, .ref gr_fanFall, .ref gr_fanCost, .int (nI ge), .ref gr_faceWay, .ref gr_faceGas, .ref gr_faceNeed])), (st_speed, .inl (k_st_speed, 4, .inl sp9))]) (va_A [(tr, .inr (10, [.int tr_settingKnown, .int tr_knownSetting, .ref bk, .ref st, .ref j2, .ref jd, .ref tr_ranks, .ref tr_keptSpeed])), (st, .inr (9, [.ref st_open, .ref st_speed, .ref st_fallen, .ref st_fire, .int st_mark, .int st_moreIn, .int st_more, .ref bk])), (bk, .inr (0, [.int (nI bw), .ref bk_tail, .ref bk_head, .ref bk_hinder, .ref bk_size, .ref bk_walk, .ref bk_draught, .ref bk_doorIn, .ref bk_fanIn, .ref bk_faceIn, .int (nI bn), .int bk_day, .ref gr])), (gr, .inr (3, [.int (nI gd), .ref gr_doorBy, .int (nI gp), .ref gr_pairFirst, .ref gr_pairSecond, .int (nI gf), .ref gr_fanPush, .ref gr_fanFall, .ref gr_fanCost, .int (nI ge), .ref gr_faceWay, .ref gr_faceGas, .ref gr_faceNeed])), (st_speed, .inl (k_st_speed, 4, .inl f_st_speed))] sz)) 0 0 (va_A [(tr, .inr (10, [.int tr_settingKnown, .int tr_knownSetting, .ref bk, .ref st, .ref j2, .ref jd, .ref tr_ranks, .ref tr_keptSpeed])), (st, .inr (9, [.ref st_open, .ref st_speed, .ref st_fallen, .ref st_fire, .int st_mark, .int st_moreIn, .int st_more, .ref bk])), (bk, .inr (0, [.int (nI bw), .ref bk_tail, .ref bk_head, .ref bk_hinder, .ref bk_size, .ref bk_walk, .ref bk_draught, .ref bk_doorIn, .ref bk_fanIn, .ref bk_faceIn, .int (nI bn), .int bk_day, .ref gr])), (gr, .inr (3, [.int (nI gd), .ref gr_doorBy, .int (nI gp), .ref gr_pairFirst, .ref gr_pairSecond, .int (nI gf), .ref gr_fanPush, .ref gr_fanFall, .ref gr_fanCost, .int (nI ge), .ref gr_faceWay, .ref gr_faceGas, .ref gr_faceNeed])), (st_speed, .inl (k_st_speed, 4, .inl f_st_speed))] sz) := by
  refine Met.ofW (cc := cX10_takeSetting) (maxL := 5) (ret := (some .int)) (by decide) rfl ?_
  intro p e s m args below meth c s₁ B hml hv
  obtain ⟨rfl, hsz, hn0, hG, hP, hK, hD0⟩ := hv
  have hx := B.exec
  have hb := B.bytes
  have hr := B.returns
  have hts := atoms_spec (ws := wM yX10_takeSetting cX10_takeSetting 5 (some .int)) B.pre
  have hown : s.vm.findClass RX10 = some m.cls := findClass_of_methodNamed B.named
  have hlocks := B.notSynchronized
  subst hsz
  have hD := hD0.self (sz := s.heap.size)
  have hA0 := vA_n0 hD0 hn0
  generalize hAe : va_A [(tr, .inr (10, [.int tr_settingKnown, .int tr_knownSetting, .ref bk, .ref st, .ref j2, .ref jd, .ref tr_ranks, .ref tr_keptSpeed])), (st, .inr (9, [.ref st_open, .ref st_speed, .ref st_fallen, .ref st_fire, .int st_mark, .int st_moreIn, .int st_more, .ref bk])), (bk, .inr (0, [.int (nI bw), .ref bk_tail, .ref bk_head, .ref bk_hinder, .ref bk_size, .ref bk_walk, .ref bk_draught, .ref bk_doorIn, .ref bk_fanIn, .ref bk_faceIn, .int (nI bn), .int bk_day, .ref gr])), (gr, .inr (3, [.int (nI gd), .ref gr_doorBy, .int (nI gp), .ref gr_pairFirst, .ref gr_pairSecond, .int (nI gf), .ref gr_fanPush, .ref gr_fanFall, .ref gr_fanCost, .int (nI ge), .ref gr_faceWay, .ref gr_faceGas, .ref gr_faceNeed])), (st_speed, .inl (k_st_speed, 4, .inl f_st_speed))] s.heap.size = A at hD hA0 ⊢
  have hA : ∀ q : Nat, s.heap.size ≤ q → A q := fun q h => by rw [← hAe]; exact Or.inr h
  have hS : va_S A s.heap s.heap [] := va_S.rf
  have hl := lv_entry ([.ref tr, .int cd]) (n := 5) (Nat.le_of_ble_eq_true rfl)
  rw [lg_entry_eq]
  generalize (lg_sl ([.ref tr, .int cd]) ++ List.replicate (5 - (lg_sl ([.ref tr, .int cd])).length) Slot.unset).toArray = ls at hl ⊢
  have hl : lv_has ls 5 [(0, .ref tr), (1, .int cd)] := hl
  refine lv_iload_n hx hb dX10_takeSetting_0 rfl (lv_at hl 1 rfl) ?_
  refine lv_istore_n (lv' := [(2, .int cd), (0, .ref tr), (1, .int cd)]) hx hb dX10_takeSetting_1 rfl hl (by decide) rfl (fun ls hl => ?_)
  refine lv_iconst (v := 0) hx hb dX10_takeSetting_2 (by decide) ?_
  refine lv_istore_n (lv' := [(3, .int 0), (2, .int cd), (0, .ref tr), (1, .int cd)]) hx hb dX10_takeSetting_3 rfl hl (by decide) rfl (fun ls hl => ?_)
  refine lv_aload_n hx hb dX10_takeSetting_4 rfl (lv_at hl 2 rfl) ?_
  refine va_get (D := (dC, dI)) (ci := 10) (v := .ref bk) (C := RX10) (T := TX10) (N := 8) hx hb hts (fun w h => wM_c (iX10 w h)) hown hK hP 0 rfl rfl 2 (by decide) (hts _ (wM_c wd_543)) (fun _ h9 => h9) rfl dX10_takeSetting_5 ?_
  refine va_get (D := (dC, dI)) (ci := 0) (v := .ref gr) (C := RX0) (T := TX0) (N := 13) hx hb hts (fun w h => wM_c (iX0 w h)) hown hK hP 2 rfl rfl 12 (by decide) (hts _ (wM_c wd_294)) (fun _ h9 => h9) rfl dX10_takeSetting_8 ?_
  refine va_get (D := (dC, dI)) (ci := 3) (v := .int (nI gf)) (C := RX3) (T := TX3) (N := 13) hx hb hts (fun w h => wM_c (iX3 w h)) hown hK hP 3 rfl rfl 5 (by decide) (hts _ (wM_c wd_180)) (fun _ h9 => h9) rfl dX10_takeSetting_11 ?_
  refine lv_iconst (v := 1) hx hb dX10_takeSetting_14 (by decide) ?_
  refine lv_isub hx hb dX10_takeSetting_15 ?_
  refine lv_topi (fun v_1 ev_1 => ?_)
  have z8 : (nI gf).toInt = ((gf : Nat) : Int) := nI_toInt (by omega)
  have z9 : (1 : Int32).toInt = 1 := rfl
  have g_2 : v_1.toInt = ((gf : Nat) : Int) - (1 : Int) := by have h9 := i_sub (x := (nI gf)) (y := 1) (by omega) (by omega); rw [← ev_1] at h9; omega
  refine lv_istore (lv' := [(4, .int v_1), (3, .int 0), (2, .int cd), (0, .ref tr), (1, .int cd)]) hx hb dX10_takeSetting_16 hl (by decide) rfl (fun ls hl => ?_)
  refine W_lp4 (I := fun (rs : Int32) (an1 : Int32) (ff : Int32) (sp1 : Nat → Int32) H locs ls => (-1 ≤ ff.toInt ∧ ff.toInt < 4) ∧ va_P (dC, dI) classes [(tr, .inr (10, [.int tr_settingKnown, .int tr_knownSetting, .ref bk, .ref st, .ref j2, .ref jd, .ref tr_ranks, .ref tr_keptSpeed])), (st, .inr (9, [.ref st_open, .ref st_speed, .ref st_fallen, .ref st_fire, .int st_mark, .int st_moreIn, .int st_more, .ref bk])), (bk, .inr (0, [.int (nI bw), .ref bk_tail, .ref bk_head, .ref bk_hinder, .ref bk_size, .ref bk_walk, .ref bk_draught, .ref bk_doorIn, .ref bk_fanIn, .ref bk_faceIn, .int (nI bn), .int bk_day, .ref gr])), (gr, .inr (3, [.int (nI gd), .ref gr_doorBy, .int (nI gp), .ref gr_pairFirst, .ref gr_pairSecond, .int (nI gf), .ref gr_fanPush, .ref gr_fanFall, .ref gr_fanCost, .int (nI ge), .ref gr_faceWay, .ref gr_faceGas, .ref gr_faceNeed])), (st_speed, .inl (k_st_speed, 4, .inl sp1))] H ∧ va_D A [(tr, .inr (10, [.int tr_settingKnown, .int tr_knownSetting, .ref bk, .ref st, .ref j2, .ref jd, .ref tr_ranks, .ref tr_keptSpeed])), (st, .inr (9, [.ref st_open, .ref st_speed, .ref st_fallen, .ref st_fire, .int st_mark, .int st_moreIn, .int st_more, .ref bk])), (bk, .inr (0, [.int (nI bw), .ref bk_tail, .ref bk_head, .ref bk_hinder, .ref bk_size, .ref bk_walk, .ref bk_draught, .ref bk_doorIn, .ref bk_fanIn, .ref bk_faceIn, .int (nI bn), .int bk_day, .ref gr])), (gr, .inr (3, [.int (nI gd), .ref gr_doorBy, .int (nI gp), .ref gr_pairFirst, .ref gr_pairSecond, .int (nI gf), .ref gr_fanPush, .ref gr_fanFall, .ref gr_fanCost, .int (nI ge), .ref gr_faceWay, .ref gr_faceGas, .ref gr_faceNeed])), (st_speed, .inl (k_st_speed, 4, .inl sp1))] ∧ va_S A s.heap H locs ∧ lv_has ls 5 [(0, .ref tr), (2, .int rs), (3, .int an1), (4, .int ff)]) (μ := fun (rs : Int32) (an1 : Int32) (ff : Int32) (sp1 : Nat → Int32) => (ff.toInt + 1).toNat) ?_ cd 0 v_1 f_st_speed _ _ _ ⟨(by omega), hP, hD, hS, lv_sub hl [3, 2, 1, 0] rfl⟩
  intro rs an1 ff sp1 H locs ls hI ih_3
  obtain ⟨hff, hP, hD, hS, hl⟩ := hI
  refine lv_iload hx hb dX10_takeSetting_18 (lv_at hl 3 rfl) ?_
  refine lv_if_lt (tgt := 54) hx hb dX10_takeSetting_20 (by decide) (fun c_4 => ?_) (fun c_4 => ?_)
  · skip
    have g_5 : ff.toInt < (0 : Int) := i_lt c_4
    refine lv_iload_n hx hb dX10_takeSetting_54 rfl (lv_at hl 2 rfl) ?_
    have hK9 := hK.sub (tys' := [(k_st_speed, .int)]) [0] rfl
    exact W.iret (v := an1) hx hb hr (fun t ht hW => ⟨⟨an1, (), rfl, trivial, sp1, by rw [ht]; exact hP.sub [0, 1, 2, 3, 4] rfl, va_K.moved hW.alike hK9, hD.sub [0, 1, 2, 3, 4] (by decide) rfl⟩, hS.F ht⟩) hS.2.2 dX10_takeSetting_55
  · skip
    have g_6 : (0 : Int) ≤ ff.toInt := i_nlt c_4
    refine lv_aload_n hx hb dX10_takeSetting_23 rfl (lv_at hl 0 rfl) ?_
    refine va_get (D := (dC, dI)) (ci := 10) (v := .ref st) (C := RX10) (T := TX10) (N := 8) hx hb hts (fun w h => wM_c (iX10 w h)) hown hK hP 0 rfl rfl 3 (by decide) (hts _ (wM_c wd_544)) (fun _ h9 => h9) rfl dX10_takeSetting_24 ?_
    refine va_get (D := (dC, dI)) (ci := 9) (v := .ref st_speed) (C := RX9) (T := TX9) (N := 8) hx hb hts (fun w h => wM_c (iX9 w h)) hown hK hP 1 rfl rfl 1 (by decide) (hts _ (wM_c wd_393)) (fun _ h9 => h9) rfl dX10_takeSetting_27 ?_
    refine lv_iload hx hb dX10_takeSetting_30 (lv_at hl 3 rfl) ?_
    refine lv_iload_n hx hb dX10_takeSetting_32 rfl (lv_at hl 1 rfl) ?_
    refine lv_iconst (v := 4) hx hb dX10_takeSetting_33 (by decide) ?_
    refine lv_irem hx hb dX10_takeSetting_34 (by decide) ?_
    refine lv_topi (fun v_7 ev_7 => ?_)
    refine va_iast hx hb hK hP hD hS 4 0 rfl rfl (by first | with_reducible assumption | exact vp_in_iff.mpr (by omega)) dX10_takeSetting_35 (fun H locs hP hD hS => ?_)
    obtain ⟨f_8, ef_8⟩ : ∃ f9, f9 = (upd sp1 ff.toNatClampNeg v_7) := ⟨_, rfl⟩
    obtain ⟨hP, hD⟩ : s3_w (dC, dI) classes A [(tr, .inr (10, [.int tr_settingKnown, .int tr_knownSetting, .ref bk, .ref st, .ref j2, .ref jd, .ref tr_ranks, .ref tr_keptSpeed])), (st, .inr (9, [.ref st_open, .ref st_speed, .ref st_fallen, .ref st_fire, .int st_mark, .int st_moreIn, .int st_more, .ref bk])), (bk, .inr (0, [.int (nI bw), .ref bk_tail, .ref bk_head, .ref bk_hinder, .ref bk_size, .ref bk_walk, .ref bk_draught, .ref bk_doorIn, .ref bk_fanIn, .ref bk_faceIn, .int (nI bn), .int bk_day, .ref gr])), (gr, .inr (3, [.int (nI gd), .ref gr_doorBy, .int (nI gp), .ref gr_pairFirst, .ref gr_pairSecond, .int (nI gf), .ref gr_fanPush, .ref gr_fanFall, .ref gr_fanCost, .int (nI ge), .ref gr_faceWay, .ref gr_faceGas, .ref gr_faceNeed])), (st_speed, .inl (k_st_speed, 4, .inl f_8))] H := ⟨(by rw [ef_8]; exact hP), (by rw [ef_8]; exact hD)⟩
    refine lv_iload_n hx hb dX10_takeSetting_36 rfl (lv_at hl 2 rfl) ?_
    refine lv_iconst (v := 4) hx hb dX10_takeSetting_37 (by decide) ?_
    refine lv_imul hx hb dX10_takeSetting_38 ?_
    refine lv_topi (fun v_9 ev_9 => ?_)
    refine lv_iload_n hx hb dX10_takeSetting_39 rfl (lv_at hl 1 rfl) ?_
    refine lv_iconst (v := 4) hx hb dX10_takeSetting_40 (by decide) ?_
    refine lv_irem hx hb dX10_takeSetting_41 (by decide) ?_
    refine lv_topi (fun v_10 ev_10 => ?_)
    refine lv_iadd hx hb dX10_takeSetting_42 ?_
    refine lv_topi (fun v_11 ev_11 => ?_)
    refine lv_istore_n (lv' := [(3, .int v_11), (0, .ref tr), (2, .int rs), (4, .int ff)]) hx hb dX10_takeSetting_43 rfl hl (by decide) rfl (fun ls hl => ?_)
    refine lv_iload_n hx hb dX10_takeSetting_44 rfl (lv_at hl 2 rfl) ?_
    refine lv_iconst (v := 4) hx hb dX10_takeSetting_45 (by decide) ?_
    refine lv_idiv hx hb dX10_takeSetting_46 (by decide) ?_
    refine lv_topi (fun v_12 ev_12 => ?_)
    refine lv_istore_n (lv' := [(2, .int v_12), (3, .int v_11), (0, .ref tr), (4, .int ff)]) hx hb dX10_takeSetting_47 rfl hl (by decide) rfl (fun ls hl => ?_)
    obtain ⟨v_13, ev_13⟩ : ∃ y : Int32, y = ff + (-1) := ⟨_, rfl⟩
    refine lv_iinc (v := v_13) (lv' := [(4, .int v_13), (2, .int v_12), (3, .int v_11), (0, .ref tr)]) hx hb dX10_takeSetting_48 hl (k := 3) rfl (by rw [ev_13]; rfl) (by decide) rfl (fun ls hl => ?_)
    refine lv_goto (tgt := 18) hx hb dX10_takeSetting_51 (by decide) ?_
    exact ih_3 v_12 v_11 v_13 f_8 _ _ _ ⟨(by have h9 := decI ev_13 (by omega) (by omega); omega), hP.sub [0, 1, 2, 3, 4] rfl, hD.sub [0, 1, 2, 3, 4] (by decide) rfl, hS, lv_sub hl [3, 1, 2, 0] rfl⟩ (by have h9 := decI ev_13 (by omega) (by omega); omega)
set_option maxHeartbeats 4000000 in
set_option maxRecDepth 100000 in
theorem c10_rankSettings (l : Launch) (dC : Nat → ClassId) (dI : Nat → Nat → Nat) (n0 : Nat) (atx : Nat → Nat × Nat) (sz : Nat) (tr : Nat) (tr_settingKnown : Int32) (tr_knownSetting : Int32) (bk : Nat) (st : Nat) (j2 : Nat) (jd : Nat) (tr_ranks : Nat) (tr_keptSpeed : Nat) (bw : Nat) (bk_tail : Nat) (bk_head : Nat) (bk_hinder : Nat) (bk_size : Nat) (bk_walk : Nat) (bk_draught : Nat) (bk_doorIn : Nat) (bk_fanIn : Nat) (bk_faceIn : Nat) (bn : Nat) (bk_day : Int32) (gr : Nat) (gd : Nat) (gr_doorBy : Nat) (gp : Nat) (gr_pairFirst : Nat) (gr_pairSecond : Nat) (gf : Nat) (gr_fanPush : Nat) (gr_fanFall : Nat) (gr_fanCost : Nat) (ge : Nat) (gr_faceWay : Nat) (gr_faceGas : Nat) (gr_faceNeed : Nat) (k_tr_ranks : ClassId) (f_tr_ranks : Nat → Int32) (k_gr_fanCost : ClassId) (f_gr_fanCost : Nat → Int32) (hbw : bw ≤ 14) (hbn : bn ≤ 10) (hgd : gd ≤ 6) (hgp : gp ≤ 3) (hgf : gf ≤ 4) (hge : ge ≤ 4) (q_day : -1 ≤ bk_day.toInt ∧ bk_day.toInt < 10) : Met l yX10_rankSettings (wM yX10_rankSettings cX10_rankSettings 6 (some .int)) ({ frames := 1, cells := 0, slots := 0, locals := 26 }) (va_Pc [.ref tr] (fun U => U.heap.size = sz ∧ n0 ≤ sz ∧ GW n0 atx U ∧ va_P (dC, dI) classes [(tr, .inr (10, [.int tr_settingKnown, .int tr_knownSetting, .ref bk, .ref st, .ref j2, .ref jd, .ref tr_ranks, .ref tr_keptSpeed])), (bk, .inr (0, [.int (nI bw), .ref bk_tail, .ref bk_head, .ref bk_hinder, .ref bk_size, .ref bk_walk, .ref bk_draught, .ref bk_doorIn, .ref bk_fanIn, .ref bk_faceIn, .int (nI bn), .int bk_day, .ref gr])), (gr, .inr (3, [.int (nI gd), .ref gr_doorBy, .int (nI gp), .ref gr_pairFirst, .ref gr_pairSecond, .int (nI gf), .ref gr_fanPush, .ref gr_fanFall, .ref gr_fanCost, .int (nI ge), .ref gr_faceWay, .ref gr_faceGas, .ref gr_faceNeed])), (tr_ranks, .inl (k_tr_ranks, 256, .inl f_tr_ranks)), (gr_fanCost, .inl (k_gr_fanCost, 4, .inl f_gr_fanCost))] U.heap ∧ va_K (dC, dI) classes [(k_tr_ranks, .int), (k_gr_fanCost, .int)] U ∧ va_D (fun q => n0 ≤ q) [(tr, .inr (10, [.int tr_settingKnown, .int tr_knownSetting, .ref bk, .ref st, .ref j2, .ref jd, .ref tr_ranks, .ref tr_keptSpeed])), (bk, .inr (0, [.int (nI bw), .ref bk_tail, .ref bk_head, .ref bk_hinder, .ref bk_size, .ref bk_walk, .ref bk_draught, .ref bk_doorIn, .ref bk_fanIn, .ref bk_faceIn, .int (nI bn), .int bk_day, .ref gr])), (gr, .inr (3, [.int (nI gd), .ref gr_doorBy, .int (nI gp), .ref gr_pairFirst, .ref gr_pairSecond, .int (nI gf), .ref gr_fanPush, .ref gr_fanFall, .ref gr_fanCost, .int (nI ge), .ref gr_faceWay, .ref gr_faceGas, .ref gr_faceNeed])), (tr_ranks, .inl (k_tr_ranks, 256, .inl f_tr_ranks)), (gr_fanCost, .inl (k_gr_fanCost, 4, .inl f_gr_fanCost))])) (va_Qi (fun (r : Int32) (_ : Unit) => 1 ≤ r.toInt ∧ r.toInt ≤ 256) (fun (_ : Unit) (t : State) => ∃ (ra9 : Nat → Int32), va_P (dC, dI) classes [(tr, .inr (10, [.int tr_settingKnown, .int tr_knownSetting, .ref bk, .ref st, .ref j2, .ref jd, .ref tr_ranks, .ref tr_keptSpeed])), (bk, .inr (0, [.int (nI bw), .ref bk_tail, .ref bk_head, .ref bk_hinder, .ref bk_size, .ref bk_walk, .ref bk_draught, .ref bk_doorIn, .ref bk_fanIn, .ref bk_faceIn, .int (nI bn), .int bk_day, .ref gr])), (gr, .inr (3, [.int (nI gd), .ref gr_doorBy, .int (nI gp), .ref gr_pairFirst, .ref gr_pairSecond, .int (nI gf), .ref gr_fanPush, .ref gr_fanFall, .ref gr_fanCost, .int (nI ge), .ref gr_faceWay, .ref gr_faceGas, .ref gr_faceNeed])), (tr_ranks, .inl (k_tr_ranks, 256, .inl ra9)), (gr_fanCost, .inl (k_gr_fanCost, 4, .inl f_gr_fanCost))] t.heap ∧ va_K (dC, dI) classes [(k_tr_ranks, .int), (k_gr_fanCost, .int)] t ∧ va_D (va_A [(tr, .inr (10, [.int tr_settingKnown, .int tr_knownSetting, .ref bk, .ref st, .ref j2, .ref jd, .ref tr_ranks, .ref tr_keptSpeed])), (bk, .inr (0, [.int (nI bw), .ref bk_tail, .ref bk_head, .ref bk_hinder, .ref bk_size, .ref bk_walk, .ref bk_draught, .ref bk_doorIn, .ref bk_fanIn, .ref bk_faceIn, .int (nI bn), .int bk_day, .ref gr])), (gr, .inr (3, [.int (nI gd), .ref gr_doorBy, .int (nI gp), .ref gr_pairFirst, .ref gr_pairSecond, .int (nI gf), .ref gr_fanPush, .ref gr_fanFall, .ref gr_fanCost, .int (nI ge), .ref gr_faceWay, .ref gr_faceGas, .ref gr_faceNeed])), (tr_ranks, .inl (k_tr_ranks, 256, .inl f_tr_ranks)), (gr_fanCost, .inl (k_gr_fanCost, 4, .inl f_gr_fanCost))] sz) [(tr, .inr (10, [.int tr_settingKnown, .int tr_knownSetting, .ref bk, .ref st, .ref j2, .ref jd, .ref tr_ranks, .ref tr_keptSpeed])), (bk, .inr (0, [.int (nI bw), .ref bk_tail, .ref bk_head, .ref bk_hinder, .ref bk_size, .ref bk_walk, .ref bk_draught, .ref bk_doorIn, .ref bk_fanIn, .ref bk_faceIn, .int (nI bn), .int bk_day, .ref gr])), (gr, .inr (3, [.int (nI gd), .ref gr_doorBy, .int (nI gp), .ref gr_pairFirst, .ref gr_pairSecond, .int (nI gf), .ref gr_fanPush, .ref gr_fanFall, .ref gr_fanCost, .int (nI ge), .ref gr_faceWay, .ref gr_faceGas, .ref gr_faceNeed])), (tr_ranks, .inl (k_tr_ranks, 256, .inl ra9)), (gr_fanCost, .inl (k_gr_fanCost, 4, .inl f_gr_fanCost))]) (va_A [(tr, .inr (10, [.int tr_settingKnown, .int tr_knownSetting, .ref bk, .ref st, .ref j2, .ref jd, .ref tr_ranks, .ref tr_keptSpeed])), (bk, .inr (0, [.int (nI bw), .ref bk_tail, .ref bk_head, .ref bk_hinder, .ref bk_size, .ref bk_walk, .ref bk_draught, .ref bk_doorIn, .ref bk_fanIn, .ref bk_faceIn, .int (nI bn), .int bk_day, .ref gr])), (gr, .inr (3, [.int (nI gd), .ref gr_doorBy, .int (nI gp), .ref gr_pairFirst, .ref gr_pairSecond, .int (nI gf), .ref gr_fanPush, .ref gr_fanFall, .ref gr_fanCost, .int (nI ge), .ref gr_faceWay, .ref gr_faceGas, .ref gr_faceNeed])), (tr_ranks, .inl (k_tr_ranks, 256, .inl f_tr_ranks)), (gr_fanCost, .inl (k_gr_fanCost, 4, .inl f_gr_fanCost))] sz)) 0 0 (va_A [(tr, .inr (10, [.int tr_settingKnown, .int tr_knownSetting, .ref bk, .ref st, .ref j2, .ref jd, .ref tr_ranks, .ref tr_keptSpeed])), (bk, .inr (0, [.int (nI bw), .ref bk_tail, .ref bk_head, .ref bk_hinder, .ref bk_size, .ref bk_walk, .ref bk_draught, .ref bk_doorIn, .ref bk_fanIn, .ref bk_faceIn, .int (nI bn), .int bk_day, .ref gr])), (gr, .inr (3, [.int (nI gd), .ref gr_doorBy, .int (nI gp), .ref gr_pairFirst, .ref gr_pairSecond, .int (nI gf), .ref gr_fanPush, .ref gr_fanFall, .ref gr_fanCost, .int (nI ge), .ref gr_faceWay, .ref gr_faceGas, .ref gr_faceNeed])), (tr_ranks, .inl (k_tr_ranks, 256, .inl f_tr_ranks)), (gr_fanCost, .inl (k_gr_fanCost, 4, .inl f_gr_fanCost))] sz) := by
  refine Met.ofW (cc := cX10_rankSettings) (maxL := 6) (ret := (some .int)) (by decide) rfl ?_
  intro p e s m args below meth c s₁ B hml hv
  obtain ⟨rfl, hsz, hn0, hG, hP, hK, hD0⟩ := hv
  have hx := B.exec
  have hb := B.bytes
  have hr := B.returns
  have hts := atoms_spec (ws := wM yX10_rankSettings cX10_rankSettings 6 (some .int)) B.pre
  have hown : s.vm.findClass RX10 = some m.cls := findClass_of_methodNamed B.named
  have hlocks := B.notSynchronized
  subst hsz
  have hD := hD0.self (sz := s.heap.size)
  have hA0 := vA_n0 hD0 hn0
  generalize hAe : va_A [(tr, .inr (10, [.int tr_settingKnown, .int tr_knownSetting, .ref bk, .ref st, .ref j2, .ref jd, .ref tr_ranks, .ref tr_keptSpeed])), (bk, .inr (0, [.int (nI bw), .ref bk_tail, .ref bk_head, .ref bk_hinder, .ref bk_size, .ref bk_walk, .ref bk_draught, .ref bk_doorIn, .ref bk_fanIn, .ref bk_faceIn, .int (nI bn), .int bk_day, .ref gr])), (gr, .inr (3, [.int (nI gd), .ref gr_doorBy, .int (nI gp), .ref gr_pairFirst, .ref gr_pairSecond, .int (nI gf), .ref gr_fanPush, .ref gr_fanFall, .ref gr_fanCost, .int (nI ge), .ref gr_faceWay, .ref gr_faceGas, .ref gr_faceNeed])), (tr_ranks, .inl (k_tr_ranks, 256, .inl f_tr_ranks)), (gr_fanCost, .inl (k_gr_fanCost, 4, .inl f_gr_fanCost))] s.heap.size = A at hD hA0 ⊢
  have hA : ∀ q : Nat, s.heap.size ≤ q → A q := fun q h => by rw [← hAe]; exact Or.inr h
  have hS : va_S A s.heap s.heap [] := va_S.rf
  have hl := lv_entry ([.ref tr]) (n := 6) (Nat.le_of_ble_eq_true rfl)
  rw [lg_entry_eq]
  generalize (lg_sl ([.ref tr]) ++ List.replicate (6 - (lg_sl ([.ref tr])).length) Slot.unset).toArray = ls at hl ⊢
  have hl : lv_has ls 6 [(0, .ref tr)] := hl
  refine lv_iconst (v := 1) hx hb dX10_rankSettings_0 (by decide) ?_
  refine lv_istore_n (lv' := [(1, .int 1), (0, .ref tr)]) hx hb dX10_rankSettings_1 rfl hl (by decide) rfl (fun ls hl => ?_)
  refine lv_iconst (v := 0) hx hb dX10_rankSettings_2 (by decide) ?_
  refine lv_istore_n (lv' := [(2, .int 0), (1, .int 1), (0, .ref tr)]) hx hb dX10_rankSettings_3 rfl hl (by decide) rfl (fun ls hl => ?_)
  refine W_lp2 (I := fun (ct : Nat) (i0 : Nat) H locs ls => (i0 ≤ gf) ∧ ((i0 = 0 ∧ ct = 1) ∨ (i0 = 1 ∧ ct = 4) ∨ (i0 = 2 ∧ ct = 16) ∨ (i0 = 3 ∧ ct = 64) ∨ (i0 = 4 ∧ ct = 256)) ∧ va_P (dC, dI) classes [(tr, .inr (10, [.int tr_settingKnown, .int tr_knownSetting, .ref bk, .ref st, .ref j2, .ref jd, .ref tr_ranks, .ref tr_keptSpeed])), (bk, .inr (0, [.int (nI bw), .ref bk_tail, .ref bk_head, .ref bk_hinder, .ref bk_size, .ref bk_walk, .ref bk_draught, .ref bk_doorIn, .ref bk_fanIn, .ref bk_faceIn, .int (nI bn), .int bk_day, .ref gr])), (gr, .inr (3, [.int (nI gd), .ref gr_doorBy, .int (nI gp), .ref gr_pairFirst, .ref gr_pairSecond, .int (nI gf), .ref gr_fanPush, .ref gr_fanFall, .ref gr_fanCost, .int (nI ge), .ref gr_faceWay, .ref gr_faceGas, .ref gr_faceNeed])), (tr_ranks, .inl (k_tr_ranks, 256, .inl f_tr_ranks)), (gr_fanCost, .inl (k_gr_fanCost, 4, .inl f_gr_fanCost))] H ∧ va_D A [(tr, .inr (10, [.int tr_settingKnown, .int tr_knownSetting, .ref bk, .ref st, .ref j2, .ref jd, .ref tr_ranks, .ref tr_keptSpeed])), (bk, .inr (0, [.int (nI bw), .ref bk_tail, .ref bk_head, .ref bk_hinder, .ref bk_size, .ref bk_walk, .ref bk_draught, .ref bk_doorIn, .ref bk_fanIn, .ref bk_faceIn, .int (nI bn), .int bk_day, .ref gr])), (gr, .inr (3, [.int (nI gd), .ref gr_doorBy, .int (nI gp), .ref gr_pairFirst, .ref gr_pairSecond, .int (nI gf), .ref gr_fanPush, .ref gr_fanFall, .ref gr_fanCost, .int (nI ge), .ref gr_faceWay, .ref gr_faceGas, .ref gr_faceNeed])), (tr_ranks, .inl (k_tr_ranks, 256, .inl f_tr_ranks)), (gr_fanCost, .inl (k_gr_fanCost, 4, .inl f_gr_fanCost))] ∧ va_S A s.heap H locs ∧ lv_has ls 6 [(0, .ref tr), (1, .int (nI ct)), (2, .int (nI i0))]) (μ := fun (ct : Nat) (i0 : Nat) => gf - i0) ?_ 1 0 _ _ _ ⟨(by first | with_reducible assumption | omega | exact vp_in_iff.mpr (by omega) | exact vp_in_nI (by omega) (by omega) | exact ⟨by omega, by omega⟩), (Or.inl ⟨rfl, rfl⟩), hP, hD, hS, lv_sub hl [2, 1, 0] rfl⟩
  intro ct i0 H locs ls hI ih_1
  obtain ⟨hi0, hct, hP, hD, hS, hl⟩ := hI
  refine lv_iload_n hx hb dX10_rankSettings_4 rfl (lv_at hl 2 rfl) ?_
  refine lv_aload_n hx hb dX10_rankSettings_5 rfl (lv_at hl 0 rfl) ?_
  refine va_get (D := (dC, dI)) (ci := 10) (v := .ref bk) (C := RX10) (T := TX10) (N := 8) hx hb hts (fun w h => wM_c (iX10 w h)) hown hK hP 0 rfl rfl 2 (by decide) (hts _ (wM_c wd_543)) (fun _ h9 => h9) rfl dX10_rankSettings_6 ?_
  refine va_get (D := (dC, dI)) (ci := 0) (v := .ref gr) (C := RX0) (T := TX0) (N := 13) hx hb hts (fun w h => wM_c (iX0 w h)) hown hK hP 1 rfl rfl 12 (by decide) (hts _ (wM_c wd_294)) (fun _ h9 => h9) rfl dX10_rankSettings_9 ?_
  refine va_get (D := (dC, dI)) (ci := 3) (v := .int (nI gf)) (C := RX3) (T := TX3) (N := 13) hx hb hts (fun w h => wM_c (iX3 w h)) hown hK hP 2 rfl rfl 5 (by decide) (hts _ (wM_c wd_180)) (fun _ h9 => h9) rfl dX10_rankSettings_12 ?_
  refine lv_icmp_ge (tgt := 28) hx hb dX10_rankSettings_15 (by decide) (fun c_2 => ?_) (fun c_2 => ?_)
  · skip
    have g_3 := n_ge (a := i0) (b := gf) c_2 (by omega) (by omega)
    refine lv_iconst (v := 0) hx hb dX10_rankSettings_28 (by decide) ?_
    refine lv_istore_n (lv' := [(2, .int 0), (0, .ref tr), (1, .int (nI ct))]) hx hb dX10_rankSettings_29 rfl hl (by decide) rfl (fun ls hl => ?_)
    refine W_lp2 (I := fun (cd : Nat) (ra1 : Nat → Int32) H locs ls => (cd ≤ ct) ∧ va_P (dC, dI) classes [(tr, .inr (10, [.int tr_settingKnown, .int tr_knownSetting, .ref bk, .ref st, .ref j2, .ref jd, .ref tr_ranks, .ref tr_keptSpeed])), (bk, .inr (0, [.int (nI bw), .ref bk_tail, .ref bk_head, .ref bk_hinder, .ref bk_size, .ref bk_walk, .ref bk_draught, .ref bk_doorIn, .ref bk_fanIn, .ref bk_faceIn, .int (nI bn), .int bk_day, .ref gr])), (gr, .inr (3, [.int (nI gd), .ref gr_doorBy, .int (nI gp), .ref gr_pairFirst, .ref gr_pairSecond, .int (nI gf), .ref gr_fanPush, .ref gr_fanFall, .ref gr_fanCost, .int (nI ge), .ref gr_faceWay, .ref gr_faceGas, .ref gr_faceNeed])), (tr_ranks, .inl (k_tr_ranks, 256, .inl ra1)), (gr_fanCost, .inl (k_gr_fanCost, 4, .inl f_gr_fanCost))] H ∧ va_D A [(tr, .inr (10, [.int tr_settingKnown, .int tr_knownSetting, .ref bk, .ref st, .ref j2, .ref jd, .ref tr_ranks, .ref tr_keptSpeed])), (bk, .inr (0, [.int (nI bw), .ref bk_tail, .ref bk_head, .ref bk_hinder, .ref bk_size, .ref bk_walk, .ref bk_draught, .ref bk_doorIn, .ref bk_fanIn, .ref bk_faceIn, .int (nI bn), .int bk_day, .ref gr])), (gr, .inr (3, [.int (nI gd), .ref gr_doorBy, .int (nI gp), .ref gr_pairFirst, .ref gr_pairSecond, .int (nI gf), .ref gr_fanPush, .ref gr_fanFall, .ref gr_fanCost, .int (nI ge), .ref gr_faceWay, .ref gr_faceGas, .ref gr_faceNeed])), (tr_ranks, .inl (k_tr_ranks, 256, .inl ra1)), (gr_fanCost, .inl (k_gr_fanCost, 4, .inl f_gr_fanCost))] ∧ va_S A s.heap H locs ∧ lv_has ls 6 [(0, .ref tr), (1, .int (nI ct)), (2, .int (nI cd))]) (μ := fun (cd : Nat) (ra1 : Nat → Int32) => ct - cd) ?_ 0 f_tr_ranks _ _ _ ⟨(by first | with_reducible assumption | omega | exact vp_in_iff.mpr (by omega) | exact vp_in_nI (by omega) (by omega) | exact ⟨by omega, by omega⟩), hP, hD, hS, lv_sub hl [1, 2, 0] rfl⟩
    intro cd ra1 H locs ls hI ih_4
    obtain ⟨hcd, hP, hD, hS, hl⟩ := hI
    refine lv_iload_n hx hb dX10_rankSettings_30 rfl (lv_at hl 2 rfl) ?_
    refine lv_iload_n hx hb dX10_rankSettings_31 rfl (lv_at hl 1 rfl) ?_
    refine lv_icmp_ge (tgt := 111) hx hb dX10_rankSettings_32 (by decide) (fun c_5 => ?_) (fun c_5 => ?_)
    · skip
      have g_6 := n_ge (a := cd) (b := ct) c_5 (by omega) (by omega)
      refine va_gets hx hb (hG.2.2.2.2.2.2.2.2.1.narrow hA0) hS hown (hts _ (wM_c wd_1201)) (fun _ h => h) dX10_rankSettings_111 ?_
      refine lv_astore_n (lv' := [(2, .ref (atx 101).1), (0, .ref tr), (1, .int (nI ct))]) hx hb dX10_rankSettings_114 rfl hl (by decide) rfl (fun ls hl => ?_)
      refine lv_aload_n hx hb dX10_rankSettings_115 rfl (lv_at hl 0 rfl) ?_
      refine va_tlen (v := 5) hx hb (hG.2.2.2.2.2.2.2.2.2.1.narrow hA0) hS rfl dX10_rankSettings_116 ?_
      refine lv_istore_n (lv' := [(3, .int 5), (2, .ref (atx 101).1), (0, .ref tr), (1, .int (nI ct))]) hx hb dX10_rankSettings_117 rfl hl (by decide) rfl (fun ls hl => ?_)
      refine lv_iconst (v := 0) hx hb dX10_rankSettings_118 (by decide) ?_
      refine lv_istore (lv' := [(4, .int 0), (3, .int 5), (2, .ref (atx 101).1), (0, .ref tr), (1, .int (nI ct))]) hx hb dX10_rankSettings_119 hl (by decide) rfl (fun ls hl => ?_)
      refine lv_iload hx hb dX10_rankSettings_121 (lv_at hl 0 rfl) ?_
      refine lv_iload_n hx hb dX10_rankSettings_123 rfl (lv_at hl 1 rfl) ?_
      refine lv_icmp_ge (tgt := 146) hx hb dX10_rankSettings_124 (by decide) (fun c_7 => ?_) (fun c_7 => ?_)
      · exact absurd c_7 (by decide)
      refine lv_aload_n hx hb dX10_rankSettings_127 rfl (lv_at hl 2 rfl) ?_
      refine lv_iload hx hb dX10_rankSettings_128 (lv_at hl 0 rfl) ?_
      refine va_ti hx hb (hG.2.2.2.2.2.2.2.2.2.1.narrow hA0) hS (by unfold vp_in; decide) rfl dX10_rankSettings_130 ?_
      refine lv_topi (fun v_8 ev_8 => ?_)
      obtain rfl : v_8 = 121 := ev_8.trans (by decide)
      refine lv_istore (lv' := [(5, .int 121), (4, .int 0), (3, .int 5), (2, .ref (atx 101).1), (0, .ref tr), (1, .int (nI ct))]) hx hb dX10_rankSettings_131 hl (by decide) rfl (fun ls hl => ?_)
      refine lv_aload_n hx hb dX10_rankSettings_133 rfl (lv_at hl 4 rfl) ?_
      refine lv_iload hx hb dX10_rankSettings_134 (lv_at hl 0 rfl) ?_
      refine lv_iload_n hx hb dX10_rankSettings_136 rfl (lv_at hl 5 rfl) ?_
      obtain ⟨hPc, hDc, hFc⟩ := s3_c (ws' := [(tr, .inr (10, [.int tr_settingKnown, .int tr_knownSetting, .ref bk, .ref st, .ref j2, .ref jd, .ref tr_ranks, .ref tr_keptSpeed])), (tr_ranks, .inl (k_tr_ranks, 256, .inl ra1))]) [0, 3] hP hD hS hA rfl (by decide)
      have hKc := hK.sub (tys' := [(k_tr_ranks, .int)]) [0] rfl
      refine va_callv (va_runV (As := [.int (nI 121), .int (nI ct)]) (rest := []) ⟨hx, hb, hml, hown, hts⟩ (c10_sortBy l dC dI n0 atx H.size tr tr_settingKnown tr_knownSetting bk st j2 jd tr_ranks tr_keptSpeed k_tr_ranks ra1 121 ct (by decide) (by omega)) (cwV 2 hts (gV (fun w h => wM_c h) wd_1206 wd_1203 wd_1205 wd_46 wd_122) rfl rfl rfl (by decide +kernel) ⟨Nat.le_of_ble_eq_true rfl, Nat.le_of_ble_eq_true rfl⟩) ⟨fun a U g mk q => by obtain ⟨q0, q1, q2, qG, qP, qK, qD⟩ := q; exact ⟨q0, q1, q2, GW.blind qG, qP, va_K.moved (u := U) (U := U.calling g mk a) (Vm.Alike.refl U.vm) qK, qD⟩, va_recv hKc hPc (ci := 10) (q0 := 0) rfl rfl, fun U hU hW => ⟨rfl, by rw [hU], Nat.le_trans hn0 hS.1, GW.go hW hU hG (fun q hq hA9 => hS.2.1 q hq (fun h => hA9 (hA0 q h))), by rw [hU]; exact hPc, va_K.moved hW.alike hKc, hDc.weaken (fun _ _ _ h => hA0 _ h)⟩⟩ rfl rfl hl.1 rfl (lv_room (Nat.le_of_ble_eq_true rfl)) dX10_rankSettings_137 ⟨Nat.le_of_ble_eq_true rfl, Nat.le_of_ble_eq_true rfl⟩) hS (fun q _ h => hFc q h) hFc (fun u t H1 locs ht hvm hw_10 hB hz1 hk1 hS => ?_)
      obtain ⟨ra9_11, hP1, hK1, hD1⟩ := hB
      rw [ht] at hP1
      obtain ⟨hP, hD⟩ := s3_j (L := [(bk, .inr (0, [.int (nI bw), .ref bk_tail, .ref bk_head, .ref bk_hinder, .ref bk_size, .ref bk_walk, .ref bk_draught, .ref bk_doorIn, .ref bk_fanIn, .ref bk_faceIn, .int (nI bn), .int bk_day, .ref gr])), (gr, .inr (3, [.int (nI gd), .ref gr_doorBy, .int (nI gp), .ref gr_pairFirst, .ref gr_pairSecond, .int (nI gf), .ref gr_fanPush, .ref gr_fanFall, .ref gr_fanCost, .int (nI ge), .ref gr_faceWay, .ref gr_faceGas, .ref gr_faceNeed])), (gr_fanCost, .inl (k_gr_fanCost, 4, .inl f_gr_fanCost)), (tr, .inr (10, [.int tr_settingKnown, .int tr_knownSetting, .ref bk, .ref st, .ref j2, .ref jd, .ref tr_ranks, .ref tr_keptSpeed])), (tr_ranks, .inl (k_tr_ranks, 256, .inl ra9_11))]) 3 hP hD [0, 3] [1, 2, 4] hk1 hFc hP1 hD1 rfl rfl rfl (by decide) (by decide)
      generalize H1 = H at hP hS ⊢
      refine lv_iinc (v := 1) (lv' := [(4, .int 1), (5, .int 121), (3, .int 5), (2, .ref (atx 101).1), (0, .ref tr), (1, .int (nI ct))]) hx hb dX10_rankSettings_140 hl (k := 1) rfl (by decide) (by decide) rfl (fun ls hl => ?_)
      refine lv_goto (tgt := 121) hx hb dX10_rankSettings_143 (by decide) ?_
      refine lv_iload hx hb dX10_rankSettings_121 (lv_at hl 0 rfl) ?_
      refine lv_iload_n hx hb dX10_rankSettings_123 rfl (lv_at hl 2 rfl) ?_
      refine lv_icmp_ge (tgt := 146) hx hb dX10_rankSettings_124 (by decide) (fun c_12 => ?_) (fun c_12 => ?_)
      · exact absurd c_12 (by decide)
      refine lv_aload_n hx hb dX10_rankSettings_127 rfl (lv_at hl 3 rfl) ?_
      refine lv_iload hx hb dX10_rankSettings_128 (lv_at hl 0 rfl) ?_
      refine va_ti hx hb (hG.2.2.2.2.2.2.2.2.2.1.narrow hA0) hS (by unfold vp_in; decide) rfl dX10_rankSettings_130 ?_
      refine lv_topi (fun v_13 ev_13 => ?_)
      obtain rfl : v_13 = 40 := ev_13.trans (by decide)
      refine lv_istore (lv' := [(5, .int 40), (4, .int 1), (3, .int 5), (2, .ref (atx 101).1), (0, .ref tr), (1, .int (nI ct))]) hx hb dX10_rankSettings_131 hl (by decide) rfl (fun ls hl => ?_)
      refine lv_aload_n hx hb dX10_rankSettings_133 rfl (lv_at hl 4 rfl) ?_
      refine lv_iload hx hb dX10_rankSettings_134 (lv_at hl 0 rfl) ?_
      refine lv_iload_n hx hb dX10_rankSettings_136 rfl (lv_at hl 5 rfl) ?_
      obtain ⟨hPc, hDc, hFc⟩ := s3_c (ws' := [(tr, .inr (10, [.int tr_settingKnown, .int tr_knownSetting, .ref bk, .ref st, .ref j2, .ref jd, .ref tr_ranks, .ref tr_keptSpeed])), (tr_ranks, .inl (k_tr_ranks, 256, .inl ra9_11))]) [3, 4] hP hD hS hA rfl (by decide)
      have hKc := hK.sub (tys' := [(k_tr_ranks, .int)]) [0] rfl
      refine va_callv (va_runV (As := [.int (nI 40), .int (nI ct)]) (rest := []) ⟨hx, hb, hml, hown, hts⟩ (c10_sortBy l dC dI n0 atx H.size tr tr_settingKnown tr_knownSetting bk st j2 jd tr_ranks tr_keptSpeed k_tr_ranks ra9_11 40 ct (by decide) (by omega)) (cwV 2 hts (gV (fun w h => wM_c h) wd_1206 wd_1203 wd_1205 wd_46 wd_122) rfl rfl rfl (by decide +kernel) ⟨Nat.le_of_ble_eq_true rfl, Nat.le_of_ble_eq_true rfl⟩) ⟨fun a U g mk q => by obtain ⟨q0, q1, q2, qG, qP, qK, qD⟩ := q; exact ⟨q0, q1, q2, GW.blind qG, qP, va_K.moved (u := U) (U := U.calling g mk a) (Vm.Alike.refl U.vm) qK, qD⟩, va_recv hKc hPc (ci := 10) (q0 := 0) rfl rfl, fun U hU hW => ⟨rfl, by rw [hU], Nat.le_trans hn0 hS.1, GW.go hW hU hG (fun q hq hA9 => hS.2.1 q hq (fun h => hA9 (hA0 q h))), by rw [hU]; exact hPc, va_K.moved hW.alike hKc, hDc.weaken (fun _ _ _ h => hA0 _ h)⟩⟩ rfl rfl hl.1 rfl (lv_room (Nat.le_of_ble_eq_true rfl)) dX10_rankSettings_137 ⟨Nat.le_of_ble_eq_true rfl, Nat.le_of_ble_eq_true rfl⟩) hS (fun q _ h => hFc q h) hFc (fun u t H1 locs ht hvm hw_15 hB hz1 hk1 hS => ?_)
      obtain ⟨ra9_16, hP1, hK1, hD1⟩ := hB
      rw [ht] at hP1
      obtain ⟨hP, hD⟩ := s3_j (L := [(bk, .inr (0, [.int (nI bw), .ref bk_tail, .ref bk_head, .ref bk_hinder, .ref bk_size, .ref bk_walk, .ref bk_draught, .ref bk_doorIn, .ref bk_fanIn, .ref bk_faceIn, .int (nI bn), .int bk_day, .ref gr])), (gr, .inr (3, [.int (nI gd), .ref gr_doorBy, .int (nI gp), .ref gr_pairFirst, .ref gr_pairSecond, .int (nI gf), .ref gr_fanPush, .ref gr_fanFall, .ref gr_fanCost, .int (nI ge), .ref gr_faceWay, .ref gr_faceGas, .ref gr_faceNeed])), (gr_fanCost, .inl (k_gr_fanCost, 4, .inl f_gr_fanCost)), (tr, .inr (10, [.int tr_settingKnown, .int tr_knownSetting, .ref bk, .ref st, .ref j2, .ref jd, .ref tr_ranks, .ref tr_keptSpeed])), (tr_ranks, .inl (k_tr_ranks, 256, .inl ra9_16))]) 3 hP hD [3, 4] [0, 1, 2] hk1 hFc hP1 hD1 rfl rfl rfl (by decide) (by decide)
      generalize H1 = H at hP hS ⊢
      refine lv_iinc (v := 2) (lv' := [(4, .int 2), (5, .int 40), (3, .int 5), (2, .ref (atx 101).1), (0, .ref tr), (1, .int (nI ct))]) hx hb dX10_rankSettings_140 hl (k := 1) rfl (by decide) (by decide) rfl (fun ls hl => ?_)
      refine lv_goto (tgt := 121) hx hb dX10_rankSettings_143 (by decide) ?_
      refine lv_iload hx hb dX10_rankSettings_121 (lv_at hl 0 rfl) ?_
      refine lv_iload_n hx hb dX10_rankSettings_123 rfl (lv_at hl 2 rfl) ?_
      refine lv_icmp_ge (tgt := 146) hx hb dX10_rankSettings_124 (by decide) (fun c_17 => ?_) (fun c_17 => ?_)
      · exact absurd c_17 (by decide)
      refine lv_aload_n hx hb dX10_rankSettings_127 rfl (lv_at hl 3 rfl) ?_
      refine lv_iload hx hb dX10_rankSettings_128 (lv_at hl 0 rfl) ?_
      refine va_ti hx hb (hG.2.2.2.2.2.2.2.2.2.1.narrow hA0) hS (by unfold vp_in; decide) rfl dX10_rankSettings_130 ?_
      refine lv_topi (fun v_18 ev_18 => ?_)
      obtain rfl : v_18 = 13 := ev_18.trans (by decide)
      refine lv_istore (lv' := [(5, .int 13), (4, .int 2), (3, .int 5), (2, .ref (atx 101).1), (0, .ref tr), (1, .int (nI ct))]) hx hb dX10_rankSettings_131 hl (by decide) rfl (fun ls hl => ?_)
      refine lv_aload_n hx hb dX10_rankSettings_133 rfl (lv_at hl 4 rfl) ?_
      refine lv_iload hx hb dX10_rankSettings_134 (lv_at hl 0 rfl) ?_
      refine lv_iload_n hx hb dX10_rankSettings_136 rfl (lv_at hl 5 rfl) ?_
      obtain ⟨hPc, hDc, hFc⟩ := s3_c (ws' := [(tr, .inr (10, [.int tr_settingKnown, .int tr_knownSetting, .ref bk, .ref st, .ref j2, .ref jd, .ref tr_ranks, .ref tr_keptSpeed])), (tr_ranks, .inl (k_tr_ranks, 256, .inl ra9_16))]) [3, 4] hP hD hS hA rfl (by decide)
      have hKc := hK.sub (tys' := [(k_tr_ranks, .int)]) [0] rfl
      refine va_callv (va_runV (As := [.int (nI 13), .int (nI ct)]) (rest := []) ⟨hx, hb, hml, hown, hts⟩ (c10_sortBy l dC dI n0 atx H.size tr tr_settingKnown tr_knownSetting bk st j2 jd tr_ranks tr_keptSpeed k_tr_ranks ra9_16 13 ct (by decide) (by omega)) (cwV 2 hts (gV (fun w h => wM_c h) wd_1206 wd_1203 wd_1205 wd_46 wd_122) rfl rfl rfl (by decide +kernel) ⟨Nat.le_of_ble_eq_true rfl, Nat.le_of_ble_eq_true rfl⟩) ⟨fun a U g mk q => by obtain ⟨q0, q1, q2, qG, qP, qK, qD⟩ := q; exact ⟨q0, q1, q2, GW.blind qG, qP, va_K.moved (u := U) (U := U.calling g mk a) (Vm.Alike.refl U.vm) qK, qD⟩, va_recv hKc hPc (ci := 10) (q0 := 0) rfl rfl, fun U hU hW => ⟨rfl, by rw [hU], Nat.le_trans hn0 hS.1, GW.go hW hU hG (fun q hq hA9 => hS.2.1 q hq (fun h => hA9 (hA0 q h))), by rw [hU]; exact hPc, va_K.moved hW.alike hKc, hDc.weaken (fun _ _ _ h => hA0 _ h)⟩⟩ rfl rfl hl.1 rfl (lv_room (Nat.le_of_ble_eq_true rfl)) dX10_rankSettings_137 ⟨Nat.le_of_ble_eq_true rfl, Nat.le_of_ble_eq_true rfl⟩) hS (fun q _ h => hFc q h) hFc (fun u t H1 locs ht hvm hw_20 hB hz1 hk1 hS => ?_)
      obtain ⟨ra9_21, hP1, hK1, hD1⟩ := hB
      rw [ht] at hP1
      obtain ⟨hP, hD⟩ := s3_j (L := [(bk, .inr (0, [.int (nI bw), .ref bk_tail, .ref bk_head, .ref bk_hinder, .ref bk_size, .ref bk_walk, .ref bk_draught, .ref bk_doorIn, .ref bk_fanIn, .ref bk_faceIn, .int (nI bn), .int bk_day, .ref gr])), (gr, .inr (3, [.int (nI gd), .ref gr_doorBy, .int (nI gp), .ref gr_pairFirst, .ref gr_pairSecond, .int (nI gf), .ref gr_fanPush, .ref gr_fanFall, .ref gr_fanCost, .int (nI ge), .ref gr_faceWay, .ref gr_faceGas, .ref gr_faceNeed])), (gr_fanCost, .inl (k_gr_fanCost, 4, .inl f_gr_fanCost)), (tr, .inr (10, [.int tr_settingKnown, .int tr_knownSetting, .ref bk, .ref st, .ref j2, .ref jd, .ref tr_ranks, .ref tr_keptSpeed])), (tr_ranks, .inl (k_tr_ranks, 256, .inl ra9_21))]) 3 hP hD [3, 4] [0, 1, 2] hk1 hFc hP1 hD1 rfl rfl rfl (by decide) (by decide)
      generalize H1 = H at hP hS ⊢
      refine lv_iinc (v := 3) (lv' := [(4, .int 3), (5, .int 13), (3, .int 5), (2, .ref (atx 101).1), (0, .ref tr), (1, .int (nI ct))]) hx hb dX10_rankSettings_140 hl (k := 1) rfl (by decide) (by decide) rfl (fun ls hl => ?_)
      refine lv_goto (tgt := 121) hx hb dX10_rankSettings_143 (by decide) ?_
      refine lv_iload hx hb dX10_rankSettings_121 (lv_at hl 0 rfl) ?_
      refine lv_iload_n hx hb dX10_rankSettings_123 rfl (lv_at hl 2 rfl) ?_
      refine lv_icmp_ge (tgt := 146) hx hb dX10_rankSettings_124 (by decide) (fun c_22 => ?_) (fun c_22 => ?_)
      · exact absurd c_22 (by decide)
      refine lv_aload_n hx hb dX10_rankSettings_127 rfl (lv_at hl 3 rfl) ?_
      refine lv_iload hx hb dX10_rankSettings_128 (lv_at hl 0 rfl) ?_
      refine va_ti hx hb (hG.2.2.2.2.2.2.2.2.2.1.narrow hA0) hS (by unfold vp_in; decide) rfl dX10_rankSettings_130 ?_
      refine lv_topi (fun v_23 ev_23 => ?_)
      obtain rfl : v_23 = 4 := ev_23.trans (by decide)
      refine lv_istore (lv' := [(5, .int 4), (4, .int 3), (3, .int 5), (2, .ref (atx 101).1), (0, .ref tr), (1, .int (nI ct))]) hx hb dX10_rankSettings_131 hl (by decide) rfl (fun ls hl => ?_)
      refine lv_aload_n hx hb dX10_rankSettings_133 rfl (lv_at hl 4 rfl) ?_
      refine lv_iload hx hb dX10_rankSettings_134 (lv_at hl 0 rfl) ?_
      refine lv_iload_n hx hb dX10_rankSettings_136 rfl (lv_at hl 5 rfl) ?_
      obtain ⟨hPc, hDc, hFc⟩ := s3_c (ws' := [(tr, .inr (10, [.int tr_settingKnown, .int tr_knownSetting, .ref bk, .ref st, .ref j2, .ref jd, .ref tr_ranks, .ref tr_keptSpeed])), (tr_ranks, .inl (k_tr_ranks, 256, .inl ra9_21))]) [3, 4] hP hD hS hA rfl (by decide)
      have hKc := hK.sub (tys' := [(k_tr_ranks, .int)]) [0] rfl
      refine va_callv (va_runV (As := [.int (nI 4), .int (nI ct)]) (rest := []) ⟨hx, hb, hml, hown, hts⟩ (c10_sortBy l dC dI n0 atx H.size tr tr_settingKnown tr_knownSetting bk st j2 jd tr_ranks tr_keptSpeed k_tr_ranks ra9_21 4 ct (by decide) (by omega)) (cwV 2 hts (gV (fun w h => wM_c h) wd_1206 wd_1203 wd_1205 wd_46 wd_122) rfl rfl rfl (by decide +kernel) ⟨Nat.le_of_ble_eq_true rfl, Nat.le_of_ble_eq_true rfl⟩) ⟨fun a U g mk q => by obtain ⟨q0, q1, q2, qG, qP, qK, qD⟩ := q; exact ⟨q0, q1, q2, GW.blind qG, qP, va_K.moved (u := U) (U := U.calling g mk a) (Vm.Alike.refl U.vm) qK, qD⟩, va_recv hKc hPc (ci := 10) (q0 := 0) rfl rfl, fun U hU hW => ⟨rfl, by rw [hU], Nat.le_trans hn0 hS.1, GW.go hW hU hG (fun q hq hA9 => hS.2.1 q hq (fun h => hA9 (hA0 q h))), by rw [hU]; exact hPc, va_K.moved hW.alike hKc, hDc.weaken (fun _ _ _ h => hA0 _ h)⟩⟩ rfl rfl hl.1 rfl (lv_room (Nat.le_of_ble_eq_true rfl)) dX10_rankSettings_137 ⟨Nat.le_of_ble_eq_true rfl, Nat.le_of_ble_eq_true rfl⟩) hS (fun q _ h => hFc q h) hFc (fun u t H1 locs ht hvm hw_25 hB hz1 hk1 hS => ?_)
      obtain ⟨ra9_26, hP1, hK1, hD1⟩ := hB
      rw [ht] at hP1
      obtain ⟨hP, hD⟩ := s3_j (L := [(bk, .inr (0, [.int (nI bw), .ref bk_tail, .ref bk_head, .ref bk_hinder, .ref bk_size, .ref bk_walk, .ref bk_draught, .ref bk_doorIn, .ref bk_fanIn, .ref bk_faceIn, .int (nI bn), .int bk_day, .ref gr])), (gr, .inr (3, [.int (nI gd), .ref gr_doorBy, .int (nI gp), .ref gr_pairFirst, .ref gr_pairSecond, .int (nI gf), .ref gr_fanPush, .ref gr_fanFall, .ref gr_fanCost, .int (nI ge), .ref gr_faceWay, .ref gr_faceGas, .ref gr_faceNeed])), (gr_fanCost, .inl (k_gr_fanCost, 4, .inl f_gr_fanCost)), (tr, .inr (10, [.int tr_settingKnown, .int tr_knownSetting, .ref bk, .ref st, .ref j2, .ref jd, .ref tr_ranks, .ref tr_keptSpeed])), (tr_ranks, .inl (k_tr_ranks, 256, .inl ra9_26))]) 3 hP hD [3, 4] [0, 1, 2] hk1 hFc hP1 hD1 rfl rfl rfl (by decide) (by decide)
      generalize H1 = H at hP hS ⊢
      refine lv_iinc (v := 4) (lv' := [(4, .int 4), (5, .int 4), (3, .int 5), (2, .ref (atx 101).1), (0, .ref tr), (1, .int (nI ct))]) hx hb dX10_rankSettings_140 hl (k := 1) rfl (by decide) (by decide) rfl (fun ls hl => ?_)
      refine lv_goto (tgt := 121) hx hb dX10_rankSettings_143 (by decide) ?_
      refine lv_iload hx hb dX10_rankSettings_121 (lv_at hl 0 rfl) ?_
      refine lv_iload_n hx hb dX10_rankSettings_123 rfl (lv_at hl 2 rfl) ?_
      refine lv_icmp_ge (tgt := 146) hx hb dX10_rankSettings_124 (by decide) (fun c_27 => ?_) (fun c_27 => ?_)
      · exact absurd c_27 (by decide)
      refine lv_aload_n hx hb dX10_rankSettings_127 rfl (lv_at hl 3 rfl) ?_
      refine lv_iload hx hb dX10_rankSettings_128 (lv_at hl 0 rfl) ?_
      refine va_ti hx hb (hG.2.2.2.2.2.2.2.2.2.1.narrow hA0) hS (by unfold vp_in; decide) rfl dX10_rankSettings_130 ?_
      refine lv_topi (fun v_28 ev_28 => ?_)
      obtain rfl : v_28 = 1 := ev_28.trans (by decide)
      refine lv_istore (lv' := [(5, .int 1), (4, .int 4), (3, .int 5), (2, .ref (atx 101).1), (0, .ref tr), (1, .int (nI ct))]) hx hb dX10_rankSettings_131 hl (by decide) rfl (fun ls hl => ?_)
      refine lv_aload_n hx hb dX10_rankSettings_133 rfl (lv_at hl 4 rfl) ?_
      refine lv_iload hx hb dX10_rankSettings_134 (lv_at hl 0 rfl) ?_
      refine lv_iload_n hx hb dX10_rankSettings_136 rfl (lv_at hl 5 rfl) ?_
      obtain ⟨hPc, hDc, hFc⟩ := s3_c (ws' := [(tr, .inr (10, [.int tr_settingKnown, .int tr_knownSetting, .ref bk, .ref st, .ref j2, .ref jd, .ref tr_ranks, .ref tr_keptSpeed])), (tr_ranks, .inl (k_tr_ranks, 256, .inl ra9_26))]) [3, 4] hP hD hS hA rfl (by decide)
      have hKc := hK.sub (tys' := [(k_tr_ranks, .int)]) [0] rfl
      refine va_callv (va_runV (As := [.int (nI 1), .int (nI ct)]) (rest := []) ⟨hx, hb, hml, hown, hts⟩ (c10_sortBy l dC dI n0 atx H.size tr tr_settingKnown tr_knownSetting bk st j2 jd tr_ranks tr_keptSpeed k_tr_ranks ra9_26 1 ct (by decide) (by omega)) (cwV 2 hts (gV (fun w h => wM_c h) wd_1206 wd_1203 wd_1205 wd_46 wd_122) rfl rfl rfl (by decide +kernel) ⟨Nat.le_of_ble_eq_true rfl, Nat.le_of_ble_eq_true rfl⟩) ⟨fun a U g mk q => by obtain ⟨q0, q1, q2, qG, qP, qK, qD⟩ := q; exact ⟨q0, q1, q2, GW.blind qG, qP, va_K.moved (u := U) (U := U.calling g mk a) (Vm.Alike.refl U.vm) qK, qD⟩, va_recv hKc hPc (ci := 10) (q0 := 0) rfl rfl, fun U hU hW => ⟨rfl, by rw [hU], Nat.le_trans hn0 hS.1, GW.go hW hU hG (fun q hq hA9 => hS.2.1 q hq (fun h => hA9 (hA0 q h))), by rw [hU]; exact hPc, va_K.moved hW.alike hKc, hDc.weaken (fun _ _ _ h => hA0 _ h)⟩⟩ rfl rfl hl.1 rfl (lv_room (Nat.le_of_ble_eq_true rfl)) dX10_rankSettings_137 ⟨Nat.le_of_ble_eq_true rfl, Nat.le_of_ble_eq_true rfl⟩) hS (fun q _ h => hFc q h) hFc (fun u t H1 locs ht hvm hw_30 hB hz1 hk1 hS => ?_)
      obtain ⟨ra9_31, hP1, hK1, hD1⟩ := hB
      rw [ht] at hP1
      obtain ⟨hP, hD⟩ := s3_j (L := [(bk, .inr (0, [.int (nI bw), .ref bk_tail, .ref bk_head, .ref bk_hinder, .ref bk_size, .ref bk_walk, .ref bk_draught, .ref bk_doorIn, .ref bk_fanIn, .ref bk_faceIn, .int (nI bn), .int bk_day, .ref gr])), (gr, .inr (3, [.int (nI gd), .ref gr_doorBy, .int (nI gp), .ref gr_pairFirst, .ref gr_pairSecond, .int (nI gf), .ref gr_fanPush, .ref gr_fanFall, .ref gr_fanCost, .int (nI ge), .ref gr_faceWay, .ref gr_faceGas, .ref gr_faceNeed])), (gr_fanCost, .inl (k_gr_fanCost, 4, .inl f_gr_fanCost)), (tr, .inr (10, [.int tr_settingKnown, .int tr_knownSetting, .ref bk, .ref st, .ref j2, .ref jd, .ref tr_ranks, .ref tr_keptSpeed])), (tr_ranks, .inl (k_tr_ranks, 256, .inl ra9_31))]) 3 hP hD [3, 4] [0, 1, 2] hk1 hFc hP1 hD1 rfl rfl rfl (by decide) (by decide)
      generalize H1 = H at hP hS ⊢
      refine lv_iinc (v := 5) (lv' := [(4, .int 5), (5, .int 1), (3, .int 5), (2, .ref (atx 101).1), (0, .ref tr), (1, .int (nI ct))]) hx hb dX10_rankSettings_140 hl (k := 1) rfl (by decide) (by decide) rfl (fun ls hl => ?_)
      refine lv_goto (tgt := 121) hx hb dX10_rankSettings_143 (by decide) ?_
      refine lv_iload hx hb dX10_rankSettings_121 (lv_at hl 0 rfl) ?_
      refine lv_iload_n hx hb dX10_rankSettings_123 rfl (lv_at hl 2 rfl) ?_
      refine lv_icmp_ge (tgt := 146) hx hb dX10_rankSettings_124 (by decide) (fun c_32 => ?_) (fun c_32 => ?_)
      · skip
        refine lv_iload_n hx hb dX10_rankSettings_146 rfl (lv_at hl 5 rfl) ?_
        have hK9 := hK.sub (tys' := [(k_tr_ranks, .int), (k_gr_fanCost, .int)]) [0, 1] rfl
        exact W.iret (v := (nI ct)) hx hb hr (fun t ht hW => ⟨⟨(nI ct), (), rfl, (by dsimp only; rw [nI_toInt (by omega)]; omega), ra9_31, by rw [ht]; exact hP.sub [3, 0, 1, 4, 2] rfl, va_K.moved hW.alike hK9, hD.sub [3, 0, 1, 4, 2] (by decide) rfl⟩, hS.F ht⟩) hS.2.2 dX10_rankSettings_147
      · exact absurd c_32 (by decide)
    · skip
      have g_33 := n_nge (a := cd) (b := ct) c_5 (by omega) (by omega)
      refine lv_iload_n hx hb dX10_rankSettings_35 rfl (lv_at hl 2 rfl) ?_
      refine lv_istore_n (lv' := [(3, .int (nI cd)), (0, .ref tr), (1, .int (nI ct)), (2, .int (nI cd))]) hx hb dX10_rankSettings_36 rfl hl (by decide) rfl (fun ls hl => ?_)
      refine lv_iconst (v := 0) hx hb dX10_rankSettings_37 (by decide) ?_
      refine lv_istore (lv' := [(4, .int 0), (3, .int (nI cd)), (0, .ref tr), (1, .int (nI ct)), (2, .int (nI cd))]) hx hb dX10_rankSettings_38 hl (by decide) rfl (fun ls hl => ?_)
      refine lv_aload_n hx hb dX10_rankSettings_40 rfl (lv_at hl 2 rfl) ?_
      refine va_get (D := (dC, dI)) (ci := 10) (v := .ref bk) (C := RX10) (T := TX10) (N := 8) hx hb hts (fun w h => wM_c (iX10 w h)) hown hK hP 0 rfl rfl 2 (by decide) (hts _ (wM_c wd_543)) (fun _ h9 => h9) rfl dX10_rankSettings_41 ?_
      refine va_get (D := (dC, dI)) (ci := 0) (v := .ref gr) (C := RX0) (T := TX0) (N := 13) hx hb hts (fun w h => wM_c (iX0 w h)) hown hK hP 1 rfl rfl 12 (by decide) (hts _ (wM_c wd_294)) (fun _ h9 => h9) rfl dX10_rankSettings_44 ?_
      refine va_get (D := (dC, dI)) (ci := 3) (v := .int (nI gf)) (C := RX3) (T := TX3) (N := 13) hx hb hts (fun w h => wM_c (iX3 w h)) hown hK hP 2 rfl rfl 5 (by decide) (hts _ (wM_c wd_180)) (fun _ h9 => h9) rfl dX10_rankSettings_47 ?_
      refine lv_iconst (v := 1) hx hb dX10_rankSettings_50 (by decide) ?_
      refine lv_isub hx hb dX10_rankSettings_51 ?_
      refine lv_topi (fun v_34 ev_34 => ?_)
      have z8 : (nI gf).toInt = ((gf : Nat) : Int) := nI_toInt (by omega)
      have z9 : (1 : Int32).toInt = 1 := rfl
      have g_35 : v_34.toInt = ((gf : Nat) : Int) - (1 : Int) := by have h9 := i_sub (x := (nI gf)) (y := 1) (by omega) (by omega); rw [← ev_34] at h9; omega
      refine lv_istore (lv' := [(5, .int v_34), (4, .int 0), (3, .int (nI cd)), (0, .ref tr), (1, .int (nI ct)), (2, .int (nI cd))]) hx hb dX10_rankSettings_52 hl (by decide) rfl (fun ls hl => ?_)
      refine W_lp3 (I := fun (rs : Int32) (co : Int32) (ff : Int32) H locs ls => (-1 ≤ ff.toInt ∧ ff.toInt < 4) ∧ va_P (dC, dI) classes [(tr, .inr (10, [.int tr_settingKnown, .int tr_knownSetting, .ref bk, .ref st, .ref j2, .ref jd, .ref tr_ranks, .ref tr_keptSpeed])), (bk, .inr (0, [.int (nI bw), .ref bk_tail, .ref bk_head, .ref bk_hinder, .ref bk_size, .ref bk_walk, .ref bk_draught, .ref bk_doorIn, .ref bk_fanIn, .ref bk_faceIn, .int (nI bn), .int bk_day, .ref gr])), (gr, .inr (3, [.int (nI gd), .ref gr_doorBy, .int (nI gp), .ref gr_pairFirst, .ref gr_pairSecond, .int (nI gf), .ref gr_fanPush, .ref gr_fanFall, .ref gr_fanCost, .int (nI ge), .ref gr_faceWay, .ref gr_faceGas, .ref gr_faceNeed])), (tr_ranks, .inl (k_tr_ranks, 256, .inl ra1)), (gr_fanCost, .inl (k_gr_fanCost, 4, .inl f_gr_fanCost))] H ∧ va_D A [(tr, .inr (10, [.int tr_settingKnown, .int tr_knownSetting, .ref bk, .ref st, .ref j2, .ref jd, .ref tr_ranks, .ref tr_keptSpeed])), (bk, .inr (0, [.int (nI bw), .ref bk_tail, .ref bk_head, .ref bk_hinder, .ref bk_size, .ref bk_walk, .ref bk_draught, .ref bk_doorIn, .ref bk_fanIn, .ref bk_faceIn, .int (nI bn), .int bk_day, .ref gr])), (gr, .inr (3, [.int (nI gd), .ref gr_doorBy, .int (nI gp), .ref gr_pairFirst, .ref gr_pairSecond, .int (nI gf), .ref gr_fanPush, .ref gr_fanFall, .ref gr_fanCost, .int (nI ge), .ref gr_faceWay, .ref gr_faceGas, .ref gr_faceNeed])), (tr_ranks, .inl (k_tr_ranks, 256, .inl ra1)), (gr_fanCost, .inl (k_gr_fanCost, 4, .inl f_gr_fanCost))] ∧ va_S A s.heap H locs ∧ lv_has ls 6 [(0, .ref tr), (1, .int (nI ct)), (2, .int (nI cd)), (3, .int rs), (4, .int co), (5, .int ff)]) (μ := fun (rs : Int32) (co : Int32) (ff : Int32) => (ff.toInt + 1).toNat) ?_ (nI cd) 0 v_34 _ _ _ ⟨(by omega), hP, hD, hS, lv_sub hl [3, 4, 5, 2, 1, 0] rfl⟩
      intro rs co ff H locs ls hI ih_36
      obtain ⟨hff, hP, hD, hS, hl⟩ := hI
      refine lv_iload hx hb dX10_rankSettings_54 (lv_at hl 5 rfl) ?_
      refine lv_if_lt (tgt := 91) hx hb dX10_rankSettings_56 (by decide) (fun c_37 => ?_) (fun c_37 => ?_)
      · skip
        have g_38 : ff.toInt < (0 : Int) := i_lt c_37
        refine lv_aload_n hx hb dX10_rankSettings_91 rfl (lv_at hl 0 rfl) ?_
        refine va_get (D := (dC, dI)) (ci := 10) (v := .ref tr_ranks) (C := RX10) (T := TX10) (N := 8) hx hb hts (fun w h => wM_c (iX10 w h)) hown hK hP 0 rfl rfl 6 (by decide) (hts _ (wM_c wd_547)) (fun _ h9 => h9) rfl dX10_rankSettings_92 ?_
        refine lv_iload_n hx hb dX10_rankSettings_95 rfl (lv_at hl 2 rfl) ?_
        refine lv_iload hx hb dX10_rankSettings_96 (lv_at hl 4 rfl) ?_
        refine lv_sipush (v := 256) hx hb dX10_rankSettings_98 (by decide) ?_
        refine lv_imul hx hb dX10_rankSettings_101 ?_
        refine lv_topi (fun v_39 ev_39 => ?_)
        refine lv_iload_n hx hb dX10_rankSettings_102 rfl (lv_at hl 2 rfl) ?_
        refine lv_iadd hx hb dX10_rankSettings_103 ?_
        refine lv_topi (fun v_40 ev_40 => ?_)
        refine va_iast hx hb hK hP hD hS 3 0 rfl rfl (vp_in_nI (n := cd) (by omega) (by omega)) dX10_rankSettings_104 (fun H locs hP hD hS => ?_)
        obtain ⟨f_41, ef_41⟩ : ∃ f9, f9 = (upd ra1 (nI cd).toNatClampNeg v_40) := ⟨_, rfl⟩
        obtain ⟨hP, hD⟩ : s3_w (dC, dI) classes A [(tr, .inr (10, [.int tr_settingKnown, .int tr_knownSetting, .ref bk, .ref st, .ref j2, .ref jd, .ref tr_ranks, .ref tr_keptSpeed])), (bk, .inr (0, [.int (nI bw), .ref bk_tail, .ref bk_head, .ref bk_hinder, .ref bk_size, .ref bk_walk, .ref bk_draught, .ref bk_doorIn, .ref bk_fanIn, .ref bk_faceIn, .int (nI bn), .int bk_day, .ref gr])), (gr, .inr (3, [.int (nI gd), .ref gr_doorBy, .int (nI gp), .ref gr_pairFirst, .ref gr_pairSecond, .int (nI gf), .ref gr_fanPush, .ref gr_fanFall, .ref gr_fanCost, .int (nI ge), .ref gr_faceWay, .ref gr_faceGas, .ref gr_faceNeed])), (tr_ranks, .inl (k_tr_ranks, 256, .inl f_41)), (gr_fanCost, .inl (k_gr_fanCost, 4, .inl f_gr_fanCost))] H := ⟨(by rw [ef_41]; exact hP), (by rw [ef_41]; exact hD)⟩
        refine lv_iinc (v := (nI (cd + 1))) (lv' := [(2, .int (nI (cd + 1))), (0, .ref tr), (1, .int (nI ct)), (3, .int rs), (4, .int co), (5, .int ff)]) hx hb dX10_rankSettings_105 hl (k := 2) rfl (nI_add _ 1) (by decide) rfl (fun ls hl => ?_)
        refine lv_goto (tgt := 30) hx hb dX10_rankSettings_108 (by decide) ?_
        exact ih_4 (cd + 1) f_41 _ _ _ ⟨(by first | with_reducible assumption | omega | exact vp_in_iff.mpr (by omega) | exact vp_in_nI (by omega) (by omega) | exact ⟨by omega, by omega⟩), hP.sub [0, 1, 2, 3, 4] rfl, hD.sub [0, 1, 2, 3, 4] (by decide) rfl, hS, lv_sub hl [1, 2, 0] rfl⟩ (by omega)
      · skip
        have g_42 : (0 : Int) ≤ ff.toInt := i_nlt c_37
        refine lv_iload hx hb dX10_rankSettings_59 (lv_at hl 4 rfl) ?_
        refine lv_iload_n hx hb dX10_rankSettings_61 rfl (lv_at hl 3 rfl) ?_
        refine lv_iconst (v := 4) hx hb dX10_rankSettings_62 (by decide) ?_
        refine lv_irem hx hb dX10_rankSettings_63 (by decide) ?_
        refine lv_topi (fun v_43 ev_43 => ?_)
        refine lv_aload_n hx hb dX10_rankSettings_64 rfl (lv_at hl 0 rfl) ?_
        refine va_get (D := (dC, dI)) (ci := 10) (v := .ref bk) (C := RX10) (T := TX10) (N := 8) hx hb hts (fun w h => wM_c (iX10 w h)) hown hK hP 0 rfl rfl 2 (by decide) (hts _ (wM_c wd_543)) (fun _ h9 => h9) rfl dX10_rankSettings_65 ?_
        refine va_get (D := (dC, dI)) (ci := 0) (v := .ref gr) (C := RX0) (T := TX0) (N := 13) hx hb hts (fun w h => wM_c (iX0 w h)) hown hK hP 1 rfl rfl 12 (by decide) (hts _ (wM_c wd_294)) (fun _ h9 => h9) rfl dX10_rankSettings_68 ?_
        refine va_get (D := (dC, dI)) (ci := 3) (v := .ref gr_fanCost) (C := RX3) (T := TX3) (N := 13) hx hb hts (fun w h => wM_c (iX3 w h)) hown hK hP 2 rfl rfl 8 (by decide) (hts _ (wM_c wd_191)) (fun _ h9 => h9) rfl dX10_rankSettings_71 ?_
        refine lv_iload hx hb dX10_rankSettings_74 (lv_at hl 5 rfl) ?_
        refine va_iald hx hb hK hP 4 1 rfl rfl (by first | with_reducible assumption | exact vp_in_iff.mpr (by omega)) dX10_rankSettings_76 ?_
        refine lv_topi (fun v_44 ev_44 => ?_)
        refine lv_imul hx hb dX10_rankSettings_77 ?_
        refine lv_topi (fun v_45 ev_45 => ?_)
        refine lv_iadd hx hb dX10_rankSettings_78 ?_
        refine lv_topi (fun v_46 ev_46 => ?_)
        refine lv_istore (lv' := [(4, .int v_46), (0, .ref tr), (1, .int (nI ct)), (2, .int (nI cd)), (3, .int rs), (5, .int ff)]) hx hb dX10_rankSettings_79 hl (by decide) rfl (fun ls hl => ?_)
        refine lv_iload_n hx hb dX10_rankSettings_81 rfl (lv_at hl 4 rfl) ?_
        refine lv_iconst (v := 4) hx hb dX10_rankSettings_82 (by decide) ?_
        refine lv_idiv hx hb dX10_rankSettings_83 (by decide) ?_
        refine lv_topi (fun v_47 ev_47 => ?_)
        refine lv_istore_n (lv' := [(3, .int v_47), (4, .int v_46), (0, .ref tr), (1, .int (nI ct)), (2, .int (nI cd)), (5, .int ff)]) hx hb dX10_rankSettings_84 rfl hl (by decide) rfl (fun ls hl => ?_)
        obtain ⟨v_48, ev_48⟩ : ∃ y : Int32, y = ff + (-1) := ⟨_, rfl⟩
        refine lv_iinc (v := v_48) (lv' := [(5, .int v_48), (3, .int v_47), (4, .int v_46), (0, .ref tr), (1, .int (nI ct)), (2, .int (nI cd))]) hx hb dX10_rankSettings_85 hl (k := 5) rfl (by rw [ev_48]; rfl) (by decide) rfl (fun ls hl => ?_)
        refine lv_goto (tgt := 54) hx hb dX10_rankSettings_88 (by decide) ?_
        exact ih_36 v_47 v_46 v_48 _ _ _ ⟨(by have h9 := decI ev_48 (by omega) (by omega); omega), hP.sub [0, 1, 2, 3, 4] rfl, hD.sub [0, 1, 2, 3, 4] (by decide) rfl, hS, lv_sub hl [3, 4, 5, 1, 2, 0] rfl⟩ (by have h9 := decI ev_48 (by omega) (by omega); omega)
  · skip
    have g_49 := n_nge (a := i0) (b := gf) c_2 (by omega) (by omega)
    refine lv_iload_n hx hb dX10_rankSettings_18 rfl (lv_at hl 1 rfl) ?_
    refine lv_iconst (v := 4) hx hb dX10_rankSettings_19 (by decide) ?_
    refine lv_imul hx hb dX10_rankSettings_20 ?_
    refine lv_topi (fun v_50 ev_50 => ?_)
    obtain rfl : v_50 = nI (ct * 4) := ev_50.trans (pk_mul ct 4)
    refine lv_istore_n (lv' := [(1, .int (nI (ct * 4))), (0, .ref tr), (2, .int (nI i0))]) hx hb dX10_rankSettings_21 rfl hl (by decide) rfl (fun ls hl => ?_)
    refine lv_iinc (v := (nI (i0 + 1))) (lv' := [(2, .int (nI (i0 + 1))), (1, .int (nI (ct * 4))), (0, .ref tr)]) hx hb dX10_rankSettings_22 hl (k := 2) rfl (nI_add _ 1) (by decide) rfl (fun ls hl => ?_)
    refine lv_goto (tgt := 4) hx hb dX10_rankSettings_25 (by decide) ?_
    exact ih_1 (ct * 4) (i0 + 1) _ _ _ ⟨(by first | with_reducible assumption | omega | exact vp_in_iff.mpr (by omega) | exact vp_in_nI (by omega) (by omega) | exact ⟨by omega, by omega⟩), (by omega), hP.sub [0, 1, 2, 3, 4] rfl, hD.sub [0, 1, 2, 3, 4] (by decide) rfl, hS, lv_sub hl [2, 1, 0] rfl⟩ (by omega)
