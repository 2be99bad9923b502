theorem wd_31 : Cond.selects "MineAir$Flow" (⟨"MineAir$Flow", "rate", "(II)V"⟩ : MethodName) (⟨"MineAir$Flow", "rate", "(II)V"⟩ : MethodName) ∈ wG := wG_of 31 (by decide +kernel) (by decide +kernel)
theorem wd_36 : Cond.selects "MineAir$Flow" (⟨"MineAir$Flow", "cameFrom", "(I)I"⟩ : MethodName) (⟨"MineAir$Flow", "cameFrom", "(I)I"⟩ : MethodName) ∈ wG := wG_of 36 (by decide +kernel) (by decide +kernel)
theorem wd_38 : Cond.selects "MineAir$Flow" (⟨"MineAir$Flow", "gains", "(I)Z"⟩ : MethodName) (⟨"MineAir$Flow", "gains", "(I)Z"⟩ : MethodName) ∈ wG := wG_of 38 (by decide +kernel) (by decide +kernel)
theorem wd_250 : Cond.fieldLink "MineAir$Flow" 130 "MineAir$Book" "tail" "[I" ∈ wG := wG_of 250 (by decide +kernel) (by decide +kernel)
theorem wd_255 : Cond.fieldLink "MineAir$Flow" 133 "MineAir$Book" "head" "[I" ∈ wG := wG_of 255 (by decide +kernel) (by decide +kernel)
theorem wd_285 : Cond.fieldLink "MineAir$Flow" 120 "MineAir$Book" "knots" "I" ∈ wG := wG_of 285 (by decide +kernel) (by decide +kernel)
theorem wd_454 : Cond.fieldLink "MineAir$Flow" 31 "MineAir$Flow" "label" "[J" ∈ wG := wG_of 454 (by decide +kernel) (by decide +kernel)
theorem wd_455 : Cond.fieldLink "MineAir$Flow" 34 "MineAir$Flow" "cause" "[I" ∈ wG := wG_of 455 (by decide +kernel) (by decide +kernel)
theorem wd_456 : Cond.fieldLink "MineAir$Flow" 37 "MineAir$Flow" "seen" "[I" ∈ wG := wG_of 456 (by decide +kernel) (by decide +kernel)
theorem wd_457 : Cond.fieldLink "MineAir$Flow" 40 "MineAir$Flow" "round" "[I" ∈ wG := wG_of 457 (by decide +kernel) (by decide +kernel)
theorem wd_1020 : Cond.methodLink "MineAir$Flow" 66 (⟨"MineAir$Flow", "rate", "(II)V"⟩ : MethodName) ∈ wG := wG_of 1020 (by decide +kernel) (by decide +kernel)
theorem wd_1022 : Cond.instanceMethod (⟨"MineAir$Flow", "rate", "(II)V"⟩ : MethodName) ∈ wG := wG_of 1022 (by decide +kernel) (by decide +kernel)
theorem wd_1023 : Cond.code (⟨"MineAir$Flow", "rate", "(II)V"⟩ : MethodName) prog_4_method_7_code 6 (Option.none : Option Jvm.ClassFile.FieldType) ∈ wG := wG_of 1023 (by decide +kernel) (by decide +kernel)
theorem wd_1049 : Cond.methodLink "MineAir$Flow" 136 (⟨"MineAir$Flow", "cameFrom", "(I)I"⟩ : MethodName) ∈ wG := wG_of 1049 (by decide +kernel) (by decide +kernel)
theorem wd_1051 : Cond.instanceMethod (⟨"MineAir$Flow", "cameFrom", "(I)I"⟩ : MethodName) ∈ wG := wG_of 1051 (by decide +kernel) (by decide +kernel)
theorem wd_1052 : Cond.code (⟨"MineAir$Flow", "cameFrom", "(I)I"⟩ : MethodName) prog_4_method_11_code 2 (Option.some Jvm.ClassFile.FieldType.int) ∈ wG := wG_of 1052 (by decide +kernel) (by decide +kernel)
theorem wd_1057 : Cond.methodLink "MineAir$Flow" 139 (⟨"MineAir$Flow", "gains", "(I)Z"⟩ : MethodName) ∈ wG := wG_of 1057 (by decide +kernel) (by decide +kernel)
theorem wd_1059 : Cond.instanceMethod (⟨"MineAir$Flow", "gains", "(I)Z"⟩ : MethodName) ∈ wG := wG_of 1059 (by decide +kernel) (by decide +kernel)
theorem wd_1060 : Cond.code (⟨"MineAir$Flow", "gains", "(I)Z"⟩ : MethodName) prog_4_method_13_code 8 (Option.some Jvm.ClassFile.FieldType.boolean) ∈ wG := wG_of 1060 (by decide +kernel) (by decide +kernel)
theorem dX2_cameFrom_0 : decode cX2_cameFrom 0 = .ok (.iload_n 1, 1) := by decide +kernel
theorem dX2_cameFrom_1 : decode cX2_cameFrom 1 = .ok (.iconst 2, 1) := by decide +kernel
theorem dX2_cameFrom_2 : decode cX2_cameFrom 2 = .ok (.irem, 1) := by decide +kernel
theorem dX2_cameFrom_3 : decode cX2_cameFrom 3 = .ok (.ifCond .ne 17, 3) := by decide +kernel
theorem dX2_cameFrom_6 : decode cX2_cameFrom 6 = .ok (.aload_n 0, 1) := by decide +kernel
theorem dX2_cameFrom_7 : decode cX2_cameFrom 7 = .ok (.getfield 43, 3) := by decide +kernel
theorem dX2_cameFrom_10 : decode cX2_cameFrom 10 = .ok (.getfield 130, 3) := by decide +kernel
theorem dX2_cameFrom_13 : decode cX2_cameFrom 13 = .ok (.iload_n 1, 1) := by decide +kernel
theorem dX2_cameFrom_14 : decode cX2_cameFrom 14 = .ok (.iconst 2, 1) := by decide +kernel
theorem dX2_cameFrom_15 : decode cX2_cameFrom 15 = .ok (.idiv, 1) := by decide +kernel
theorem dX2_cameFrom_16 : decode cX2_cameFrom 16 = .ok (.iaload, 1) := by decide +kernel
theorem dX2_cameFrom_17 : decode cX2_cameFrom 17 = .ok (.goto 14, 3) := by decide +kernel
theorem dX2_cameFrom_20 : decode cX2_cameFrom 20 = .ok (.aload_n 0, 1) := by decide +kernel
theorem dX2_cameFrom_21 : decode cX2_cameFrom 21 = .ok (.getfield 43, 3) := by decide +kernel
theorem dX2_cameFrom_24 : decode cX2_cameFrom 24 = .ok (.getfield 133, 3) := by decide +kernel
theorem dX2_cameFrom_27 : decode cX2_cameFrom 27 = .ok (.iload_n 1, 1) := by decide +kernel
theorem dX2_cameFrom_28 : decode cX2_cameFrom 28 = .ok (.iconst 2, 1) := by decide +kernel
theorem dX2_cameFrom_29 : decode cX2_cameFrom 29 = .ok (.idiv, 1) := by decide +kernel
theorem dX2_cameFrom_30 : decode cX2_cameFrom 30 = .ok (.iaload, 1) := by decide +kernel
theorem dX2_cameFrom_31 : decode cX2_cameFrom 31 = .ok (.ireturn, 1) := by decide +kernel
theorem dX2_closedKnot_0 : decode cX2_closedKnot 0 = .ok (.aload_n 0, 1) := by decide +kernel
theorem dX2_closedKnot_1 : decode cX2_closedKnot 1 = .ok (.getfield 37, 3) := by decide +kernel
theorem dX2_closedKnot_4 : decode cX2_closedKnot 4 = .ok (.iconst (-1), 1) := by decide +kernel
theorem dX2_closedKnot_5 : decode cX2_closedKnot 5 = .ok (.invokestatic 51, 3) := by decide +kernel
theorem dX2_closedKnot_8 : decode cX2_closedKnot 8 = .ok (.iconst 0, 1) := by decide +kernel
theorem dX2_closedKnot_9 : decode cX2_closedKnot 9 = .ok (.istore_n 1, 1) := by decide +kernel
theorem dX2_closedKnot_10 : decode cX2_closedKnot 10 = .ok (.iload_n 1, 1) := by decide +kernel
theorem dX2_closedKnot_11 : decode cX2_closedKnot 11 = .ok (.aload_n 0, 1) := by decide +kernel
theorem dX2_closedKnot_12 : decode cX2_closedKnot 12 = .ok (.getfield 43, 3) := by decide +kernel
theorem dX2_closedKnot_15 : decode cX2_closedKnot 15 = .ok (.getfield 120, 3) := by decide +kernel
theorem dX2_closedKnot_18 : decode cX2_closedKnot 18 = .ok (.if_icmp .ge 83, 3) := by decide +kernel
theorem dX2_closedKnot_21 : decode cX2_closedKnot 21 = .ok (.iload_n 1, 1) := by decide +kernel
theorem dX2_closedKnot_22 : decode cX2_closedKnot 22 = .ok (.istore_n 2, 1) := by decide +kernel
theorem dX2_closedKnot_23 : decode cX2_closedKnot 23 = .ok (.iconst 0, 1) := by decide +kernel
theorem dX2_closedKnot_24 : decode cX2_closedKnot 24 = .ok (.istore_n 3, 1) := by decide +kernel
theorem dX2_closedKnot_25 : decode cX2_closedKnot 25 = .ok (.iload_n 3, 1) := by decide +kernel
theorem dX2_closedKnot_26 : decode cX2_closedKnot 26 = .ok (.aload_n 0, 1) := by decide +kernel
theorem dX2_closedKnot_27 : decode cX2_closedKnot 27 = .ok (.getfield 43, 3) := by decide +kernel
theorem dX2_closedKnot_30 : decode cX2_closedKnot 30 = .ok (.getfield 120, 3) := by decide +kernel
theorem dX2_closedKnot_33 : decode cX2_closedKnot 33 = .ok (.if_icmp .gt 62, 3) := by decide +kernel
theorem dX2_closedKnot_36 : decode cX2_closedKnot 36 = .ok (.aload_n 0, 1) := by decide +kernel
theorem dX2_closedKnot_37 : decode cX2_closedKnot 37 = .ok (.getfield 37, 3) := by decide +kernel
theorem dX2_closedKnot_40 : decode cX2_closedKnot 40 = .ok (.iload_n 2, 1) := by decide +kernel
theorem dX2_closedKnot_41 : decode cX2_closedKnot 41 = .ok (.iaload, 1) := by decide +kernel
theorem dX2_closedKnot_42 : decode cX2_closedKnot 42 = .ok (.iload_n 1, 1) := by decide +kernel
theorem dX2_closedKnot_43 : decode cX2_closedKnot 43 = .ok (.if_icmp .ne 5, 3) := by decide +kernel
theorem dX2_closedKnot_46 : decode cX2_closedKnot 46 = .ok (.iload_n 2, 1) := by decide +kernel
theorem dX2_closedKnot_47 : decode cX2_closedKnot 47 = .ok (.ireturn, 1) := by decide +kernel
theorem dX2_closedKnot_48 : decode cX2_closedKnot 48 = .ok (.aload_n 0, 1) := by decide +kernel
theorem dX2_closedKnot_49 : decode cX2_closedKnot 49 = .ok (.getfield 37, 3) := by decide +kernel
theorem dX2_closedKnot_52 : decode cX2_closedKnot 52 = .ok (.iload_n 2, 1) := by decide +kernel
theorem dX2_closedKnot_53 : decode cX2_closedKnot 53 = .ok (.iaload, 1) := by decide +kernel
theorem dX2_closedKnot_54 : decode cX2_closedKnot 54 = .ok (.iconst (-1), 1) := by decide +kernel
theorem dX2_closedKnot_55 : decode cX2_closedKnot 55 = .ok (.if_icmp .ne 40, 3) := by decide +kernel
theorem dX2_closedKnot_58 : decode cX2_closedKnot 58 = .ok (.aload_n 0, 1) := by decide +kernel
theorem dX2_closedKnot_59 : decode cX2_closedKnot 59 = .ok (.getfield 34, 3) := by decide +kernel
theorem dX2_closedKnot_62 : decode cX2_closedKnot 62 = .ok (.iload_n 2, 1) := by decide +kernel
theorem dX2_closedKnot_63 : decode cX2_closedKnot 63 = .ok (.iaload, 1) := by decide +kernel
theorem dX2_closedKnot_64 : decode cX2_closedKnot 64 = .ok (.iconst (-1), 1) := by decide +kernel
theorem dX2_closedKnot_65 : decode cX2_closedKnot 65 = .ok (.if_icmp .ne 6, 3) := by decide +kernel
theorem dX2_closedKnot_68 : decode cX2_closedKnot 68 = .ok (.goto 27, 3) := by decide +kernel
theorem dX2_closedKnot_71 : decode cX2_closedKnot 71 = .ok (.aload_n 0, 1) := by decide +kernel
theorem dX2_closedKnot_72 : decode cX2_closedKnot 72 = .ok (.getfield 37, 3) := by decide +kernel
theorem dX2_closedKnot_75 : decode cX2_closedKnot 75 = .ok (.iload_n 2, 1) := by decide +kernel
theorem dX2_closedKnot_76 : decode cX2_closedKnot 76 = .ok (.iload_n 1, 1) := by decide +kernel
theorem dX2_closedKnot_77 : decode cX2_closedKnot 77 = .ok (.iastore, 1) := by decide +kernel
theorem dX2_closedKnot_78 : decode cX2_closedKnot 78 = .ok (.aload_n 0, 1) := by decide +kernel
theorem dX2_closedKnot_79 : decode cX2_closedKnot 79 = .ok (.aload_n 0, 1) := by decide +kernel
theorem dX2_closedKnot_80 : decode cX2_closedKnot 80 = .ok (.getfield 34, 3) := by decide +kernel
theorem dX2_closedKnot_83 : decode cX2_closedKnot 83 = .ok (.iload_n 2, 1) := by decide +kernel
theorem dX2_closedKnot_84 : decode cX2_closedKnot 84 = .ok (.iaload, 1) := by decide +kernel
theorem dX2_closedKnot_85 : decode cX2_closedKnot 85 = .ok (.invokevirtual 136, 3) := by decide +kernel
theorem dX2_closedKnot_88 : decode cX2_closedKnot 88 = .ok (.istore_n 2, 1) := by decide +kernel
theorem dX2_closedKnot_89 : decode cX2_closedKnot 89 = .ok (.iinc 3 1, 3) := by decide +kernel
theorem dX2_closedKnot_92 : decode cX2_closedKnot 92 = .ok (.goto (-67), 3) := by decide +kernel
theorem dX2_closedKnot_95 : decode cX2_closedKnot 95 = .ok (.iinc 1 1, 3) := by decide +kernel
theorem dX2_closedKnot_98 : decode cX2_closedKnot 98 = .ok (.goto (-88), 3) := by decide +kernel
theorem dX2_closedKnot_101 : decode cX2_closedKnot 101 = .ok (.iconst (-1), 1) := by decide +kernel
theorem dX2_closedKnot_102 : decode cX2_closedKnot 102 = .ok (.ireturn, 1) := by decide +kernel
theorem dX2_followRound_0 : decode cX2_followRound 0 = .ok (.iconst 0, 1) := by decide +kernel
theorem dX2_followRound_1 : decode cX2_followRound 1 = .ok (.istore_n 3, 1) := by decide +kernel
theorem dX2_followRound_2 : decode cX2_followRound 2 = .ok (.iload_n 1, 1) := by decide +kernel
theorem dX2_followRound_3 : decode cX2_followRound 3 = .ok (.istore 4, 2) := by decide +kernel
theorem dX2_followRound_5 : decode cX2_followRound 5 = .ok (.iconst 0, 1) := by decide +kernel
theorem dX2_followRound_6 : decode cX2_followRound 6 = .ok (.istore 5, 2) := by decide +kernel
theorem dX2_followRound_8 : decode cX2_followRound 8 = .ok (.iload 5, 2) := by decide +kernel
theorem dX2_followRound_10 : decode cX2_followRound 10 = .ok (.aload_n 0, 1) := by decide +kernel
theorem dX2_followRound_11 : decode cX2_followRound 11 = .ok (.getfield 43, 3) := by decide +kernel
theorem dX2_followRound_14 : decode cX2_followRound 14 = .ok (.getfield 120, 3) := by decide +kernel
theorem dX2_followRound_17 : decode cX2_followRound 17 = .ok (.if_icmp .ge 50, 3) := by decide +kernel
theorem dX2_followRound_20 : decode cX2_followRound 20 = .ok (.aload_n 0, 1) := by decide +kernel
theorem dX2_followRound_21 : decode cX2_followRound 21 = .ok (.getfield 40, 3) := by decide +kernel
theorem dX2_followRound_24 : decode cX2_followRound 24 = .ok (.iload 5, 2) := by decide +kernel
theorem dX2_followRound_26 : decode cX2_followRound 26 = .ok (.aload_n 0, 1) := by decide +kernel
theorem dX2_followRound_27 : decode cX2_followRound 27 = .ok (.getfield 34, 3) := by decide +kernel
theorem dX2_followRound_30 : decode cX2_followRound 30 = .ok (.iload 4, 2) := by decide +kernel
theorem dX2_followRound_32 : decode cX2_followRound 32 = .ok (.iaload, 1) := by decide +kernel
theorem dX2_followRound_33 : decode cX2_followRound 33 = .ok (.iastore, 1) := by decide +kernel
theorem dX2_followRound_34 : decode cX2_followRound 34 = .ok (.iload 5, 2) := by decide +kernel
theorem dX2_followRound_36 : decode cX2_followRound 36 = .ok (.iconst 1, 1) := by decide +kernel
theorem dX2_followRound_37 : decode cX2_followRound 37 = .ok (.iadd, 1) := by decide +kernel
theorem dX2_followRound_38 : decode cX2_followRound 38 = .ok (.istore_n 3, 1) := by decide +kernel
theorem dX2_followRound_39 : decode cX2_followRound 39 = .ok (.aload_n 0, 1) := by decide +kernel
theorem dX2_followRound_40 : decode cX2_followRound 40 = .ok (.aload_n 0, 1) := by decide +kernel
theorem dX2_followRound_41 : decode cX2_followRound 41 = .ok (.getfield 34, 3) := by decide +kernel
theorem dX2_followRound_44 : decode cX2_followRound 44 = .ok (.iload 4, 2) := by decide +kernel
theorem dX2_followRound_46 : decode cX2_followRound 46 = .ok (.iaload, 1) := by decide +kernel
theorem dX2_followRound_47 : decode cX2_followRound 47 = .ok (.invokevirtual 136, 3) := by decide +kernel
theorem dX2_followRound_50 : decode cX2_followRound 50 = .ok (.istore 4, 2) := by decide +kernel
theorem dX2_followRound_52 : decode cX2_followRound 52 = .ok (.iload 4, 2) := by decide +kernel
theorem dX2_followRound_54 : decode cX2_followRound 54 = .ok (.iload_n 1, 1) := by decide +kernel
theorem dX2_followRound_55 : decode cX2_followRound 55 = .ok (.if_icmp .ne 6, 3) := by decide +kernel
theorem dX2_followRound_58 : decode cX2_followRound 58 = .ok (.goto 9, 3) := by decide +kernel
theorem dX2_followRound_61 : decode cX2_followRound 61 = .ok (.iinc 5 1, 3) := by decide +kernel
theorem dX2_followRound_64 : decode cX2_followRound 64 = .ok (.goto (-56), 3) := by decide +kernel
theorem dX2_followRound_67 : decode cX2_followRound 67 = .ok (.iconst 0, 1) := by decide +kernel
theorem dX2_followRound_68 : decode cX2_followRound 68 = .ok (.istore 5, 2) := by decide +kernel
theorem dX2_followRound_70 : decode cX2_followRound 70 = .ok (.iload 5, 2) := by decide +kernel
theorem dX2_followRound_72 : decode cX2_followRound 72 = .ok (.bipush 120, 2) := by decide +kernel
theorem dX2_followRound_74 : decode cX2_followRound 74 = .ok (.if_icmp .gt 79, 3) := by decide +kernel
theorem dX2_followRound_77 : decode cX2_followRound 77 = .ok (.aload_n 0, 1) := by decide +kernel
theorem dX2_followRound_78 : decode cX2_followRound 78 = .ok (.iload_n 3, 1) := by decide +kernel
theorem dX2_followRound_79 : decode cX2_followRound 79 = .ok (.invokevirtual 139, 3) := by decide +kernel
theorem dX2_followRound_82 : decode cX2_followRound 82 = .ok (.ifCond .ne 4, 3) := by decide +kernel
theorem dX2_followRound_85 : decode cX2_followRound 85 = .ok (.return_, 1) := by decide +kernel
theorem dX2_followRound_86 : decode cX2_followRound 86 = .ok (.iconst 0, 1) := by decide +kernel
theorem dX2_followRound_87 : decode cX2_followRound 87 = .ok (.istore 6, 2) := by decide +kernel
theorem dX2_followRound_89 : decode cX2_followRound 89 = .ok (.iload 6, 2) := by decide +kernel
theorem dX2_followRound_91 : decode cX2_followRound 91 = .ok (.iload_n 3, 1) := by decide +kernel
theorem dX2_followRound_92 : decode cX2_followRound 92 = .ok (.if_icmp .ge 55, 3) := by decide +kernel
theorem dX2_followRound_95 : decode cX2_followRound 95 = .ok (.aload_n 0, 1) := by decide +kernel
theorem dX2_followRound_96 : decode cX2_followRound 96 = .ok (.getfield 40, 3) := by decide +kernel
theorem dX2_followRound_99 : decode cX2_followRound 99 = .ok (.iload 6, 2) := by decide +kernel
theorem dX2_followRound_101 : decode cX2_followRound 101 = .ok (.iaload, 1) := by decide +kernel
theorem dX2_followRound_102 : decode cX2_followRound 102 = .ok (.iconst 2, 1) := by decide +kernel
theorem dX2_followRound_103 : decode cX2_followRound 103 = .ok (.idiv, 1) := by decide +kernel
theorem dX2_followRound_104 : decode cX2_followRound 104 = .ok (.istore 7, 2) := by decide +kernel
theorem dX2_followRound_106 : decode cX2_followRound 106 = .ok (.aload_n 0, 1) := by decide +kernel
theorem dX2_followRound_107 : decode cX2_followRound 107 = .ok (.getfield 9, 3) := by decide +kernel
theorem dX2_followRound_110 : decode cX2_followRound 110 = .ok (.iload 7, 2) := by decide +kernel
theorem dX2_followRound_112 : decode cX2_followRound 112 = .ok (.dup2, 1) := by decide +kernel
theorem dX2_followRound_113 : decode cX2_followRound 113 = .ok (.iaload, 1) := by decide +kernel
theorem dX2_followRound_114 : decode cX2_followRound 114 = .ok (.aload_n 0, 1) := by decide +kernel
theorem dX2_followRound_115 : decode cX2_followRound 115 = .ok (.getfield 40, 3) := by decide +kernel
theorem dX2_followRound_118 : decode cX2_followRound 118 = .ok (.iload 6, 2) := by decide +kernel
theorem dX2_followRound_120 : decode cX2_followRound 120 = .ok (.iaload, 1) := by decide +kernel
theorem dX2_followRound_121 : decode cX2_followRound 121 = .ok (.iconst 2, 1) := by decide +kernel
theorem dX2_followRound_122 : decode cX2_followRound 122 = .ok (.irem, 1) := by decide +kernel
theorem dX2_followRound_123 : decode cX2_followRound 123 = .ok (.ifCond .ne 7, 3) := by decide +kernel
theorem dX2_followRound_126 : decode cX2_followRound 126 = .ok (.iload_n 2, 1) := by decide +kernel
theorem dX2_followRound_127 : decode cX2_followRound 127 = .ok (.goto 5, 3) := by decide +kernel
theorem dX2_followRound_130 : decode cX2_followRound 130 = .ok (.iload_n 2, 1) := by decide +kernel
theorem dX2_followRound_131 : decode cX2_followRound 131 = .ok (.ineg, 1) := by decide +kernel
theorem dX2_followRound_132 : decode cX2_followRound 132 = .ok (.iadd, 1) := by decide +kernel
theorem dX2_followRound_133 : decode cX2_followRound 133 = .ok (.iastore, 1) := by decide +kernel
theorem dX2_followRound_134 : decode cX2_followRound 134 = .ok (.aload_n 0, 1) := by decide +kernel
theorem dX2_followRound_135 : decode cX2_followRound 135 = .ok (.iload 7, 2) := by decide +kernel
theorem dX2_followRound_137 : decode cX2_followRound 137 = .ok (.iload_n 2, 1) := by decide +kernel
theorem dX2_followRound_138 : decode cX2_followRound 138 = .ok (.invokevirtual 66, 3) := by decide +kernel
theorem dX2_followRound_141 : decode cX2_followRound 141 = .ok (.iinc 6 1, 3) := by decide +kernel
theorem dX2_followRound_144 : decode cX2_followRound 144 = .ok (.goto (-55), 3) := by decide +kernel
theorem dX2_followRound_147 : decode cX2_followRound 147 = .ok (.iinc 5 1, 3) := by decide +kernel
theorem dX2_followRound_150 : decode cX2_followRound 150 = .ok (.goto (-80), 3) := by decide +kernel
theorem dX2_followRound_153 : decode cX2_followRound 153 = .ok (.return_, 1) := by decide +kernel
theorem dX2_gains_0 : decode cX2_gains 0 = .ok (.lconst 0, 1) := by decide +kernel
theorem dX2_gains_1 : decode cX2_gains 1 = .ok (.lstore_n 2, 1) := by decide +kernel
theorem dX2_gains_2 : decode cX2_gains 2 = .ok (.iconst 0, 1) := by decide +kernel
theorem dX2_gains_3 : decode cX2_gains 3 = .ok (.istore 4, 2) := by decide +kernel
theorem dX2_gains_5 : decode cX2_gains 5 = .ok (.iload 4, 2) := by decide +kernel
theorem dX2_gains_7 : decode cX2_gains 7 = .ok (.iload_n 1, 1) := by decide +kernel
theorem dX2_gains_8 : decode cX2_gains 8 = .ok (.if_icmp .ge 67, 3) := by decide +kernel
theorem dX2_gains_11 : decode cX2_gains 11 = .ok (.aload_n 0, 1) := by decide +kernel
theorem dX2_gains_12 : decode cX2_gains 12 = .ok (.getfield 40, 3) := by decide +kernel
theorem dX2_gains_15 : decode cX2_gains 15 = .ok (.iload 4, 2) := by decide +kernel
theorem dX2_gains_17 : decode cX2_gains 17 = .ok (.iaload, 1) := by decide +kernel
theorem dX2_gains_18 : decode cX2_gains 18 = .ok (.iconst 2, 1) := by decide +kernel
theorem dX2_gains_19 : decode cX2_gains 19 = .ok (.idiv, 1) := by decide +kernel
theorem dX2_gains_20 : decode cX2_gains 20 = .ok (.istore 5, 2) := by decide +kernel
theorem dX2_gains_22 : decode cX2_gains 22 = .ok (.aload_n 0, 1) := by decide +kernel
theorem dX2_gains_23 : decode cX2_gains 23 = .ok (.getfield 40, 3) := by decide +kernel
theorem dX2_gains_26 : decode cX2_gains 26 = .ok (.iload 4, 2) := by decide +kernel
theorem dX2_gains_28 : decode cX2_gains 28 = .ok (.iaload, 1) := by decide +kernel
theorem dX2_gains_29 : decode cX2_gains 29 = .ok (.iconst 2, 1) := by decide +kernel
theorem dX2_gains_30 : decode cX2_gains 30 = .ok (.irem, 1) := by decide +kernel
theorem dX2_gains_31 : decode cX2_gains 31 = .ok (.ifCond .ne 13, 3) := by decide +kernel
theorem dX2_gains_34 : decode cX2_gains 34 = .ok (.aload_n 0, 1) := by decide +kernel
theorem dX2_gains_35 : decode cX2_gains 35 = .ok (.getfield 25, 3) := by decide +kernel
theorem dX2_gains_38 : decode cX2_gains 38 = .ok (.iload 5, 2) := by decide +kernel
theorem dX2_gains_40 : decode cX2_gains 40 = .ok (.laload, 1) := by decide +kernel
theorem dX2_gains_41 : decode cX2_gains 41 = .ok (.goto 10, 3) := by decide +kernel
theorem dX2_gains_44 : decode cX2_gains 44 = .ok (.aload_n 0, 1) := by decide +kernel
theorem dX2_gains_45 : decode cX2_gains 45 = .ok (.getfield 28, 3) := by decide +kernel
theorem dX2_gains_48 : decode cX2_gains 48 = .ok (.iload 5, 2) := by decide +kernel
theorem dX2_gains_50 : decode cX2_gains 50 = .ok (.laload, 1) := by decide +kernel
theorem dX2_gains_51 : decode cX2_gains 51 = .ok (.lstore 6, 2) := by decide +kernel
theorem dX2_gains_53 : decode cX2_gains 53 = .ok (.lload 6, 2) := by decide +kernel
theorem dX2_gains_55 : decode cX2_gains 55 = .ok (.ldc2_w 115, 3) := by decide +kernel
theorem dX2_gains_58 : decode cX2_gains 58 = .ok (.lcmp, 1) := by decide +kernel
theorem dX2_gains_59 : decode cX2_gains 59 = .ok (.ifCond .ne 5, 3) := by decide +kernel
theorem dX2_gains_62 : decode cX2_gains 62 = .ok (.iconst 0, 1) := by decide +kernel
theorem dX2_gains_63 : decode cX2_gains 63 = .ok (.ireturn, 1) := by decide +kernel
theorem dX2_gains_64 : decode cX2_gains 64 = .ok (.lload_n 2, 1) := by decide +kernel
theorem dX2_gains_65 : decode cX2_gains 65 = .ok (.lload 6, 2) := by decide +kernel
theorem dX2_gains_67 : decode cX2_gains 67 = .ok (.ladd, 1) := by decide +kernel
theorem dX2_gains_68 : decode cX2_gains 68 = .ok (.lstore_n 2, 1) := by decide +kernel
theorem dX2_gains_69 : decode cX2_gains 69 = .ok (.iinc 4 1, 3) := by decide +kernel
theorem dX2_gains_72 : decode cX2_gains 72 = .ok (.goto (-67), 3) := by decide +kernel
theorem dX2_gains_75 : decode cX2_gains 75 = .ok (.lload_n 2, 1) := by decide +kernel
theorem dX2_gains_76 : decode cX2_gains 76 = .ok (.lconst 0, 1) := by decide +kernel
theorem dX2_gains_77 : decode cX2_gains 77 = .ok (.lcmp, 1) := by decide +kernel
theorem dX2_gains_78 : decode cX2_gains 78 = .ok (.ifCond .ge 7, 3) := by decide +kernel
theorem dX2_gains_81 : decode cX2_gains 81 = .ok (.iconst 1, 1) := by decide +kernel
theorem dX2_gains_82 : decode cX2_gains 82 = .ok (.goto 4, 3) := by decide +kernel
theorem dX2_gains_85 : decode cX2_gains 85 = .ok (.iconst 0, 1) := by decide +kernel
theorem dX2_gains_86 : decode cX2_gains 86 = .ok (.ireturn, 1) := by decide +kernel
theorem dX2_relax_0 : decode cX2_relax 0 = .ok (.iconst 0, 1) := by decide +kernel
theorem dX2_relax_1 : decode cX2_relax 1 = .ok (.istore_n 1, 1) := by decide +kernel
theorem dX2_relax_2 : decode cX2_relax 2 = .ok (.aload_n 0, 1) := by decide +kernel
theorem dX2_relax_3 : decode cX2_relax 3 = .ok (.getfield 43, 3) := by decide +kernel
theorem dX2_relax_6 : decode cX2_relax 6 = .ok (.getfield 60, 3) := by decide +kernel
theorem dX2_relax_9 : decode cX2_relax 9 = .ok (.istore_n 2, 1) := by decide +kernel
theorem dX2_relax_10 : decode cX2_relax 10 = .ok (.iconst 0, 1) := by decide +kernel
theorem dX2_relax_11 : decode cX2_relax 11 = .ok (.istore_n 3, 1) := by decide +kernel
theorem dX2_relax_12 : decode cX2_relax 12 = .ok (.iload_n 3, 1) := by decide +kernel
theorem dX2_relax_13 : decode cX2_relax 13 = .ok (.iload_n 2, 1) := by decide +kernel
theorem dX2_relax_14 : decode cX2_relax 14 = .ok (.if_icmp .ge 133, 3) := by decide +kernel
theorem dX2_relax_17 : decode cX2_relax 17 = .ok (.aload_n 0, 1) := by decide +kernel
theorem dX2_relax_18 : decode cX2_relax 18 = .ok (.getfield 43, 3) := by decide +kernel
theorem dX2_relax_21 : decode cX2_relax 21 = .ok (.getfield 130, 3) := by decide +kernel
theorem dX2_relax_24 : decode cX2_relax 24 = .ok (.iload_n 3, 1) := by decide +kernel
theorem dX2_relax_25 : decode cX2_relax 25 = .ok (.iaload, 1) := by decide +kernel
theorem dX2_relax_26 : decode cX2_relax 26 = .ok (.istore 4, 2) := by decide +kernel
theorem dX2_relax_28 : decode cX2_relax 28 = .ok (.aload_n 0, 1) := by decide +kernel
theorem dX2_relax_29 : decode cX2_relax 29 = .ok (.getfield 43, 3) := by decide +kernel
theorem dX2_relax_32 : decode cX2_relax 32 = .ok (.getfield 133, 3) := by decide +kernel
theorem dX2_relax_35 : decode cX2_relax 35 = .ok (.iload_n 3, 1) := by decide +kernel
theorem dX2_relax_36 : decode cX2_relax 36 = .ok (.iaload, 1) := by decide +kernel
theorem dX2_relax_37 : decode cX2_relax 37 = .ok (.istore 5, 2) := by decide +kernel
theorem dX2_relax_39 : decode cX2_relax 39 = .ok (.aload_n 0, 1) := by decide +kernel
theorem dX2_relax_40 : decode cX2_relax 40 = .ok (.getfield 31, 3) := by decide +kernel
theorem dX2_relax_43 : decode cX2_relax 43 = .ok (.iload 4, 2) := by decide +kernel
theorem dX2_relax_45 : decode cX2_relax 45 = .ok (.laload, 1) := by decide +kernel
theorem dX2_relax_46 : decode cX2_relax 46 = .ok (.aload_n 0, 1) := by decide +kernel
theorem dX2_relax_47 : decode cX2_relax 47 = .ok (.getfield 25, 3) := by decide +kernel
theorem dX2_relax_50 : decode cX2_relax 50 = .ok (.iload_n 3, 1) := by decide +kernel
theorem dX2_relax_51 : decode cX2_relax 51 = .ok (.laload, 1) := by decide +kernel
theorem dX2_relax_52 : decode cX2_relax 52 = .ok (.ladd, 1) := by decide +kernel
theorem dX2_relax_53 : decode cX2_relax 53 = .ok (.lstore 6, 2) := by decide +kernel
theorem dX2_relax_55 : decode cX2_relax 55 = .ok (.lload 6, 2) := by decide +kernel
theorem dX2_relax_57 : decode cX2_relax 57 = .ok (.aload_n 0, 1) := by decide +kernel
theorem dX2_relax_58 : decode cX2_relax 58 = .ok (.getfield 31, 3) := by decide +kernel
theorem dX2_relax_61 : decode cX2_relax 61 = .ok (.iload 5, 2) := by decide +kernel
theorem dX2_relax_63 : decode cX2_relax 63 = .ok (.laload, 1) := by decide +kernel
theorem dX2_relax_64 : decode cX2_relax 64 = .ok (.lcmp, 1) := by decide +kernel
theorem dX2_relax_65 : decode cX2_relax 65 = .ok (.ifCond .ge 24, 3) := by decide +kernel
theorem dX2_relax_68 : decode cX2_relax 68 = .ok (.aload_n 0, 1) := by decide +kernel
theorem dX2_relax_69 : decode cX2_relax 69 = .ok (.getfield 31, 3) := by decide +kernel
theorem dX2_relax_72 : decode cX2_relax 72 = .ok (.iload 5, 2) := by decide +kernel
theorem dX2_relax_74 : decode cX2_relax 74 = .ok (.lload 6, 2) := by decide +kernel
theorem dX2_relax_76 : decode cX2_relax 76 = .ok (.lastore, 1) := by decide +kernel
theorem dX2_relax_77 : decode cX2_relax 77 = .ok (.aload_n 0, 1) := by decide +kernel
theorem dX2_relax_78 : decode cX2_relax 78 = .ok (.getfield 34, 3) := by decide +kernel
theorem dX2_relax_81 : decode cX2_relax 81 = .ok (.iload 5, 2) := by decide +kernel
theorem dX2_relax_83 : decode cX2_relax 83 = .ok (.iconst 2, 1) := by decide +kernel
theorem dX2_relax_84 : decode cX2_relax 84 = .ok (.iload_n 3, 1) := by decide +kernel
theorem dX2_relax_85 : decode cX2_relax 85 = .ok (.imul, 1) := by decide +kernel
theorem dX2_relax_86 : decode cX2_relax 86 = .ok (.iastore, 1) := by decide +kernel
theorem dX2_relax_87 : decode cX2_relax 87 = .ok (.iconst 1, 1) := by decide +kernel
theorem dX2_relax_88 : decode cX2_relax 88 = .ok (.istore_n 1, 1) := by decide +kernel
theorem dX2_relax_89 : decode cX2_relax 89 = .ok (.aload_n 0, 1) := by decide +kernel
theorem dX2_relax_90 : decode cX2_relax 90 = .ok (.getfield 31, 3) := by decide +kernel
theorem dX2_relax_93 : decode cX2_relax 93 = .ok (.iload 5, 2) := by decide +kernel
theorem dX2_relax_95 : decode cX2_relax 95 = .ok (.laload, 1) := by decide +kernel
theorem dX2_relax_96 : decode cX2_relax 96 = .ok (.aload_n 0, 1) := by decide +kernel
theorem dX2_relax_97 : decode cX2_relax 97 = .ok (.getfield 28, 3) := by decide +kernel
theorem dX2_relax_100 : decode cX2_relax 100 = .ok (.iload_n 3, 1) := by decide +kernel
theorem dX2_relax_101 : decode cX2_relax 101 = .ok (.laload, 1) := by decide +kernel
theorem dX2_relax_102 : decode cX2_relax 102 = .ok (.ladd, 1) := by decide +kernel
theorem dX2_relax_103 : decode cX2_relax 103 = .ok (.lstore 8, 2) := by decide +kernel
theorem dX2_relax_105 : decode cX2_relax 105 = .ok (.lload 8, 2) := by decide +kernel
theorem dX2_relax_107 : decode cX2_relax 107 = .ok (.aload_n 0, 1) := by decide +kernel
theorem dX2_relax_108 : decode cX2_relax 108 = .ok (.getfield 31, 3) := by decide +kernel
theorem dX2_relax_111 : decode cX2_relax 111 = .ok (.iload 4, 2) := by decide +kernel
theorem dX2_relax_113 : decode cX2_relax 113 = .ok (.laload, 1) := by decide +kernel
theorem dX2_relax_114 : decode cX2_relax 114 = .ok (.lcmp, 1) := by decide +kernel
theorem dX2_relax_115 : decode cX2_relax 115 = .ok (.ifCond .ge 26, 3) := by decide +kernel
theorem dX2_relax_118 : decode cX2_relax 118 = .ok (.aload_n 0, 1) := by decide +kernel
theorem dX2_relax_119 : decode cX2_relax 119 = .ok (.getfield 31, 3) := by decide +kernel
theorem dX2_relax_122 : decode cX2_relax 122 = .ok (.iload 4, 2) := by decide +kernel
theorem dX2_relax_124 : decode cX2_relax 124 = .ok (.lload 8, 2) := by decide +kernel
theorem dX2_relax_126 : decode cX2_relax 126 = .ok (.lastore, 1) := by decide +kernel
theorem dX2_relax_127 : decode cX2_relax 127 = .ok (.aload_n 0, 1) := by decide +kernel
theorem dX2_relax_128 : decode cX2_relax 128 = .ok (.getfield 34, 3) := by decide +kernel
theorem dX2_relax_131 : decode cX2_relax 131 = .ok (.iload 4, 2) := by decide +kernel
theorem dX2_relax_133 : decode cX2_relax 133 = .ok (.iconst 2, 1) := by decide +kernel
theorem dX2_relax_134 : decode cX2_relax 134 = .ok (.iload_n 3, 1) := by decide +kernel
theorem dX2_relax_135 : decode cX2_relax 135 = .ok (.imul, 1) := by decide +kernel
theorem dX2_relax_136 : decode cX2_relax 136 = .ok (.iconst 1, 1) := by decide +kernel
theorem dX2_relax_137 : decode cX2_relax 137 = .ok (.iadd, 1) := by decide +kernel
theorem dX2_relax_138 : decode cX2_relax 138 = .ok (.iastore, 1) := by decide +kernel
theorem dX2_relax_139 : decode cX2_relax 139 = .ok (.iconst 1, 1) := by decide +kernel
theorem dX2_relax_140 : decode cX2_relax 140 = .ok (.istore_n 1, 1) := by decide +kernel
theorem dX2_relax_141 : decode cX2_relax 141 = .ok (.iinc 3 1, 3) := by decide +kernel
theorem dX2_relax_144 : decode cX2_relax 144 = .ok (.goto (-132), 3) := by decide +kernel
theorem dX2_relax_147 : decode cX2_relax 147 = .ok (.iload_n 1, 1) := by decide +kernel
theorem dX2_relax_148 : decode cX2_relax 148 = .ok (.ireturn, 1) := by decide +kernel
set_option maxHeartbeats 4000000 in
set_option maxRecDepth 100000 in
theorem c2_relax (l : Launch) (dC : Nat → ClassId) (dI : Nat → Nat → Nat) (n0 : Nat) (atx : Nat → Nat × Nat) (sz : Nat) (fw : Nat) (fw_air : Nat) (bk : Nat) (st : Nat) (fw_hindrance : Nat) (fw_pull : Nat) (fw_droop : Nat) (fw_forth : Nat) (fw_back : Nat) (fw_label : Nat) (fw_cause : Nat) (fw_seen : Nat) (fw_round : Nat) (bw : Nat) (bk_tail : Nat) (bk_head : Nat) (bk_hinder : Nat) (bk_size : Nat) (bk_walk : Nat) (bk_draught : Nat) (bk_doorIn : Nat) (bk_fanIn : Nat) (bk_faceIn : Nat) (bn : Nat) (bk_day : Int32) (gr : Nat) (k_bk_tail : ClassId) (f_bk_tail : Nat → Int32) (k_bk_head : ClassId) (f_bk_head : Nat → Int32) (k_fw_label : ClassId) (f_fw_label : Nat → Int64) (k_fw_forth : ClassId) (f_fw_forth : Nat → Int64) (k_fw_back : ClassId) (f_fw_back : Nat → Int64) (k_fw_cause : ClassId) (f_fw_cause : Nat → Int32) (hbw : bw ≤ 14) (hbn : bn ≤ 10) (q_day : -1 ≤ bk_day.toInt ∧ bk_day.toInt < 10) (q_tail : rg f_bk_tail 14 0 10) (q_head : rg f_bk_head 14 0 10) (r_cause : rg f_fw_cause 10 (-1) 28) : Met l yX2_relax (wM yX2_relax cX2_relax 10 (some .boolean)) ({ frames := 0, cells := 0, slots := 0, locals := 0 }) (va_Pc [.ref fw] (fun U => U.heap.size = sz ∧ n0 ≤ sz ∧ GW n0 atx U ∧ va_P (dC, dI) classes [(fw, .inr (2, [.ref fw_air, .ref bk, .ref st, .ref fw_hindrance, .ref fw_pull, .ref fw_droop, .ref fw_forth, .ref fw_back, .ref fw_label, .ref fw_cause, .ref fw_seen, .ref fw_round])), (bk, .inr (0, [.int (nI bw), .ref bk_tail, .ref bk_head, .ref bk_hinder, .ref bk_size, .ref bk_walk, .ref bk_draught, .ref bk_doorIn, .ref bk_fanIn, .ref bk_faceIn, .int (nI bn), .int bk_day, .ref gr])), (bk_tail, .inl (k_bk_tail, 14, .inl f_bk_tail)), (bk_head, .inl (k_bk_head, 14, .inl f_bk_head)), (fw_label, .inl (k_fw_label, 10, .inr (.inl f_fw_label))), (fw_forth, .inl (k_fw_forth, 14, .inr (.inl f_fw_forth))), (fw_back, .inl (k_fw_back, 14, .inr (.inl f_fw_back))), (fw_cause, .inl (k_fw_cause, 10, .inl f_fw_cause))] U.heap ∧ va_K (dC, dI) classes [(k_bk_tail, .int), (k_bk_head, .int), (k_fw_label, .long), (k_fw_forth, .long), (k_fw_back, .long), (k_fw_cause, .int)] U ∧ va_D (fun q => n0 ≤ q) [(fw, .inr (2, [.ref fw_air, .ref bk, .ref st, .ref fw_hindrance, .ref fw_pull, .ref fw_droop, .ref fw_forth, .ref fw_back, .ref fw_label, .ref fw_cause, .ref fw_seen, .ref fw_round])), (bk, .inr (0, [.int (nI bw), .ref bk_tail, .ref bk_head, .ref bk_hinder, .ref bk_size, .ref bk_walk, .ref bk_draught, .ref bk_doorIn, .ref bk_fanIn, .ref bk_faceIn, .int (nI bn), .int bk_day, .ref gr])), (bk_tail, .inl (k_bk_tail, 14, .inl f_bk_tail)), (bk_head, .inl (k_bk_head, 14, .inl f_bk_head)), (fw_label, .inl (k_fw_label, 10, .inr (.inl f_fw_label))), (fw_forth, .inl (k_fw_forth, 14, .inr (.inl f_fw_forth))), (fw_back, .inl (k_fw_back, 14, .inr (.inl f_fw_back))), (fw_cause, .inl (k_fw_cause, 10, .inl f_fw_cause))])) (va_Qi (fun (r : Int32) (_ : Unit) => r = 0 ∨ r = 1) (fun (_ : Unit) (t : State) => ∃ (la9 : Nat → Int64), ∃ (ca9 : Nat → Int32), (rg ca9 10 (-1) 28) ∧ va_P (dC, dI) classes [(fw, .inr (2, [.ref fw_air, .ref bk, .ref st, .ref fw_hindrance, .ref fw_pull, .ref fw_droop, .ref fw_forth, .ref fw_back, .ref fw_label, .ref fw_cause, .ref fw_seen, .ref fw_round])), (bk, .inr (0, [.int (nI bw), .ref bk_tail, .ref bk_head, .ref bk_hinder, .ref bk_size, .ref bk_walk, .ref bk_draught, .ref bk_doorIn, .ref bk_fanIn, .ref bk_faceIn, .int (nI bn), .int bk_day, .ref gr])), (bk_tail, .inl (k_bk_tail, 14, .inl f_bk_tail)), (bk_head, .inl (k_bk_head, 14, .inl f_bk_head)), (fw_label, .inl (k_fw_label, 10, .inr (.inl la9))), (fw_forth, .inl (k_fw_forth, 14, .inr (.inl f_fw_forth))), (fw_back, .inl (k_fw_back, 14, .inr (.inl f_fw_back))), (fw_cause, .inl (k_fw_cause, 10, .inl ca9))] t.heap ∧ va_K (dC, dI) classes [(k_bk_tail, .int), (k_bk_head, .int), (k_fw_label, .long), (k_fw_forth, .long), (k_fw_back, .long), (k_fw_cause, .int)] t ∧ va_D (va_A [(fw, .inr (2, [.ref fw_air, .ref bk, .ref st, .ref fw_hindrance, .ref fw_pull, .ref fw_droop, .ref fw_forth, .ref fw_back, .ref fw_label, .ref fw_cause, .ref fw_seen, .ref fw_round])), (bk, .inr (0, [.int (nI bw), .ref bk_tail, .ref bk_head, .ref bk_hinder, .ref bk_size, .ref bk_walk, .ref bk_draught, .ref bk_doorIn, .ref bk_fanIn, .ref bk_faceIn, .int (nI bn), .int bk_day, .ref gr])), (bk_tail, .inl (k_bk_tail, 14, .inl f_bk_tail)), (bk_head, .inl (k_bk_head, 14, .inl f_bk_head)), (fw_label, .inl (k_fw_label, 10, .inr (.inl f_fw_label))), (fw_forth, .inl (k_fw_forth, 14, .inr (.inl f_fw_forth))), (fw_back, .inl (k_fw_back, 14, .inr (.inl f_fw_back))), (fw_cause, .inl (k_fw_cause, 10, .inl f_fw_cause))] sz) [(fw, .inr (2, [.ref fw_air, .ref bk, .ref st, .ref fw_hindrance, .ref fw_pull, .ref fw_droop, .ref fw_forth, .ref fw_back, .ref fw_label, .ref fw_cause, .ref fw_seen, .ref fw_round])), (bk, .inr (0, [.int (nI bw), .ref bk_tail, .ref bk_head, .ref bk_hinder, .ref bk_size, .ref bk_walk, .ref bk_draught, .ref bk_doorIn, .ref bk_fanIn, .ref bk_faceIn, .int (nI bn), .int bk_day, .ref gr])), (bk_tail, .inl (k_bk_tail, 14, .inl f_bk_tail)), (bk_head, .inl (k_bk_head, 14, .inl f_bk_head)), (fw_label, .inl (k_fw_label, 10, .inr (.inl la9))), (fw_forth, .inl (k_fw_forth, 14, .inr (.inl f_fw_forth))), (fw_back, .inl (k_fw_back, 14, .inr (.inl f_fw_back))), (fw_cause, .inl (k_fw_cause, 10, .inl ca9))]) (va_A [(fw, .inr (2, [.ref fw_air, .ref bk, .ref st, .ref fw_hindrance, .ref fw_pull, .ref fw_droop, .ref fw_forth, .ref fw_back, .ref fw_label, .ref fw_cause, .ref fw_seen, .ref fw_round])), (bk, .inr (0, [.int (nI bw), .ref bk_tail, .ref bk_head, .ref bk_hinder, .ref bk_size, .ref bk_walk, .ref bk_draught, .ref bk_doorIn, .ref bk_fanIn, .ref bk_faceIn, .int (nI bn), .int bk_day, .ref gr])), (bk_tail, .inl (k_bk_tail, 14, .inl f_bk_tail)), (bk_head, .inl (k_bk_head, 14, .inl f_bk_head)), (fw_label, .inl (k_fw_label, 10, .inr (.inl f_fw_label))), (fw_forth, .inl (k_fw_forth, 14, .inr (.inl f_fw_forth))), (fw_back, .inl (k_fw_back, 14, .inr (.inl f_fw_back))), (fw_cause, .inl (k_fw_cause, 10, .inl f_fw_cause))] sz)) 0 0 (va_A [(fw, .inr (2, [.ref fw_air, .ref bk, .ref st, .ref fw_hindrance, .ref fw_pull, .ref fw_droop, .ref fw_forth, .ref fw_back, .ref fw_label, .ref fw_cause, .ref fw_seen, .ref fw_round])), (bk, .inr (0, [.int (nI bw), .ref bk_tail, .ref bk_head, .ref bk_hinder, .ref bk_size, .ref bk_walk, .ref bk_draught, .ref bk_doorIn, .ref bk_fanIn, .ref bk_faceIn, .int (nI bn), .int bk_day, .ref gr])), (bk_tail, .inl (k_bk_tail, 14, .inl f_bk_tail)), (bk_head, .inl (k_bk_head, 14, .inl f_bk_head)), (fw_label, .inl (k_fw_label, 10, .inr (.inl f_fw_label))), (fw_forth, .inl (k_fw_forth, 14, .inr (.inl f_fw_forth))), (fw_back, .inl (k_fw_back, 14, .inr (.inl f_fw_back))), (fw_cause, .inl (k_fw_cause, 10, .inl f_fw_cause))] sz) := by
  refine Met.ofW (cc := cX2_relax) (maxL := 10) (ret := (some .boolean)) (by decide) rfl ?_
  intro p e s m args below meth c s₁ B hml hv
  obtain ⟨rfl, hsz, hn0, hG, hP, hK, hD0⟩ := hv
  have hx := B.exec
  have hb := B.bytes
  have hr := B.returns
  have hts := atoms_spec (ws := wM yX2_relax cX2_relax 10 (some .boolean)) B.pre
  have hown : s.vm.findClass RX2 = some m.cls := findClass_of_methodNamed B.named
  have hlocks := B.notSynchronized
  subst hsz
  have hD := hD0.self (sz := s.heap.size)
  have hA0 := vA_n0 hD0 hn0
  generalize hAe : va_A [(fw, .inr (2, [.ref fw_air, .ref bk, .ref st, .ref fw_hindrance, .ref fw_pull, .ref fw_droop, .ref fw_forth, .ref fw_back, .ref fw_label, .ref fw_cause, .ref fw_seen, .ref fw_round])), (bk, .inr (0, [.int (nI bw), .ref bk_tail, .ref bk_head, .ref bk_hinder, .ref bk_size, .ref bk_walk, .ref bk_draught, .ref bk_doorIn, .ref bk_fanIn, .ref bk_faceIn, .int (nI bn), .int bk_day, .ref gr])), (bk_tail, .inl (k_bk_tail, 14, .inl f_bk_tail)), (bk_head, .inl (k_bk_head, 14, .inl f_bk_head)), (fw_label, .inl (k_fw_label, 10, .inr (.inl f_fw_label))), (fw_forth, .inl (k_fw_forth, 14, .inr (.inl f_fw_forth))), (fw_back, .inl (k_fw_back, 14, .inr (.inl f_fw_back))), (fw_cause, .inl (k_fw_cause, 10, .inl f_fw_cause))] s.heap.size = A at hD hA0 ⊢
  have hA : ∀ q : Nat, s.heap.size ≤ q → A q := fun q h => by rw [← hAe]; exact Or.inr h
  have hS : va_S A s.heap s.heap [] := va_S.rf
  have hl := lv_entry ([.ref fw]) (n := 10) (Nat.le_of_ble_eq_true rfl)
  rw [lg_entry_eq]
  generalize (lg_sl ([.ref fw]) ++ List.replicate (10 - (lg_sl ([.ref fw])).length) Slot.unset).toArray = ls at hl ⊢
  have hl : lv_has ls 10 [(0, .ref fw)] := hl
  refine lv_iconst (v := 0) hx hb dX2_relax_0 (by decide) ?_
  refine lv_istore_n (lv' := [(1, .int 0), (0, .ref fw)]) hx hb dX2_relax_1 rfl hl (by decide) rfl (fun ls hl => ?_)
  refine lv_aload_n hx hb dX2_relax_2 rfl (lv_at hl 1 rfl) ?_
  refine va_get (D := (dC, dI)) (ci := 2) (v := .ref bk) (C := RX2) (T := TX2) (N := 12) hx hb hts (fun w h => wM_c (iX2 w h)) hown hK hP 0 rfl rfl 1 (by decide) (hts _ (wM_c wd_447)) (fun _ h9 => h9) rfl dX2_relax_3 ?_
  refine va_get (D := (dC, dI)) (ci := 0) (v := .int (nI bw)) (C := RX0) (T := TX0) (N := 13) hx hb hts (fun w h => wM_c (iX0 w h)) hown hK hP 1 rfl rfl 0 (by decide) (hts _ (wM_c wd_241)) (fun _ h9 => h9) rfl dX2_relax_6 ?_
  refine lv_istore_n (lv' := [(2, .int (nI bw)), (1, .int 0), (0, .ref fw)]) hx hb dX2_relax_9 rfl hl (by decide) rfl (fun ls hl => ?_)
  refine lv_iconst (v := 0) hx hb dX2_relax_10 (by decide) ?_
  refine lv_istore_n (lv' := [(3, .int 0), (2, .int (nI bw)), (1, .int 0), (0, .ref fw)]) hx hb dX2_relax_11 rfl hl (by decide) rfl (fun ls hl => ?_)
  refine W_lp4 (I := fun (mv : Int32) (i : Nat) (la1 : Nat → Int64) (ca1 : Nat → Int32) H locs ls => (i ≤ bw) ∧ (mv = 0 ∨ mv = 1) ∧ (rg ca1 10 (-1) 28) ∧ va_P (dC, dI) classes [(fw, .inr (2, [.ref fw_air, .ref bk, .ref st, .ref fw_hindrance, .ref fw_pull, .ref fw_droop, .ref fw_forth, .ref fw_back, .ref fw_label, .ref fw_cause, .ref fw_seen, .ref fw_round])), (bk, .inr (0, [.int (nI bw), .ref bk_tail, .ref bk_head, .ref bk_hinder, .ref bk_size, .ref bk_walk, .ref bk_draught, .ref bk_doorIn, .ref bk_fanIn, .ref bk_faceIn, .int (nI bn), .int bk_day, .ref gr])), (bk_tail, .inl (k_bk_tail, 14, .inl f_bk_tail)), (bk_head, .inl (k_bk_head, 14, .inl f_bk_head)), (fw_label, .inl (k_fw_label, 10, .inr (.inl la1))), (fw_forth, .inl (k_fw_forth, 14, .inr (.inl f_fw_forth))), (fw_back, .inl (k_fw_back, 14, .inr (.inl f_fw_back))), (fw_cause, .inl (k_fw_cause, 10, .inl ca1))] H ∧ va_D A [(fw, .inr (2, [.ref fw_air, .ref bk, .ref st, .ref fw_hindrance, .ref fw_pull, .ref fw_droop, .ref fw_forth, .ref fw_back, .ref fw_label, .ref fw_cause, .ref fw_seen, .ref fw_round])), (bk, .inr (0, [.int (nI bw), .ref bk_tail, .ref bk_head, .ref bk_hinder, .ref bk_size, .ref bk_walk, .ref bk_draught, .ref bk_doorIn, .ref bk_fanIn, .ref bk_faceIn, .int (nI bn), .int bk_day, .ref gr])), (bk_tail, .inl (k_bk_tail, 14, .inl f_bk_tail)), (bk_head, .inl (k_bk_head, 14, .inl f_bk_head)), (fw_label, .inl (k_fw_label, 10, .inr (.inl la1))), (fw_forth, .inl (k_fw_forth, 14, .inr (.inl f_fw_forth))), (fw_back, .inl (k_fw_back, 14, .inr (.inl f_fw_back))), (fw_cause, .inl (k_fw_cause, 10, .inl ca1))] ∧ va_S A s.heap H locs ∧ lv_has ls 10 [(0, .ref fw), (1, .int mv), (2, .int (nI bw)), (3, .int (nI i))]) (μ := fun (mv : Int32) (i : Nat) (la1 : Nat → Int64) (ca1 : Nat → Int32) => bw - i) ?_ 0 0 f_fw_label f_fw_cause _ _ _ ⟨(by first | with_reducible assumption | omega | exact vp_in_iff.mpr (by omega) | exact vp_in_nI (by omega) (by omega) | exact ⟨by omega, by omega⟩), (Or.inl rfl), (by first | with_reducible assumption | omega | exact vp_in_iff.mpr (by omega) | exact vp_in_nI (by omega) (by omega) | exact ⟨by omega, by omega⟩), hP, hD, hS, lv_sub hl [3, 2, 1, 0] rfl⟩
  intro mv i la1 ca1 H locs ls hI ih_1
  obtain ⟨hi, hmv, hca1, hP, hD, hS, hl⟩ := hI
  refine lv_iload_n hx hb dX2_relax_12 rfl (lv_at hl 3 rfl) ?_
  refine lv_iload_n hx hb dX2_relax_13 rfl (lv_at hl 2 rfl) ?_
  refine lv_icmp_ge (tgt := 147) hx hb dX2_relax_14 (by decide) (fun c_2 => ?_) (fun c_2 => ?_)
  · skip
    have g_3 := n_ge (a := i) (b := bw) c_2 (by omega) (by omega)
    refine lv_iload_n hx hb dX2_relax_147 rfl (lv_at hl 1 rfl) ?_
    have hK9 := hK.sub (tys' := [(k_bk_tail, .int), (k_bk_head, .int), (k_fw_label, .long), (k_fw_forth, .long), (k_fw_back, .long), (k_fw_cause, .int)]) [0, 1, 2, 3, 4, 5] rfl
    exact W.zret (v := mv) hx hb hr (by rcases hmv with rfl | rfl <;> rfl) (fun t ht hW => ⟨⟨mv, (), rfl, hmv, la1, ca1, (by assumption), by rw [ht]; exact hP.sub [0, 1, 2, 3, 4, 5, 6, 7] rfl, va_K.moved hW.alike hK9, hD.sub [0, 1, 2, 3, 4, 5, 6, 7] (by decide) rfl⟩, hS.F ht⟩) hS.2.2 dX2_relax_148
  · skip
    have g_4 := n_nge (a := i) (b := bw) c_2 (by omega) (by omega)
    refine lv_aload_n hx hb dX2_relax_17 rfl (lv_at hl 0 rfl) ?_
    refine va_get (D := (dC, dI)) (ci := 2) (v := .ref bk) (C := RX2) (T := TX2) (N := 12) hx hb hts (fun w h => wM_c (iX2 w h)) hown hK hP 0 rfl rfl 1 (by decide) (hts _ (wM_c wd_447)) (fun _ h9 => h9) rfl dX2_relax_18 ?_
    refine va_get (D := (dC, dI)) (ci := 0) (v := .ref bk_tail) (C := RX0) (T := TX0) (N := 13) hx hb hts (fun w h => wM_c (iX0 w h)) hown hK hP 1 rfl rfl 1 (by decide) (hts _ (wM_c wd_250)) (fun _ h9 => h9) rfl dX2_relax_21 ?_
    refine lv_iload_n hx hb dX2_relax_24 rfl (lv_at hl 3 rfl) ?_
    refine va_iald hx hb hK hP 2 0 rfl rfl (vp_in_nI (n := i) (by omega) (by omega)) dX2_relax_25 ?_
    refine lv_topi (fun v_5 ev_5 => ?_)
    have nv_5 : v_5 = f_bk_tail i := by rw [ev_5]; exact congrArg _ (nI_clamp (by omega))
    have g_6 : 0 ≤ v_5.toInt ∧ v_5.toInt < 10 := by rw [ev_5]; exact rg_in q_tail (by omega) (by omega)
    refine lv_istore (lv' := [(4, .int v_5), (0, .ref fw), (1, .int mv), (2, .int (nI bw)), (3, .int (nI i))]) hx hb dX2_relax_26 hl (by decide) rfl (fun ls hl => ?_)
    refine lv_aload_n hx hb dX2_relax_28 rfl (lv_at hl 1 rfl) ?_
    refine va_get (D := (dC, dI)) (ci := 2) (v := .ref bk) (C := RX2) (T := TX2) (N := 12) hx hb hts (fun w h => wM_c (iX2 w h)) hown hK hP 0 rfl rfl 1 (by decide) (hts _ (wM_c wd_447)) (fun _ h9 => h9) rfl dX2_relax_29 ?_
    refine va_get (D := (dC, dI)) (ci := 0) (v := .ref bk_head) (C := RX0) (T := TX0) (N := 13) hx hb hts (fun w h => wM_c (iX0 w h)) hown hK hP 1 rfl rfl 2 (by decide) (hts _ (wM_c wd_255)) (fun _ h9 => h9) rfl dX2_relax_32 ?_
    refine lv_iload_n hx hb dX2_relax_35 rfl (lv_at hl 4 rfl) ?_
    refine va_iald hx hb hK hP 3 1 rfl rfl (vp_in_nI (n := i) (by omega) (by omega)) dX2_relax_36 ?_
    refine lv_topi (fun v_7 ev_7 => ?_)
    have nv_7 : v_7 = f_bk_head i := by rw [ev_7]; exact congrArg _ (nI_clamp (by omega))
    have g_8 : 0 ≤ v_7.toInt ∧ v_7.toInt < 10 := by rw [ev_7]; exact rg_in q_head (by omega) (by omega)
    refine lv_istore (lv' := [(5, .int v_7), (4, .int v_5), (0, .ref fw), (1, .int mv), (2, .int (nI bw)), (3, .int (nI i))]) hx hb dX2_relax_37 hl (by decide) rfl (fun ls hl => ?_)
    refine lv_aload_n hx hb dX2_relax_39 rfl (lv_at hl 2 rfl) ?_
    refine va_get (D := (dC, dI)) (ci := 2) (v := .ref fw_label) (C := RX2) (T := TX2) (N := 12) hx hb hts (fun w h => wM_c (iX2 w h)) hown hK hP 0 rfl rfl 8 (by decide) (hts _ (wM_c wd_454)) (fun _ h9 => h9) rfl dX2_relax_40 ?_
    refine lv_iload hx hb dX2_relax_43 (lv_at hl 1 rfl) ?_
    refine va_lald hx hb hK hP 4 2 rfl rfl (by first | with_reducible assumption | exact vp_in_iff.mpr (by omega)) dX2_relax_45 ?_
    refine lv_topl (fun v_9 ev_9 => ?_)
    refine lv_aload_n hx hb dX2_relax_46 rfl (lv_at hl 2 rfl) ?_
    refine va_get (D := (dC, dI)) (ci := 2) (v := .ref fw_forth) (C := RX2) (T := TX2) (N := 12) hx hb hts (fun w h => wM_c (iX2 w h)) hown hK hP 0 rfl rfl 6 (by decide) (hts _ (wM_c wd_452)) (fun _ h9 => h9) rfl dX2_relax_47 ?_
    refine lv_iload_n hx hb dX2_relax_50 rfl (lv_at hl 5 rfl) ?_
    refine va_lald hx hb hK hP 5 3 rfl rfl (vp_in_nI (n := i) (by omega) (by omega)) dX2_relax_51 ?_
    refine lv_topl (fun v_10 ev_10 => ?_)
    have nv_10 : v_10 = f_fw_forth i := by rw [ev_10]; exact congrArg _ (nI_clamp (by omega))
    refine lv_ladd hx hb dX2_relax_52 ?_
    refine lv_topl (fun v_11 ev_11 => ?_)
    refine lv_lstore (lv' := [(6, .long v_11), (5, .int v_7), (4, .int v_5), (0, .ref fw), (1, .int mv), (2, .int (nI bw)), (3, .int (nI i))]) hx hb dX2_relax_53 hl (by decide) rfl (fun ls hl => ?_)
    refine lv_lload hx hb dX2_relax_55 (lv_at hl 0 rfl) ?_
    refine lv_aload_n hx hb dX2_relax_57 rfl (lv_at hl 3 rfl) ?_
    refine va_get (D := (dC, dI)) (ci := 2) (v := .ref fw_label) (C := RX2) (T := TX2) (N := 12) hx hb hts (fun w h => wM_c (iX2 w h)) hown hK hP 0 rfl rfl 8 (by decide) (hts _ (wM_c wd_454)) (fun _ h9 => h9) rfl dX2_relax_58 ?_
    refine lv_iload hx hb dX2_relax_61 (lv_at hl 1 rfl) ?_
    refine va_lald hx hb hK hP 4 2 rfl rfl (by first | with_reducible assumption | exact vp_in_iff.mpr (by omega)) dX2_relax_63 ?_
    refine lv_topl (fun v_12 ev_12 => ?_)
    refine W.lcmp hx hb dX2_relax_64 ?_
    refine lv_topi (fun v_13 ev_13 => ?_)
    refine lv_if_ge (tgt := 89) hx hb dX2_relax_65 (by decide) (fun c_14 => ?_) (fun c_14 => ?_)
    · skip
      have g_15 : v_12 ≤ v_11 := (lg_cmp_ge v_11 v_12).mp (by rw [← ev_13]; exact c_14)
      refine lv_aload_n hx hb dX2_relax_89 rfl (lv_at hl 3 rfl) ?_
      refine va_get (D := (dC, dI)) (ci := 2) (v := .ref fw_label) (C := RX2) (T := TX2) (N := 12) hx hb hts (fun w h => wM_c (iX2 w h)) hown hK hP 0 rfl rfl 8 (by decide) (hts _ (wM_c wd_454)) (fun _ h9 => h9) rfl dX2_relax_90 ?_
      refine lv_iload hx hb dX2_relax_93 (lv_at hl 1 rfl) ?_
      refine va_lald hx hb hK hP 4 2 rfl rfl (by first | with_reducible assumption | exact vp_in_iff.mpr (by omega)) dX2_relax_95 ?_
      refine lv_topl (fun v_16 ev_16 => ?_)
      refine lv_aload_n hx hb dX2_relax_96 rfl (lv_at hl 3 rfl) ?_
      refine va_get (D := (dC, dI)) (ci := 2) (v := .ref fw_back) (C := RX2) (T := TX2) (N := 12) hx hb hts (fun w h => wM_c (iX2 w h)) hown hK hP 0 rfl rfl 7 (by decide) (hts _ (wM_c wd_453)) (fun _ h9 => h9) rfl dX2_relax_97 ?_
      refine lv_iload_n hx hb dX2_relax_100 rfl (lv_at hl 6 rfl) ?_
      refine va_lald hx hb hK hP 6 4 rfl rfl (vp_in_nI (n := i) (by omega) (by omega)) dX2_relax_101 ?_
      refine lv_topl (fun v_17 ev_17 => ?_)
      have nv_17 : v_17 = f_fw_back i := by rw [ev_17]; exact congrArg _ (nI_clamp (by omega))
      refine lv_ladd hx hb dX2_relax_102 ?_
      refine lv_topl (fun v_18 ev_18 => ?_)
      refine lv_lstore (lv' := [(8, .long v_18), (6, .long v_11), (5, .int v_7), (4, .int v_5), (0, .ref fw), (1, .int mv), (2, .int (nI bw)), (3, .int (nI i))]) hx hb dX2_relax_103 hl (by decide) rfl (fun ls hl => ?_)
      refine lv_lload hx hb dX2_relax_105 (lv_at hl 0 rfl) ?_
      refine lv_aload_n hx hb dX2_relax_107 rfl (lv_at hl 4 rfl) ?_
      refine va_get (D := (dC, dI)) (ci := 2) (v := .ref fw_label) (C := RX2) (T := TX2) (N := 12) hx hb hts (fun w h => wM_c (iX2 w h)) hown hK hP 0 rfl rfl 8 (by decide) (hts _ (wM_c wd_454)) (fun _ h9 => h9) rfl dX2_relax_108 ?_
      refine lv_iload hx hb dX2_relax_111 (lv_at hl 3 rfl) ?_
      refine va_lald hx hb hK hP 4 2 rfl rfl (by first | with_reducible assumption | exact vp_in_iff.mpr (by omega)) dX2_relax_113 ?_
      refine lv_topl (fun v_19 ev_19 => ?_)
      refine W.lcmp hx hb dX2_relax_114 ?_
      refine lv_topi (fun v_20 ev_20 => ?_)
      refine lv_if_ge (tgt := 141) hx hb dX2_relax_115 (by decide) (fun c_21 => ?_) (fun c_21 => ?_)
      · skip
        have g_22 : v_19 ≤ v_18 := (lg_cmp_ge v_18 v_19).mp (by rw [← ev_20]; exact c_21)
        refine lv_iinc (v := (nI (i + 1))) (lv' := [(3, .int (nI (i + 1))), (8, .long v_18), (6, .long v_11), (5, .int v_7), (4, .int v_5), (0, .ref fw), (1, .int mv), (2, .int (nI bw))]) hx hb dX2_relax_141 hl (k := 7) rfl (nI_add _ 1) (by decide) rfl (fun ls hl => ?_)
        refine lv_goto (tgt := 12) hx hb dX2_relax_144 (by decide) ?_
        exact ih_1 mv (i + 1) la1 ca1 _ _ _ ⟨(by first | with_reducible assumption | omega | exact vp_in_iff.mpr (by omega) | exact vp_in_nI (by omega) (by omega) | exact ⟨by omega, by omega⟩), (by first | with_reducible assumption | omega | exact vp_in_iff.mpr (by omega) | exact vp_in_nI (by omega) (by omega) | exact ⟨by omega, by omega⟩), (by first | with_reducible assumption | omega | exact vp_in_iff.mpr (by omega) | exact vp_in_nI (by omega) (by omega) | exact ⟨by omega, by omega⟩), hP.sub [0, 1, 2, 3, 4, 5, 6, 7] rfl, hD.sub [0, 1, 2, 3, 4, 5, 6, 7] (by decide) rfl, hS, lv_sub hl [5, 6, 7, 0] rfl⟩ (by omega)
      · skip
        have g_23 : ¬ v_19 ≤ v_18 := fun q9 => c_21 (by rw [ev_20]; exact (lg_cmp_ge v_18 v_19).mpr q9)
        refine lv_aload_n hx hb dX2_relax_118 rfl (lv_at hl 4 rfl) ?_
        refine va_get (D := (dC, dI)) (ci := 2) (v := .ref fw_label) (C := RX2) (T := TX2) (N := 12) hx hb hts (fun w h => wM_c (iX2 w h)) hown hK hP 0 rfl rfl 8 (by decide) (hts _ (wM_c wd_454)) (fun _ h9 => h9) rfl dX2_relax_119 ?_
        refine lv_iload hx hb dX2_relax_122 (lv_at hl 3 rfl) ?_
        refine lv_lload hx hb dX2_relax_124 (lv_at hl 0 rfl) ?_
        refine va_last hx hb hK hP hD hS 4 2 rfl rfl (by first | with_reducible assumption | exact vp_in_iff.mpr (by omega)) dX2_relax_126 (fun H locs hP hD hS => ?_)
        obtain ⟨f_24, ef_24⟩ : ∃ f9, f9 = (vp_updL la1 v_5.toNatClampNeg v_18) := ⟨_, rfl⟩
        obtain ⟨hP, hD⟩ : s3_w (dC, dI) classes A [(fw, .inr (2, [.ref fw_air, .ref bk, .ref st, .ref fw_hindrance, .ref fw_pull, .ref fw_droop, .ref fw_forth, .ref fw_back, .ref fw_label, .ref fw_cause, .ref fw_seen, .ref fw_round])), (bk, .inr (0, [.int (nI bw), .ref bk_tail, .ref bk_head, .ref bk_hinder, .ref bk_size, .ref bk_walk, .ref bk_draught, .ref bk_doorIn, .ref bk_fanIn, .ref bk_faceIn, .int (nI bn), .int bk_day, .ref gr])), (bk_tail, .inl (k_bk_tail, 14, .inl f_bk_tail)), (bk_head, .inl (k_bk_head, 14, .inl f_bk_head)), (fw_label, .inl (k_fw_label, 10, .inr (.inl f_24))), (fw_forth, .inl (k_fw_forth, 14, .inr (.inl f_fw_forth))), (fw_back, .inl (k_fw_back, 14, .inr (.inl f_fw_back))), (fw_cause, .inl (k_fw_cause, 10, .inl ca1))] H := ⟨(by rw [ef_24]; exact hP), (by rw [ef_24]; exact hD)⟩
        refine lv_aload_n hx hb dX2_relax_127 rfl (lv_at hl 4 rfl) ?_
        refine va_get (D := (dC, dI)) (ci := 2) (v := .ref fw_cause) (C := RX2) (T := TX2) (N := 12) hx hb hts (fun w h => wM_c (iX2 w h)) hown hK hP 0 rfl rfl 9 (by decide) (hts _ (wM_c wd_455)) (fun _ h9 => h9) rfl dX2_relax_128 ?_
        refine lv_iload hx hb dX2_relax_131 (lv_at hl 3 rfl) ?_
        refine lv_iconst (v := 2) hx hb dX2_relax_133 (by decide) ?_
        refine lv_iload_n hx hb dX2_relax_134 rfl (lv_at hl 7 rfl) ?_
        refine lv_imul hx hb dX2_relax_135 ?_
        refine lv_topi (fun v_25 ev_25 => ?_)
        obtain rfl : v_25 = nI (2 * i) := ev_25.trans (pk_mul 2 i)
        refine lv_iconst (v := 1) hx hb dX2_relax_136 (by decide) ?_
        refine lv_iadd hx hb dX2_relax_137 ?_
        refine lv_topi (fun v_26 ev_26 => ?_)
        obtain rfl : v_26 = nI ((2 * i) + 1) := ev_26.trans (nI_add (2 * i) 1)
        refine va_iast hx hb hK hP hD hS 7 5 rfl rfl (by first | with_reducible assumption | exact vp_in_iff.mpr (by omega)) dX2_relax_138 (fun H locs hP hD hS => ?_)
        obtain ⟨f_27, ef_27⟩ : ∃ f9, f9 = (upd ca1 v_5.toNatClampNeg (nI ((2 * i) + 1))) := ⟨_, rfl⟩
        obtain ⟨hP, hD⟩ : s3_w (dC, dI) classes A [(fw, .inr (2, [.ref fw_air, .ref bk, .ref st, .ref fw_hindrance, .ref fw_pull, .ref fw_droop, .ref fw_forth, .ref fw_back, .ref fw_label, .ref fw_cause, .ref fw_seen, .ref fw_round])), (bk, .inr (0, [.int (nI bw), .ref bk_tail, .ref bk_head, .ref bk_hinder, .ref bk_size, .ref bk_walk, .ref bk_draught, .ref bk_doorIn, .ref bk_fanIn, .ref bk_faceIn, .int (nI bn), .int bk_day, .ref gr])), (bk_tail, .inl (k_bk_tail, 14, .inl f_bk_tail)), (bk_head, .inl (k_bk_head, 14, .inl f_bk_head)), (fw_label, .inl (k_fw_label, 10, .inr (.inl f_24))), (fw_forth, .inl (k_fw_forth, 14, .inr (.inl f_fw_forth))), (fw_back, .inl (k_fw_back, 14, .inr (.inl f_fw_back))), (fw_cause, .inl (k_fw_cause, 10, .inl f_27))] H := ⟨(by rw [ef_27]; exact hP), (by rw [ef_27]; exact hD)⟩
        have hr_28 : rg f_27 10 (-1) 28 := by rw [ef_27]; exact rg_upd hca1 ⟨by rw [nI_toInt (by omega)]; omega, by rw [nI_toInt (by omega)]; omega⟩
        refine lv_iconst (v := 1) hx hb dX2_relax_139 (by decide) ?_
        refine lv_istore_n (lv' := [(1, .int 1), (8, .long v_18), (6, .long v_11), (5, .int v_7), (4, .int v_5), (0, .ref fw), (2, .int (nI bw)), (3, .int (nI i))]) hx hb dX2_relax_140 rfl hl (by decide) rfl (fun ls hl => ?_)
        refine lv_iinc (v := (nI (i + 1))) (lv' := [(3, .int (nI (i + 1))), (1, .int 1), (8, .long v_18), (6, .long v_11), (5, .int v_7), (4, .int v_5), (0, .ref fw), (2, .int (nI bw))]) hx hb dX2_relax_141 hl (k := 7) rfl (nI_add _ 1) (by decide) rfl (fun ls hl => ?_)
        refine lv_goto (tgt := 12) hx hb dX2_relax_144 (by decide) ?_
        exact ih_1 1 (i + 1) f_24 f_27 _ _ _ ⟨(by first | with_reducible assumption | omega | exact vp_in_iff.mpr (by omega) | exact vp_in_nI (by omega) (by omega) | exact ⟨by omega, by omega⟩), (Or.inr rfl), (by first | with_reducible assumption | omega | exact vp_in_iff.mpr (by omega) | exact vp_in_nI (by omega) (by omega) | exact ⟨by omega, by omega⟩), hP.sub [0, 1, 2, 3, 4, 5, 6, 7] rfl, hD.sub [0, 1, 2, 3, 4, 5, 6, 7] (by decide) rfl, hS, lv_sub hl [6, 1, 7, 0] rfl⟩ (by omega)
    · skip
      have g_29 : ¬ v_12 ≤ v_11 := fun q9 => c_14 (by rw [ev_13]; exact (lg_cmp_ge v_11 v_12).mpr q9)
      refine lv_aload_n hx hb dX2_relax_68 rfl (lv_at hl 3 rfl) ?_
      refine va_get (D := (dC, dI)) (ci := 2) (v := .ref fw_label) (C := RX2) (T := TX2) (N := 12) hx hb hts (fun w h => wM_c (iX2 w h)) hown hK hP 0 rfl rfl 8 (by decide) (hts _ (wM_c wd_454)) (fun _ h9 => h9) rfl dX2_relax_69 ?_
      refine lv_iload hx hb dX2_relax_72 (lv_at hl 1 rfl) ?_
      refine lv_lload hx hb dX2_relax_74 (lv_at hl 0 rfl) ?_
      refine va_last hx hb hK hP hD hS 4 2 rfl rfl (by first | with_reducible assumption | exact vp_in_iff.mpr (by omega)) dX2_relax_76 (fun H locs hP hD hS => ?_)
      obtain ⟨f_30, ef_30⟩ : ∃ f9, f9 = (vp_updL la1 v_7.toNatClampNeg v_11) := ⟨_, rfl⟩
      obtain ⟨hP, hD⟩ : s3_w (dC, dI) classes A [(fw, .inr (2, [.ref fw_air, .ref bk, .ref st, .ref fw_hindrance, .ref fw_pull, .ref fw_droop, .ref fw_forth, .ref fw_back, .ref fw_label, .ref fw_cause, .ref fw_seen, .ref fw_round])), (bk, .inr (0, [.int (nI bw), .ref bk_tail, .ref bk_head, .ref bk_hinder, .ref bk_size, .ref bk_walk, .ref bk_draught, .ref bk_doorIn, .ref bk_fanIn, .ref bk_faceIn, .int (nI bn), .int bk_day, .ref gr])), (bk_tail, .inl (k_bk_tail, 14, .inl f_bk_tail)), (bk_head, .inl (k_bk_head, 14, .inl f_bk_head)), (fw_label, .inl (k_fw_label, 10, .inr (.inl f_30))), (fw_forth, .inl (k_fw_forth, 14, .inr (.inl f_fw_forth))), (fw_back, .inl (k_fw_back, 14, .inr (.inl f_fw_back))), (fw_cause, .inl (k_fw_cause, 10, .inl ca1))] H := ⟨(by rw [ef_30]; exact hP), (by rw [ef_30]; exact hD)⟩
      refine lv_aload_n hx hb dX2_relax_77 rfl (lv_at hl 3 rfl) ?_
      refine va_get (D := (dC, dI)) (ci := 2) (v := .ref fw_cause) (C := RX2) (T := TX2) (N := 12) hx hb hts (fun w h => wM_c (iX2 w h)) hown hK hP 0 rfl rfl 9 (by decide) (hts _ (wM_c wd_455)) (fun _ h9 => h9) rfl dX2_relax_78 ?_
      refine lv_iload hx hb dX2_relax_81 (lv_at hl 1 rfl) ?_
      refine lv_iconst (v := 2) hx hb dX2_relax_83 (by decide) ?_
      refine lv_iload_n hx hb dX2_relax_84 rfl (lv_at hl 6 rfl) ?_
      refine lv_imul hx hb dX2_relax_85 ?_
      refine lv_topi (fun v_31 ev_31 => ?_)
      obtain rfl : v_31 = nI (2 * i) := ev_31.trans (pk_mul 2 i)
      refine va_iast hx hb hK hP hD hS 7 5 rfl rfl (by first | with_reducible assumption | exact vp_in_iff.mpr (by omega)) dX2_relax_86 (fun H locs hP hD hS => ?_)
      obtain ⟨f_32, ef_32⟩ : ∃ f9, f9 = (upd ca1 v_7.toNatClampNeg (nI (2 * i))) := ⟨_, rfl⟩
      obtain ⟨hP, hD⟩ : s3_w (dC, dI) classes A [(fw, .inr (2, [.ref fw_air, .ref bk, .ref st, .ref fw_hindrance, .ref fw_pull, .ref fw_droop, .ref fw_forth, .ref fw_back, .ref fw_label, .ref fw_cause, .ref fw_seen, .ref fw_round])), (bk, .inr (0, [.int (nI bw), .ref bk_tail, .ref bk_head, .ref bk_hinder, .ref bk_size, .ref bk_walk, .ref bk_draught, .ref bk_doorIn, .ref bk_fanIn, .ref bk_faceIn, .int (nI bn), .int bk_day, .ref gr])), (bk_tail, .inl (k_bk_tail, 14, .inl f_bk_tail)), (bk_head, .inl (k_bk_head, 14, .inl f_bk_head)), (fw_label, .inl (k_fw_label, 10, .inr (.inl f_30))), (fw_forth, .inl (k_fw_forth, 14, .inr (.inl f_fw_forth))), (fw_back, .inl (k_fw_back, 14, .inr (.inl f_fw_back))), (fw_cause, .inl (k_fw_cause, 10, .inl f_32))] H := ⟨(by rw [ef_32]; exact hP), (by rw [ef_32]; exact hD)⟩
      have hr_33 : rg f_32 10 (-1) 28 := by rw [ef_32]; exact rg_upd hca1 ⟨by rw [nI_toInt (by omega)]; omega, by rw [nI_toInt (by omega)]; omega⟩
      refine lv_iconst (v := 1) hx hb dX2_relax_87 (by decide) ?_
      refine lv_istore_n (lv' := [(1, .int 1), (6, .long v_11), (5, .int v_7), (4, .int v_5), (0, .ref fw), (2, .int (nI bw)), (3, .int (nI i))]) hx hb dX2_relax_88 rfl hl (by decide) rfl (fun ls hl => ?_)
      refine lv_aload_n hx hb dX2_relax_89 rfl (lv_at hl 4 rfl) ?_
      refine va_get (D := (dC, dI)) (ci := 2) (v := .ref fw_label) (C := RX2) (T := TX2) (N := 12) hx hb hts (fun w h => wM_c (iX2 w h)) hown hK hP 0 rfl rfl 8 (by decide) (hts _ (wM_c wd_454)) (fun _ h9 => h9) rfl dX2_relax_90 ?_
      refine lv_iload hx hb dX2_relax_93 (lv_at hl 2 rfl) ?_
      refine va_lald hx hb hK hP 4 2 rfl rfl (by first | with_reducible assumption | exact vp_in_iff.mpr (by omega)) dX2_relax_95 ?_
      refine lv_topl (fun v_34 ev_34 => ?_)
      refine lv_aload_n hx hb dX2_relax_96 rfl (lv_at hl 4 rfl) ?_
      refine va_get (D := (dC, dI)) (ci := 2) (v := .ref fw_back) (C := RX2) (T := TX2) (N := 12) hx hb hts (fun w h => wM_c (iX2 w h)) hown hK hP 0 rfl rfl 7 (by decide) (hts _ (wM_c wd_453)) (fun _ h9 => h9) rfl dX2_relax_97 ?_
      refine lv_iload_n hx hb dX2_relax_100 rfl (lv_at hl 6 rfl) ?_
      refine va_lald hx hb hK hP 6 4 rfl rfl (vp_in_nI (n := i) (by omega) (by omega)) dX2_relax_101 ?_
      refine lv_topl (fun v_35 ev_35 => ?_)
      have nv_35 : v_35 = f_fw_back i := by rw [ev_35]; exact congrArg _ (nI_clamp (by omega))
      refine lv_ladd hx hb dX2_relax_102 ?_
      refine lv_topl (fun v_36 ev_36 => ?_)
      refine lv_lstore (lv' := [(8, .long v_36), (1, .int 1), (6, .long v_11), (5, .int v_7), (4, .int v_5), (0, .ref fw), (2, .int (nI bw)), (3, .int (nI i))]) hx hb dX2_relax_103 hl (by decide) rfl (fun ls hl => ?_)
      refine lv_lload hx hb dX2_relax_105 (lv_at hl 0 rfl) ?_
      refine lv_aload_n hx hb dX2_relax_107 rfl (lv_at hl 5 rfl) ?_
      refine va_get (D := (dC, dI)) (ci := 2) (v := .ref fw_label) (C := RX2) (T := TX2) (N := 12) hx hb hts (fun w h => wM_c (iX2 w h)) hown hK hP 0 rfl rfl 8 (by decide) (hts _ (wM_c wd_454)) (fun _ h9 => h9) rfl dX2_relax_108 ?_
      refine lv_iload hx hb dX2_relax_111 (lv_at hl 4 rfl) ?_
      refine va_lald hx hb hK hP 4 2 rfl rfl (by first | with_reducible assumption | exact vp_in_iff.mpr (by omega)) dX2_relax_113 ?_
      refine lv_topl (fun v_37 ev_37 => ?_)
      refine W.lcmp hx hb dX2_relax_114 ?_
      refine lv_topi (fun v_38 ev_38 => ?_)
      refine lv_if_ge (tgt := 141) hx hb dX2_relax_115 (by decide) (fun c_39 => ?_) (fun c_39 => ?_)
      · skip
        have g_40 : v_37 ≤ v_36 := (lg_cmp_ge v_36 v_37).mp (by rw [← ev_38]; exact c_39)
        refine lv_iinc (v := (nI (i + 1))) (lv' := [(3, .int (nI (i + 1))), (8, .long v_36), (1, .int 1), (6, .long v_11), (5, .int v_7), (4, .int v_5), (0, .ref fw), (2, .int (nI bw))]) hx hb dX2_relax_141 hl (k := 7) rfl (nI_add _ 1) (by decide) rfl (fun ls hl => ?_)
        refine lv_goto (tgt := 12) hx hb dX2_relax_144 (by decide) ?_
        exact ih_1 1 (i + 1) f_30 f_32 _ _ _ ⟨(by first | with_reducible assumption | omega | exact vp_in_iff.mpr (by omega) | exact vp_in_nI (by omega) (by omega) | exact ⟨by omega, by omega⟩), (Or.inr rfl), (by first | with_reducible assumption | omega | exact vp_in_iff.mpr (by omega) | exact vp_in_nI (by omega) (by omega) | exact ⟨by omega, by omega⟩), hP.sub [0, 1, 2, 3, 4, 5, 6, 7] rfl, hD.sub [0, 1, 2, 3, 4, 5, 6, 7] (by decide) rfl, hS, lv_sub hl [6, 2, 7, 0] rfl⟩ (by omega)
      · skip
        have g_41 : ¬ v_37 ≤ v_36 := fun q9 => c_39 (by rw [ev_38]; exact (lg_cmp_ge v_36 v_37).mpr q9)
        refine lv_aload_n hx hb dX2_relax_118 rfl (lv_at hl 5 rfl) ?_
        refine va_get (D := (dC, dI)) (ci := 2) (v := .ref fw_label) (C := RX2) (T := TX2) (N := 12) hx hb hts (fun w h => wM_c (iX2 w h)) hown hK hP 0 rfl rfl 8 (by decide) (hts _ (wM_c wd_454)) (fun _ h9 => h9) rfl dX2_relax_119 ?_
        refine lv_iload hx hb dX2_relax_122 (lv_at hl 4 rfl) ?_
        refine lv_lload hx hb dX2_relax_124 (lv_at hl 0 rfl) ?_
        refine va_last hx hb hK hP hD hS 4 2 rfl rfl (by first | with_reducible assumption | exact vp_in_iff.mpr (by omega)) dX2_relax_126 (fun H locs hP hD hS => ?_)
        obtain ⟨f_42, ef_42⟩ : ∃ f9, f9 = (vp_updL f_30 v_5.toNatClampNeg v_36) := ⟨_, rfl⟩
        obtain ⟨hP, hD⟩ : s3_w (dC, dI) classes A [(fw, .inr (2, [.ref fw_air, .ref bk, .ref st, .ref fw_hindrance, .ref fw_pull, .ref fw_droop, .ref fw_forth, .ref fw_back, .ref fw_label, .ref fw_cause, .ref fw_seen, .ref fw_round])), (bk, .inr (0, [.int (nI bw), .ref bk_tail, .ref bk_head, .ref bk_hinder, .ref bk_size, .ref bk_walk, .ref bk_draught, .ref bk_doorIn, .ref bk_fanIn, .ref bk_faceIn, .int (nI bn), .int bk_day, .ref gr])), (bk_tail, .inl (k_bk_tail, 14, .inl f_bk_tail)), (bk_head, .inl (k_bk_head, 14, .inl f_bk_head)), (fw_label, .inl (k_fw_label, 10, .inr (.inl f_42))), (fw_forth, .inl (k_fw_forth, 14, .inr (.inl f_fw_forth))), (fw_back, .inl (k_fw_back, 14, .inr (.inl f_fw_back))), (fw_cause, .inl (k_fw_cause, 10, .inl f_32))] H := ⟨(by rw [ef_42]; exact hP), (by rw [ef_42]; exact hD)⟩
        refine lv_aload_n hx hb dX2_relax_127 rfl (lv_at hl 5 rfl) ?_
        refine va_get (D := (dC, dI)) (ci := 2) (v := .ref fw_cause) (C := RX2) (T := TX2) (N := 12) hx hb hts (fun w h => wM_c (iX2 w h)) hown hK hP 0 rfl rfl 9 (by decide) (hts _ (wM_c wd_455)) (fun _ h9 => h9) rfl dX2_relax_128 ?_
        refine lv_iload hx hb dX2_relax_131 (lv_at hl 4 rfl) ?_
        refine lv_iconst (v := 2) hx hb dX2_relax_133 (by decide) ?_
        refine lv_iload_n hx hb dX2_relax_134 rfl (lv_at hl 7 rfl) ?_
        refine lv_imul hx hb dX2_relax_135 ?_
        refine lv_topi (fun v_43 ev_43 => ?_)
        obtain rfl : v_43 = nI (2 * i) := ev_43.trans (pk_mul 2 i)
        refine lv_iconst (v := 1) hx hb dX2_relax_136 (by decide) ?_
        refine lv_iadd hx hb dX2_relax_137 ?_
        refine lv_topi (fun v_44 ev_44 => ?_)
        obtain rfl : v_44 = nI ((2 * i) + 1) := ev_44.trans (nI_add (2 * i) 1)
        refine va_iast hx hb hK hP hD hS 7 5 rfl rfl (by first | with_reducible assumption | exact vp_in_iff.mpr (by omega)) dX2_relax_138 (fun H locs hP hD hS => ?_)
        obtain ⟨f_45, ef_45⟩ : ∃ f9, f9 = (upd f_32 v_5.toNatClampNeg (nI ((2 * i) + 1))) := ⟨_, rfl⟩
        obtain ⟨hP, hD⟩ : s3_w (dC, dI) classes A [(fw, .inr (2, [.ref fw_air, .ref bk, .ref st, .ref fw_hindrance, .ref fw_pull, .ref fw_droop, .ref fw_forth, .ref fw_back, .ref fw_label, .ref fw_cause, .ref fw_seen, .ref fw_round])), (bk, .inr (0, [.int (nI bw), .ref bk_tail, .ref bk_head, .ref bk_hinder, .ref bk_size, .ref bk_walk, .ref bk_draught, .ref bk_doorIn, .ref bk_fanIn, .ref bk_faceIn, .int (nI bn), .int bk_day, .ref gr])), (bk_tail, .inl (k_bk_tail, 14, .inl f_bk_tail)), (bk_head, .inl (k_bk_head, 14, .inl f_bk_head)), (fw_label, .inl (k_fw_label, 10, .inr (.inl f_42))), (fw_forth, .inl (k_fw_forth, 14, .inr (.inl f_fw_forth))), (fw_back, .inl (k_fw_back, 14, .inr (.inl f_fw_back))), (fw_cause, .inl (k_fw_cause, 10, .inl f_45))] H := ⟨(by rw [ef_45]; exact hP), (by rw [ef_45]; exact hD)⟩
        have hr_46 : rg f_45 10 (-1) 28 := by rw [ef_45]; exact rg_upd hr_33 ⟨by rw [nI_toInt (by omega)]; omega, by rw [nI_toInt (by omega)]; omega⟩
        refine lv_iconst (v := 1) hx hb dX2_relax_139 (by decide) ?_
        refine lv_istore_n (lv' := [(1, .int 1), (8, .long v_36), (6, .long v_11), (5, .int v_7), (4, .int v_5), (0, .ref fw), (2, .int (nI bw)), (3, .int (nI i))]) hx hb dX2_relax_140 rfl hl (by decide) rfl (fun ls hl => ?_)
        refine lv_iinc (v := (nI (i + 1))) (lv' := [(3, .int (nI (i + 1))), (1, .int 1), (8, .long v_36), (6, .long v_11), (5, .int v_7), (4, .int v_5), (0, .ref fw), (2, .int (nI bw))]) hx hb dX2_relax_141 hl (k := 7) rfl (nI_add _ 1) (by decide) rfl (fun ls hl => ?_)
        refine lv_goto (tgt := 12) hx hb dX2_relax_144 (by decide) ?_
        exact ih_1 1 (i + 1) f_42 f_45 _ _ _ ⟨(by first | with_reducible assumption | omega | exact vp_in_iff.mpr (by omega) | exact vp_in_nI (by omega) (by omega) | exact ⟨by omega, by omega⟩), (Or.inr rfl), (by first | with_reducible assumption | omega | exact vp_in_iff.mpr (by omega) | exact vp_in_nI (by omega) (by omega) | exact ⟨by omega, by omega⟩), hP.sub [0, 1, 2, 3, 4, 5, 6, 7] rfl, hD.sub [0, 1, 2, 3, 4, 5, 6, 7] (by decide) rfl, hS, lv_sub hl [6, 1, 7, 0] rfl⟩ (by omega)
set_option maxHeartbeats 4000000 in
set_option maxRecDepth 100000 in
theorem c2_cameFrom (l : Launch) (dC : Nat → ClassId) (dI : Nat → Nat → Nat) (n0 : Nat) (atx : Nat → Nat × Nat) (sz : Nat) (fw : Nat) (fw_air : Nat) (bk : Nat) (st : Nat) (fw_hindrance : Nat) (fw_pull : Nat) (fw_droop : Nat) (fw_forth : Nat) (fw_back : Nat) (fw_label : Nat) (fw_cause : Nat) (fw_seen : Nat) (fw_round : Nat) (bw : Nat) (bk_tail : Nat) (bk_head : Nat) (bk_hinder : Nat) (bk_size : Nat) (bk_walk : Nat) (bk_draught : Nat) (bk_doorIn : Nat) (bk_fanIn : Nat) (bk_faceIn : Nat) (bn : Nat) (bk_day : Int32) (gr : Nat) (k_bk_tail : ClassId) (f_bk_tail : Nat → Int32) (k_bk_head : ClassId) (f_bk_head : Nat → Int32) (sp0 : Int32) (hbw : bw ≤ 14) (hbn : bn ≤ 10) (q_day : -1 ≤ bk_day.toInt ∧ bk_day.toInt < 10) (q_tail : rg f_bk_tail 14 0 10) (q_head : rg f_bk_head 14 0 10) (hs0 : -1 ≤ sp0.toInt ∧ sp0.toInt < 28) : Met l yX2_cameFrom (wM yX2_cameFrom cX2_cameFrom 2 (some .int)) ({ frames := 0, cells := 0, slots := 0, locals := 0 }) (va_Pc [.ref fw, .int sp0] (fun U => U.heap.size = sz ∧ n0 ≤ sz ∧ GW n0 atx U ∧ va_P (dC, dI) classes [(fw, .inr (2, [.ref fw_air, .ref bk, .ref st, .ref fw_hindrance, .ref fw_pull, .ref fw_droop, .ref fw_forth, .ref fw_back, .ref fw_label, .ref fw_cause, .ref fw_seen, .ref fw_round])), (bk, .inr (0, [.int (nI bw), .ref bk_tail, .ref bk_head, .ref bk_hinder, .ref bk_size, .ref bk_walk, .ref bk_draught, .ref bk_doorIn, .ref bk_fanIn, .ref bk_faceIn, .int (nI bn), .int bk_day, .ref gr])), (bk_tail, .inl (k_bk_tail, 14, .inl f_bk_tail)), (bk_head, .inl (k_bk_head, 14, .inl f_bk_head))] U.heap ∧ va_K (dC, dI) classes [(k_bk_tail, .int), (k_bk_head, .int)] U ∧ va_D (fun q => n0 ≤ q) [(fw, .inr (2, [.ref fw_air, .ref bk, .ref st, .ref fw_hindrance, .ref fw_pull, .ref fw_droop, .ref fw_forth, .ref fw_back, .ref fw_label, .ref fw_cause, .ref fw_seen, .ref fw_round])), (bk, .inr (0, [.int (nI bw), .ref bk_tail, .ref bk_head, .ref bk_hinder, .ref bk_size, .ref bk_walk, .ref bk_draught, .ref bk_doorIn, .ref bk_fanIn, .ref bk_faceIn, .int (nI bn), .int bk_day, .ref gr])), (bk_tail, .inl (k_bk_tail, 14, .inl f_bk_tail)), (bk_head, .inl (k_bk_head, 14, .inl f_bk_head))])) (va_Qi (fun (r : Int32) (_ : Unit) => 0 ≤ r.toInt ∧ r.toInt < 10) (fun (_ : Unit) (t : State) => va_P (dC, dI) classes [(fw, .inr (2, [.ref fw_air, .ref bk, .ref st, .ref fw_hindrance, .ref fw_pull, .ref fw_droop, .ref fw_forth, .ref fw_back, .ref fw_label, .ref fw_cause, .ref fw_seen, .ref fw_round])), (bk, .inr (0, [.int (nI bw), .ref bk_tail, .ref bk_head, .ref bk_hinder, .ref bk_size, .ref bk_walk, .ref bk_draught, .ref bk_doorIn, .ref bk_fanIn, .ref bk_faceIn, .int (nI bn), .int bk_day, .ref gr])), (bk_tail, .inl (k_bk_tail, 14, .inl f_bk_tail)), (bk_head, .inl (k_bk_head, 14, .inl f_bk_head))] t.heap ∧ va_K (dC, dI) classes [(k_bk_tail, .int), (k_bk_head, .int)] t ∧ va_D (va_A [(fw, .inr (2, [.ref fw_air, .ref bk, .ref st, .ref fw_hindrance, .ref fw_pull, .ref fw_droop, .ref fw_forth, .ref fw_back, .ref fw_label, .ref fw_cause, .ref fw_seen, .ref fw_round])), (bk, .inr (0, [.int (nI bw), .ref bk_tail, .ref bk_head, .ref bk_hinder, .ref bk_size, .ref bk_walk, .ref bk_draught, .ref bk_doorIn, .ref bk_fanIn, .ref bk_faceIn, .int (nI bn), .int bk_day, .ref gr])), (bk_tail, .inl (k_bk_tail, 14, .inl f_bk_tail)), (bk_head, .inl (k_bk_head, 14, .inl f_bk_head))] sz) [(fw, .inr (2, [.ref fw_air, .ref bk, .ref st, .ref fw_hindrance, .ref fw_pull, .ref fw_droop, .ref fw_forth, .ref fw_back, .ref fw_label, .ref fw_cause, .ref fw_seen, .ref fw_round])), (bk, .inr (0, [.int (nI bw), .ref bk_tail, .ref bk_head, .ref bk_hinder, .ref bk_size, .ref bk_walk, .ref bk_draught, .ref bk_doorIn, .ref bk_fanIn, .ref bk_faceIn, .int (nI bn), .int bk_day, .ref gr])), (bk_tail, .inl (k_bk_tail, 14, .inl f_bk_tail)), (bk_head, .inl (k_bk_head, 14, .inl f_bk_head))]) (va_A [(fw, .inr (2, [.ref fw_air, .ref bk, .ref st, .ref fw_hindrance, .ref fw_pull, .ref fw_droop, .ref fw_forth, .ref fw_back, .ref fw_label, .ref fw_cause, .ref fw_seen, .ref fw_round])), (bk, .inr (0, [.int (nI bw), .ref bk_tail, .ref bk_head, .ref bk_hinder, .ref bk_size, .ref bk_walk, .ref bk_draught, .ref bk_doorIn, .ref bk_fanIn, .ref bk_faceIn, .int (nI bn), .int bk_day, .ref gr])), (bk_tail, .inl (k_bk_tail, 14, .inl f_bk_tail)), (bk_head, .inl (k_bk_head, 14, .inl f_bk_head))] sz)) 0 0 (va_A [(fw, .inr (2, [.ref fw_air, .ref bk, .ref st, .ref fw_hindrance, .ref fw_pull, .ref fw_droop, .ref fw_forth, .ref fw_back, .ref fw_label, .ref fw_cause, .ref fw_seen, .ref fw_round])), (bk, .inr (0, [.int (nI bw), .ref bk_tail, .ref bk_head, .ref bk_hinder, .ref bk_size, .ref bk_walk, .ref bk_draught, .ref bk_doorIn, .ref bk_fanIn, .ref bk_faceIn, .int (nI bn), .int bk_day, .ref gr])), (bk_tail, .inl (k_bk_tail, 14, .inl f_bk_tail)), (bk_head, .inl (k_bk_head, 14, .inl f_bk_head))] sz) := by
  refine Met.ofW (cc := cX2_cameFrom) (maxL := 2) (ret := (some .int)) (by decide) rfl ?_
  intro p e s m args below meth c s₁ B hml hv
  obtain ⟨rfl, hsz, hn0, hG, hP, hK, hD0⟩ := hv
  have hx := B.exec
  have hb := B.bytes
  have hr := B.returns
  have hts := atoms_spec (ws := wM yX2_cameFrom cX2_cameFrom 2 (some .int)) B.pre
  have hown : s.vm.findClass RX2 = some m.cls := findClass_of_methodNamed B.named
  have hlocks := B.notSynchronized
  subst hsz
  have hD := hD0.self (sz := s.heap.size)
  have hA0 := vA_n0 hD0 hn0
  generalize hAe : va_A [(fw, .inr (2, [.ref fw_air, .ref bk, .ref st, .ref fw_hindrance, .ref fw_pull, .ref fw_droop, .ref fw_forth, .ref fw_back, .ref fw_label, .ref fw_cause, .ref fw_seen, .ref fw_round])), (bk, .inr (0, [.int (nI bw), .ref bk_tail, .ref bk_head, .ref bk_hinder, .ref bk_size, .ref bk_walk, .ref bk_draught, .ref bk_doorIn, .ref bk_fanIn, .ref bk_faceIn, .int (nI bn), .int bk_day, .ref gr])), (bk_tail, .inl (k_bk_tail, 14, .inl f_bk_tail)), (bk_head, .inl (k_bk_head, 14, .inl f_bk_head))] s.heap.size = A at hD hA0 ⊢
  have hA : ∀ q : Nat, s.heap.size ≤ q → A q := fun q h => by rw [← hAe]; exact Or.inr h
  have hS : va_S A s.heap s.heap [] := va_S.rf
  have hl := lv_entry ([.ref fw, .int sp0]) (n := 2) (Nat.le_of_ble_eq_true rfl)
  rw [lg_entry_eq]
  generalize (lg_sl ([.ref fw, .int sp0]) ++ List.replicate (2 - (lg_sl ([.ref fw, .int sp0])).length) Slot.unset).toArray = ls at hl ⊢
  have hl : lv_has ls 2 [(0, .ref fw), (1, .int sp0)] := hl
  refine lv_iload_n hx hb dX2_cameFrom_0 rfl (lv_at hl 1 rfl) ?_
  refine lv_iconst (v := 2) hx hb dX2_cameFrom_1 (by decide) ?_
  refine lv_irem hx hb dX2_cameFrom_2 (by decide) ?_
  refine lv_topi (fun v_1 ev_1 => ?_)
  refine lv_if_ne (tgt := 20) hx hb dX2_cameFrom_3 (by decide) (fun c_2 => ?_) (fun c_2 => ?_)
  · skip
    have g_3 : v_1.toInt ≠ (0 : Int) := i_ne c_2
    refine lv_aload_n hx hb dX2_cameFrom_20 rfl (lv_at hl 0 rfl) ?_
    refine va_get (D := (dC, dI)) (ci := 2) (v := .ref bk) (C := RX2) (T := TX2) (N := 12) hx hb hts (fun w h => wM_c (iX2 w h)) hown hK hP 0 rfl rfl 1 (by decide) (hts _ (wM_c wd_447)) (fun _ h9 => h9) rfl dX2_cameFrom_21 ?_
    refine va_get (D := (dC, dI)) (ci := 0) (v := .ref bk_head) (C := RX0) (T := TX0) (N := 13) hx hb hts (fun w h => wM_c (iX0 w h)) hown hK hP 1 rfl rfl 2 (by decide) (hts _ (wM_c wd_255)) (fun _ h9 => h9) rfl dX2_cameFrom_24 ?_
    refine lv_iload_n hx hb dX2_cameFrom_27 rfl (lv_at hl 1 rfl) ?_
    refine lv_iconst (v := 2) hx hb dX2_cameFrom_28 (by decide) ?_
    refine lv_idiv hx hb dX2_cameFrom_29 (by decide) ?_
    refine lv_topi (fun v_4 ev_4 => ?_)
    refine va_iald hx hb hK hP 3 1 rfl rfl (by rw [ev_4]; exact half_in (by omega)) dX2_cameFrom_30 ?_
    refine lv_topi (fun v_5 ev_5 => ?_)
    have g_6 : 0 ≤ v_5.toInt ∧ v_5.toInt < 10 := by rw [ev_5]; exact rg_inx q_head (by rw [ev_4]; exact half_in (by omega))
    have hK9 := hK.sub (tys' := [(k_bk_tail, .int), (k_bk_head, .int)]) [0, 1] rfl
    exact W.iret (v := v_5) hx hb hr (fun t ht hW => ⟨⟨v_5, (), rfl, (by omega), by rw [ht]; exact hP.sub [0, 1, 2, 3] rfl, va_K.moved hW.alike hK9, hD.sub [0, 1, 2, 3] (by decide) rfl⟩, hS.F ht⟩) hS.2.2 dX2_cameFrom_31
  · skip
    have g_7 : v_1.toInt = (0 : Int) := i_eq c_2
    refine lv_aload_n hx hb dX2_cameFrom_6 rfl (lv_at hl 0 rfl) ?_
    refine va_get (D := (dC, dI)) (ci := 2) (v := .ref bk) (C := RX2) (T := TX2) (N := 12) hx hb hts (fun w h => wM_c (iX2 w h)) hown hK hP 0 rfl rfl 1 (by decide) (hts _ (wM_c wd_447)) (fun _ h9 => h9) rfl dX2_cameFrom_7 ?_
    refine va_get (D := (dC, dI)) (ci := 0) (v := .ref bk_tail) (C := RX0) (T := TX0) (N := 13) hx hb hts (fun w h => wM_c (iX0 w h)) hown hK hP 1 rfl rfl 1 (by decide) (hts _ (wM_c wd_250)) (fun _ h9 => h9) rfl dX2_cameFrom_10 ?_
    refine lv_iload_n hx hb dX2_cameFrom_13 rfl (lv_at hl 1 rfl) ?_
    refine lv_iconst (v := 2) hx hb dX2_cameFrom_14 (by decide) ?_
    refine lv_idiv hx hb dX2_cameFrom_15 (by decide) ?_
    refine lv_topi (fun v_8 ev_8 => ?_)
    refine va_iald hx hb hK hP 2 0 rfl rfl (by rw [ev_8]; exact half_in (by omega)) dX2_cameFrom_16 ?_
    refine lv_topi (fun v_9 ev_9 => ?_)
    have g_10 : 0 ≤ v_9.toInt ∧ v_9.toInt < 10 := by rw [ev_9]; exact rg_inx q_tail (by rw [ev_8]; exact half_in (by omega))
    refine lv_goto (tgt := 31) hx hb dX2_cameFrom_17 (by decide) ?_
    have hK9 := hK.sub (tys' := [(k_bk_tail, .int), (k_bk_head, .int)]) [0, 1] rfl
    exact W.iret (v := v_9) hx hb hr (fun t ht hW => ⟨⟨v_9, (), rfl, (by omega), by rw [ht]; exact hP.sub [0, 1, 2, 3] rfl, va_K.moved hW.alike hK9, hD.sub [0, 1, 2, 3] (by decide) rfl⟩, hS.F ht⟩) hS.2.2 dX2_cameFrom_31
set_option maxHeartbeats 4000000 in
set_option maxRecDepth 100000 in
theorem c2_closedKnot (l : Launch) (dC : Nat → ClassId) (dI : Nat → Nat → Nat) (n0 : Nat) (atx : Nat → Nat × Nat) (sz : Nat) (fw : Nat) (fw_air : Nat) (bk : Nat) (st : Nat) (fw_hindrance : Nat) (fw_pull : Nat) (fw_droop : Nat) (fw_forth : Nat) (fw_back : Nat) (fw_label : Nat) (fw_cause : Nat) (fw_seen : Nat) (fw_round : Nat) (bw : Nat) (bk_tail : Nat) (bk_head : Nat) (bk_hinder : Nat) (bk_size : Nat) (bk_walk : Nat) (bk_draught : Nat) (bk_doorIn : Nat) (bk_fanIn : Nat) (bk_faceIn : Nat) (bn : Nat) (bk_day : Int32) (gr : Nat) (k_bk_tail : ClassId) (f_bk_tail : Nat → Int32) (k_bk_head : ClassId) (f_bk_head : Nat → Int32) (k_fw_cause : ClassId) (f_fw_cause : Nat → Int32) (k_fw_seen : ClassId) (f_fw_seen : Nat → Int32) (hbw : bw ≤ 14) (hbn : bn ≤ 10) (q_day : -1 ≤ bk_day.toInt ∧ bk_day.toInt < 10) (q_tail : rg f_bk_tail 14 0 10) (q_head : rg f_bk_head 14 0 10) (r_cause : rg f_fw_cause 10 (-1) 28) : Met l yX2_closedKnot (wM yX2_closedKnot cX2_closedKnot 4 (some .int)) ({ frames := 1, cells := 0, slots := 0, locals := 23 }) (va_Pc [.ref fw] (fun U => U.heap.size = sz ∧ n0 ≤ sz ∧ GW n0 atx U ∧ va_P (dC, dI) classes [(fw, .inr (2, [.ref fw_air, .ref bk, .ref st, .ref fw_hindrance, .ref fw_pull, .ref fw_droop, .ref fw_forth, .ref fw_back, .ref fw_label, .ref fw_cause, .ref fw_seen, .ref fw_round])), (bk, .inr (0, [.int (nI bw), .ref bk_tail, .ref bk_head, .ref bk_hinder, .ref bk_size, .ref bk_walk, .ref bk_draught, .ref bk_doorIn, .ref bk_fanIn, .ref bk_faceIn, .int (nI bn), .int bk_day, .ref gr])), (bk_tail, .inl (k_bk_tail, 14, .inl f_bk_tail)), (bk_head, .inl (k_bk_head, 14, .inl f_bk_head)), (fw_cause, .inl (k_fw_cause, 10, .inl f_fw_cause)), (fw_seen, .inl (k_fw_seen, 10, .inl f_fw_seen))] U.heap ∧ va_K (dC, dI) classes [(k_bk_tail, .int), (k_bk_head, .int), (k_fw_cause, .int), (k_fw_seen, .int)] U ∧ va_D (fun q => n0 ≤ q) [(fw, .inr (2, [.ref fw_air, .ref bk, .ref st, .ref fw_hindrance, .ref fw_pull, .ref fw_droop, .ref fw_forth, .ref fw_back, .ref fw_label, .ref fw_cause, .ref fw_seen, .ref fw_round])), (bk, .inr (0, [.int (nI bw), .ref bk_tail, .ref bk_head, .ref bk_hinder, .ref bk_size, .ref bk_walk, .ref bk_draught, .ref bk_doorIn, .ref bk_fanIn, .ref bk_faceIn, .int (nI bn), .int bk_day, .ref gr])), (bk_tail, .inl (k_bk_tail, 14, .inl f_bk_tail)), (bk_head, .inl (k_bk_head, 14, .inl f_bk_head)), (fw_cause, .inl (k_fw_cause, 10, .inl f_fw_cause)), (fw_seen, .inl (k_fw_seen, 10, .inl f_fw_seen))])) (va_Qi (fun (r : Int32) (_ : Unit) => -1 ≤ r.toInt ∧ r.toInt < 10) (fun (_ : Unit) (t : State) => ∃ (se9 : Nat → Int32), va_P (dC, dI) classes [(fw, .inr (2, [.ref fw_air, .ref bk, .ref st, .ref fw_hindrance, .ref fw_pull, .ref fw_droop, .ref fw_forth, .ref fw_back, .ref fw_label, .ref fw_cause, .ref fw_seen, .ref fw_round])), (bk, .inr (0, [.int (nI bw), .ref bk_tail, .ref bk_head, .ref bk_hinder, .ref bk_size, .ref bk_walk, .ref bk_draught, .ref bk_doorIn, .ref bk_fanIn, .ref bk_faceIn, .int (nI bn), .int bk_day, .ref gr])), (bk_tail, .inl (k_bk_tail, 14, .inl f_bk_tail)), (bk_head, .inl (k_bk_head, 14, .inl f_bk_head)), (fw_cause, .inl (k_fw_cause, 10, .inl f_fw_cause)), (fw_seen, .inl (k_fw_seen, 10, .inl se9))] t.heap ∧ va_K (dC, dI) classes [(k_bk_tail, .int), (k_bk_head, .int), (k_fw_cause, .int), (k_fw_seen, .int)] t ∧ va_D (va_A [(fw, .inr (2, [.ref fw_air, .ref bk, .ref st, .ref fw_hindrance, .ref fw_pull, .ref fw_droop, .ref fw_forth, .ref fw_back, .ref fw_label, .ref fw_cause, .ref fw_seen, .ref fw_round])), (bk, .inr (0, [.int (nI bw), .ref bk_tail, .ref bk_head, .ref bk_hinder, .ref bk_size, .ref bk_walk, .ref bk_draught, .ref bk_doorIn, .ref bk_fanIn, .ref bk_faceIn, .int (nI bn), .int bk_day, .ref gr])), (bk_tail, .inl (k_bk_tail, 14, .inl f_bk_tail)), (bk_head, .inl (k_bk_head, 14, .inl f_bk_head)), (fw_cause, .inl (k_fw_cause, 10, .inl f_fw_cause)), (fw_seen, .inl (k_fw_seen, 10, .inl f_fw_seen))] sz) [(fw, .inr (2, [.ref fw_air, .ref bk, .ref st, .ref fw_hindrance, .ref fw_pull, .ref fw_droop, .ref fw_forth, .ref fw_back, .ref fw_label, .ref fw_cause, .ref fw_seen, .ref fw_round])), (bk, .inr (0, [.int (nI bw), .ref bk_tail, .ref bk_head, .ref bk_hinder, .ref bk_size, .ref bk_walk, .ref bk_draught, .ref bk_doorIn, .ref bk_fanIn, .ref bk_faceIn, .int (nI bn), .int bk_day, .ref gr])), (bk_tail, .inl (k_bk_tail, 14, .inl f_bk_tail)), (bk_head, .inl (k_bk_head, 14, .inl f_bk_head)), (fw_cause, .inl (k_fw_cause, 10, .inl f_fw_cause)), (fw_seen, .inl (k_fw_seen, 10, .inl se9))]) (va_A [(fw, .inr (2, [.ref fw_air, .ref bk, .ref st, .ref fw_hindrance, .ref fw_pull, .ref fw_droop, .ref fw_forth, .ref fw_back, .ref fw_label, .ref fw_cause, .ref fw_seen, .ref fw_round])), (bk, .inr (0, [.int (nI bw), .ref bk_tail, .ref bk_head, .ref bk_hinder, .ref bk_size, .ref bk_walk, .ref bk_draught, .ref bk_doorIn, .ref bk_fanIn, .ref bk_faceIn, .int (nI bn), .int bk_day, .ref gr])), (bk_tail, .inl (k_bk_tail, 14, .inl f_bk_tail)), (bk_head, .inl (k_bk_head, 14, .inl f_bk_head)), (fw_cause, .inl (k_fw_cause, 10, .inl f_fw_cause)), (fw_seen, .inl (k_fw_seen, 10, .inl f_fw_seen))] sz)) 0 0 (va_A [(fw, .inr (2, [.ref fw_air, .ref bk, .ref st, .ref fw_hindrance, .ref fw_pull, .ref fw_droop, .ref fw_forth, .ref fw_back, .ref fw_label, .ref fw_cause, .ref fw_seen, .ref fw_round])), (bk, .inr (0, [.int (nI bw), .ref bk_tail, .ref bk_head, .ref bk_hinder, .ref bk_size, .ref bk_walk, .ref bk_draught, .ref bk_doorIn, .ref bk_fanIn, .ref bk_faceIn, .int (nI bn), .int bk_day, .ref gr])), (bk_tail, .inl (k_bk_tail, 14, .inl f_bk_tail)), (bk_head, .inl (k_bk_head, 14, .inl f_bk_head)), (fw_cause, .inl (k_fw_cause, 10, .inl f_fw_cause)), (fw_seen, .inl (k_fw_seen, 10, .inl f_fw_seen))] sz) := by
  refine Met.ofW (cc := cX2_closedKnot) (maxL := 4) (ret := (some .int)) (by decide) rfl ?_
  intro p e s m args below meth c s₁ B hml hv
  obtain ⟨rfl, hsz, hn0, hG, hP, hK, hD0⟩ := hv
  have hx := B.exec
  have hb := B.bytes
  have hr := B.returns
  have hts := atoms_spec (ws := wM yX2_closedKnot cX2_closedKnot 4 (some .int)) B.pre
  have hown : s.vm.findClass RX2 = some m.cls := findClass_of_methodNamed B.named
  have hlocks := B.notSynchronized
  subst hsz
  have hD := hD0.self (sz := s.heap.size)
  have hA0 := vA_n0 hD0 hn0
  generalize hAe : va_A [(fw, .inr (2, [.ref fw_air, .ref bk, .ref st, .ref fw_hindrance, .ref fw_pull, .ref fw_droop, .ref fw_forth, .ref fw_back, .ref fw_label, .ref fw_cause, .ref fw_seen, .ref fw_round])), (bk, .inr (0, [.int (nI bw), .ref bk_tail, .ref bk_head, .ref bk_hinder, .ref bk_size, .ref bk_walk, .ref bk_draught, .ref bk_doorIn, .ref bk_fanIn, .ref bk_faceIn, .int (nI bn), .int bk_day, .ref gr])), (bk_tail, .inl (k_bk_tail, 14, .inl f_bk_tail)), (bk_head, .inl (k_bk_head, 14, .inl f_bk_head)), (fw_cause, .inl (k_fw_cause, 10, .inl f_fw_cause)), (fw_seen, .inl (k_fw_seen, 10, .inl f_fw_seen))] s.heap.size = A at hD hA0 ⊢
  have hA : ∀ q : Nat, s.heap.size ≤ q → A q := fun q h => by rw [← hAe]; exact Or.inr h
  have hS : va_S A s.heap s.heap [] := va_S.rf
  have hl := lv_entry ([.ref fw]) (n := 4) (Nat.le_of_ble_eq_true rfl)
  rw [lg_entry_eq]
  generalize (lg_sl ([.ref fw]) ++ List.replicate (4 - (lg_sl ([.ref fw])).length) Slot.unset).toArray = ls at hl ⊢
  have hl : lv_has ls 4 [(0, .ref fw)] := hl
  refine lv_aload_n hx hb dX2_closedKnot_0 rfl (lv_at hl 0 rfl) ?_
  refine va_get (D := (dC, dI)) (ci := 2) (v := .ref fw_seen) (C := RX2) (T := TX2) (N := 12) hx hb hts (fun w h => wM_c (iX2 w h)) hown hK hP 0 rfl rfl 10 (by decide) (hts _ (wM_c wd_456)) (fun _ h9 => h9) rfl dX2_closedKnot_1 ?_
  refine lv_iconst (v := (-1)) hx hb dX2_closedKnot_4 (by decide) ?_
  obtain ⟨hPc, hDc, hFc⟩ := s3_c (ws' := [(fw_seen, .inl (k_fw_seen, 10, .inl f_fw_seen))]) [5] hP hD hS hA rfl (by decide)
  have hKc := hK.sub (tys' := [(k_fw_seen, .int)]) [3] rfl
  refine va_callv (va_runS (As := [.ref fw_seen, .int (-1)]) (rest := []) ⟨hx, hb, hml, hown, hts⟩ (c_fill10 l dC dI n0 atx s.heap.size fw_seen k_fw_seen f_fw_seen (-1) ) (va_cwS 2 hts (gS (fun w h => wM_c h) wd_669 wd_912 wd_668 wd_126) rfl rfl rfl (by decide +kernel) ⟨Nat.le_of_ble_eq_true rfl, Nat.le_of_ble_eq_true rfl⟩) ⟨fun a U g mk q => by obtain ⟨q0, q1, q2, qG, qP, qK, qD⟩ := q; exact ⟨q0, q1, q2, GW.blind qG, qP, va_K.moved (u := U) (U := U.calling g mk a) (Vm.Alike.refl U.vm) qK, qD⟩, fun U hU hW => ⟨rfl, by rw [hU], Nat.le_trans hn0 hS.1, GW.go hW hU hG (fun q hq hA9 => hS.2.1 q hq (fun h => hA9 (hA0 q h))), by rw [hU]; exact hPc, va_K.moved hW.alike hKc, hDc.weaken (fun _ _ _ h => hA0 _ h)⟩⟩ rfl rfl hl.1 rfl (lv_room (Nat.le_of_ble_eq_true rfl)) dX2_closedKnot_5 ⟨Nat.le_of_ble_eq_true rfl, Nat.le_of_ble_eq_true rfl⟩) hS (fun q _ h => hFc q h) hFc (fun u t H1 locs ht hvm hw_2 hB hz1 hk1 hS => ?_)
  obtain ⟨f2_3, hf_4, hP1, hK1, hD1⟩ := hB
  rw [ht] at hP1
  obtain ⟨hP, hD⟩ := s3_j (L := [(fw, .inr (2, [.ref fw_air, .ref bk, .ref st, .ref fw_hindrance, .ref fw_pull, .ref fw_droop, .ref fw_forth, .ref fw_back, .ref fw_label, .ref fw_cause, .ref fw_seen, .ref fw_round])), (bk, .inr (0, [.int (nI bw), .ref bk_tail, .ref bk_head, .ref bk_hinder, .ref bk_size, .ref bk_walk, .ref bk_draught, .ref bk_doorIn, .ref bk_fanIn, .ref bk_faceIn, .int (nI bn), .int bk_day, .ref gr])), (bk_tail, .inl (k_bk_tail, 14, .inl f_bk_tail)), (bk_head, .inl (k_bk_head, 14, .inl f_bk_head)), (fw_cause, .inl (k_fw_cause, 10, .inl f_fw_cause)), (fw_seen, .inl (k_fw_seen, 10, .inl f2_3))]) 5 hP hD [5] [0, 1, 2, 3, 4] hk1 hFc hP1 hD1 rfl rfl rfl (by decide) (by decide)
  generalize H1 = H at hP hS ⊢
  refine lv_iconst (v := 0) hx hb dX2_closedKnot_8 (by decide) ?_
  refine lv_istore_n (lv' := [(1, .int 0), (0, .ref fw)]) hx hb dX2_closedKnot_9 rfl hl (by decide) rfl (fun ls hl => ?_)
  refine W_lp2 (I := fun (k1 : Nat) (se1 : Nat → Int32) H locs ls => (k1 ≤ bn) ∧ va_P (dC, dI) classes [(fw, .inr (2, [.ref fw_air, .ref bk, .ref st, .ref fw_hindrance, .ref fw_pull, .ref fw_droop, .ref fw_forth, .ref fw_back, .ref fw_label, .ref fw_cause, .ref fw_seen, .ref fw_round])), (bk, .inr (0, [.int (nI bw), .ref bk_tail, .ref bk_head, .ref bk_hinder, .ref bk_size, .ref bk_walk, .ref bk_draught, .ref bk_doorIn, .ref bk_fanIn, .ref bk_faceIn, .int (nI bn), .int bk_day, .ref gr])), (bk_tail, .inl (k_bk_tail, 14, .inl f_bk_tail)), (bk_head, .inl (k_bk_head, 14, .inl f_bk_head)), (fw_cause, .inl (k_fw_cause, 10, .inl f_fw_cause)), (fw_seen, .inl (k_fw_seen, 10, .inl se1))] H ∧ va_D A [(fw, .inr (2, [.ref fw_air, .ref bk, .ref st, .ref fw_hindrance, .ref fw_pull, .ref fw_droop, .ref fw_forth, .ref fw_back, .ref fw_label, .ref fw_cause, .ref fw_seen, .ref fw_round])), (bk, .inr (0, [.int (nI bw), .ref bk_tail, .ref bk_head, .ref bk_hinder, .ref bk_size, .ref bk_walk, .ref bk_draught, .ref bk_doorIn, .ref bk_fanIn, .ref bk_faceIn, .int (nI bn), .int bk_day, .ref gr])), (bk_tail, .inl (k_bk_tail, 14, .inl f_bk_tail)), (bk_head, .inl (k_bk_head, 14, .inl f_bk_head)), (fw_cause, .inl (k_fw_cause, 10, .inl f_fw_cause)), (fw_seen, .inl (k_fw_seen, 10, .inl se1))] ∧ va_S A s.heap H locs ∧ lv_has ls 4 [(0, .ref fw), (1, .int (nI k1))]) (μ := fun (k1 : Nat) (se1 : Nat → Int32) => bn - k1) ?_ 0 f2_3 _ _ _ ⟨(by first | with_reducible assumption | omega | exact vp_in_iff.mpr (by omega) | exact vp_in_nI (by omega) (by omega) | exact ⟨by omega, by omega⟩), hP, hD, hS, lv_sub hl [1, 0] rfl⟩
  intro k1 se1 H locs ls hI ih_5
  obtain ⟨hk1, hP, hD, hS, hl⟩ := hI
  refine lv_iload_n hx hb dX2_closedKnot_10 rfl (lv_at hl 1 rfl) ?_
  refine lv_aload_n hx hb dX2_closedKnot_11 rfl (lv_at hl 0 rfl) ?_
  refine va_get (D := (dC, dI)) (ci := 2) (v := .ref bk) (C := RX2) (T := TX2) (N := 12) hx hb hts (fun w h => wM_c (iX2 w h)) hown hK hP 0 rfl rfl 1 (by decide) (hts _ (wM_c wd_447)) (fun _ h9 => h9) rfl dX2_closedKnot_12 ?_
  refine va_get (D := (dC, dI)) (ci := 0) (v := .int (nI bn)) (C := RX0) (T := TX0) (N := 13) hx hb hts (fun w h => wM_c (iX0 w h)) hown hK hP 1 rfl rfl 10 (by decide) (hts _ (wM_c wd_285)) (fun _ h9 => h9) rfl dX2_closedKnot_15 ?_
  refine lv_icmp_ge (tgt := 101) hx hb dX2_closedKnot_18 (by decide) (fun c_6 => ?_) (fun c_6 => ?_)
  · skip
    have g_7 := n_ge (a := k1) (b := bn) c_6 (by omega) (by omega)
    refine lv_iconst (v := (-1)) hx hb dX2_closedKnot_101 (by decide) ?_
    have hK9 := hK.sub (tys' := [(k_bk_tail, .int), (k_bk_head, .int), (k_fw_cause, .int), (k_fw_seen, .int)]) [0, 1, 2, 3] rfl
    exact W.iret (v := (-1)) hx hb hr (fun t ht hW => ⟨⟨(-1), (), rfl, (by decide), se1, by rw [ht]; exact hP.sub [0, 1, 2, 3, 4, 5] rfl, va_K.moved hW.alike hK9, hD.sub [0, 1, 2, 3, 4, 5] (by decide) rfl⟩, hS.F ht⟩) hS.2.2 dX2_closedKnot_102
  · skip
    have g_8 := n_nge (a := k1) (b := bn) c_6 (by omega) (by omega)
    refine lv_iload_n hx hb dX2_closedKnot_21 rfl (lv_at hl 1 rfl) ?_
    refine lv_istore_n (lv' := [(2, .int (nI k1)), (0, .ref fw), (1, .int (nI k1))]) hx hb dX2_closedKnot_22 rfl hl (by decide) rfl (fun ls hl => ?_)
    refine lv_iconst (v := 0) hx hb dX2_closedKnot_23 (by decide) ?_
    refine lv_istore_n (lv' := [(3, .int 0), (2, .int (nI k1)), (0, .ref fw), (1, .int (nI k1))]) hx hb dX2_closedKnot_24 rfl hl (by decide) rfl (fun ls hl => ?_)
    refine W_lp3 (I := fun (kn : Int32) (i1 : Nat) (se2 : Nat → Int32) H locs ls => (i1 ≤ bn + 1) ∧ (0 ≤ kn.toInt ∧ kn.toInt < 10) ∧ va_P (dC, dI) classes [(fw, .inr (2, [.ref fw_air, .ref bk, .ref st, .ref fw_hindrance, .ref fw_pull, .ref fw_droop, .ref fw_forth, .ref fw_back, .ref fw_label, .ref fw_cause, .ref fw_seen, .ref fw_round])), (bk, .inr (0, [.int (nI bw), .ref bk_tail, .ref bk_head, .ref bk_hinder, .ref bk_size, .ref bk_walk, .ref bk_draught, .ref bk_doorIn, .ref bk_fanIn, .ref bk_faceIn, .int (nI bn), .int bk_day, .ref gr])), (bk_tail, .inl (k_bk_tail, 14, .inl f_bk_tail)), (bk_head, .inl (k_bk_head, 14, .inl f_bk_head)), (fw_cause, .inl (k_fw_cause, 10, .inl f_fw_cause)), (fw_seen, .inl (k_fw_seen, 10, .inl se2))] H ∧ va_D A [(fw, .inr (2, [.ref fw_air, .ref bk, .ref st, .ref fw_hindrance, .ref fw_pull, .ref fw_droop, .ref fw_forth, .ref fw_back, .ref fw_label, .ref fw_cause, .ref fw_seen, .ref fw_round])), (bk, .inr (0, [.int (nI bw), .ref bk_tail, .ref bk_head, .ref bk_hinder, .ref bk_size, .ref bk_walk, .ref bk_draught, .ref bk_doorIn, .ref bk_fanIn, .ref bk_faceIn, .int (nI bn), .int bk_day, .ref gr])), (bk_tail, .inl (k_bk_tail, 14, .inl f_bk_tail)), (bk_head, .inl (k_bk_head, 14, .inl f_bk_head)), (fw_cause, .inl (k_fw_cause, 10, .inl f_fw_cause)), (fw_seen, .inl (k_fw_seen, 10, .inl se2))] ∧ va_S A s.heap H locs ∧ lv_has ls 4 [(0, .ref fw), (1, .int (nI k1)), (2, .int kn), (3, .int (nI i1))]) (μ := fun (kn : Int32) (i1 : Nat) (se2 : Nat → Int32) => bn + 1 - i1) ?_ (nI k1) 0 se1 _ _ _ ⟨(by first | with_reducible assumption | omega | exact vp_in_iff.mpr (by omega) | exact vp_in_nI (by omega) (by omega) | exact ⟨by omega, by omega⟩), (by rw [nI_toInt (by omega)]; omega), hP, hD, hS, lv_sub hl [2, 3, 1, 0] rfl⟩
    intro kn i1 se2 H locs ls hI ih_9
    obtain ⟨hi1, hkn, hP, hD, hS, hl⟩ := hI
    refine lv_iload_n hx hb dX2_closedKnot_25 rfl (lv_at hl 3 rfl) ?_
    refine lv_aload_n hx hb dX2_closedKnot_26 rfl (lv_at hl 0 rfl) ?_
    refine va_get (D := (dC, dI)) (ci := 2) (v := .ref bk) (C := RX2) (T := TX2) (N := 12) hx hb hts (fun w h => wM_c (iX2 w h)) hown hK hP 0 rfl rfl 1 (by decide) (hts _ (wM_c wd_447)) (fun _ h9 => h9) rfl dX2_closedKnot_27 ?_
    refine va_get (D := (dC, dI)) (ci := 0) (v := .int (nI bn)) (C := RX0) (T := TX0) (N := 13) hx hb hts (fun w h => wM_c (iX0 w h)) hown hK hP 1 rfl rfl 10 (by decide) (hts _ (wM_c wd_285)) (fun _ h9 => h9) rfl dX2_closedKnot_30 ?_
    refine lv_icmp_gt (tgt := 95) hx hb dX2_closedKnot_33 (by decide) (fun c_10 => ?_) (fun c_10 => ?_)
    · skip
      have g_11 := n_lt (a := bn) (b := i1) c_10 (by omega) (by omega)
      refine lv_iinc (v := (nI (k1 + 1))) (lv' := [(1, .int (nI (k1 + 1))), (0, .ref fw), (2, .int kn), (3, .int (nI i1))]) hx hb dX2_closedKnot_95 hl (k := 1) rfl (nI_add _ 1) (by decide) rfl (fun ls hl => ?_)
      refine lv_goto (tgt := 10) hx hb dX2_closedKnot_98 (by decide) ?_
      exact ih_5 (k1 + 1) se2 _ _ _ ⟨(by first | with_reducible assumption | omega | exact vp_in_iff.mpr (by omega) | exact vp_in_nI (by omega) (by omega) | exact ⟨by omega, by omega⟩), hP.sub [0, 1, 2, 3, 4, 5] rfl, hD.sub [0, 1, 2, 3, 4, 5] (by decide) rfl, hS, lv_sub hl [1, 0] rfl⟩ (by omega)
    · skip
      have g_12 := n_nlt (a := bn) (b := i1) c_10 (by omega) (by omega)
      refine lv_aload_n hx hb dX2_closedKnot_36 rfl (lv_at hl 0 rfl) ?_
      refine va_get (D := (dC, dI)) (ci := 2) (v := .ref fw_seen) (C := RX2) (T := TX2) (N := 12) hx hb hts (fun w h => wM_c (iX2 w h)) hown hK hP 0 rfl rfl 10 (by decide) (hts _ (wM_c wd_456)) (fun _ h9 => h9) rfl dX2_closedKnot_37 ?_
      refine lv_iload_n hx hb dX2_closedKnot_40 rfl (lv_at hl 2 rfl) ?_
      refine va_iald hx hb hK hP 5 3 rfl rfl (by first | with_reducible assumption | exact vp_in_iff.mpr (by omega)) dX2_closedKnot_41 ?_
      refine lv_topi (fun v_13 ev_13 => ?_)
      refine lv_iload_n hx hb dX2_closedKnot_42 rfl (lv_at hl 1 rfl) ?_
      refine lv_icmp_ne (tgt := 48) hx hb dX2_closedKnot_43 (by decide) (fun c_14 => ?_) (fun c_14 => ?_)
      · skip
        have g_15 : v_13.toInt ≠ ((k1 : Nat) : Int) := (by have h := i_ne c_14; rw [nI_toInt (by omega)] at h; exact h)
        refine lv_aload_n hx hb dX2_closedKnot_48 rfl (lv_at hl 0 rfl) ?_
        refine va_get (D := (dC, dI)) (ci := 2) (v := .ref fw_seen) (C := RX2) (T := TX2) (N := 12) hx hb hts (fun w h => wM_c (iX2 w h)) hown hK hP 0 rfl rfl 10 (by decide) (hts _ (wM_c wd_456)) (fun _ h9 => h9) rfl dX2_closedKnot_49 ?_
        refine lv_iload_n hx hb dX2_closedKnot_52 rfl (lv_at hl 2 rfl) ?_
        refine va_iald hx hb hK hP 5 3 rfl rfl (by first | with_reducible assumption | exact vp_in_iff.mpr (by omega)) dX2_closedKnot_53 ?_
        refine lv_topi (fun v_16 ev_16 => ?_)
        refine lv_iconst (v := (-1)) hx hb dX2_closedKnot_54 (by decide) ?_
        refine lv_icmp_ne (tgt := 95) hx hb dX2_closedKnot_55 (by decide) (fun c_17 => ?_) (fun c_17 => ?_)
        · skip
          have g_18 : v_16.toInt ≠ (-1 : Int) := i_ne c_17
          refine lv_iinc (v := (nI (k1 + 1))) (lv' := [(1, .int (nI (k1 + 1))), (0, .ref fw), (2, .int kn), (3, .int (nI i1))]) hx hb dX2_closedKnot_95 hl (k := 1) rfl (nI_add _ 1) (by decide) rfl (fun ls hl => ?_)
          refine lv_goto (tgt := 10) hx hb dX2_closedKnot_98 (by decide) ?_
          exact ih_5 (k1 + 1) se2 _ _ _ ⟨(by first | with_reducible assumption | omega | exact vp_in_iff.mpr (by omega) | exact vp_in_nI (by omega) (by omega) | exact ⟨by omega, by omega⟩), hP.sub [0, 1, 2, 3, 4, 5] rfl, hD.sub [0, 1, 2, 3, 4, 5] (by decide) rfl, hS, lv_sub hl [1, 0] rfl⟩ (by omega)
        · skip
          have g_19 : v_16.toInt = (-1 : Int) := i_eq c_17
          refine lv_aload_n hx hb dX2_closedKnot_58 rfl (lv_at hl 0 rfl) ?_
          refine va_get (D := (dC, dI)) (ci := 2) (v := .ref fw_cause) (C := RX2) (T := TX2) (N := 12) hx hb hts (fun w h => wM_c (iX2 w h)) hown hK hP 0 rfl rfl 9 (by decide) (hts _ (wM_c wd_455)) (fun _ h9 => h9) rfl dX2_closedKnot_59 ?_
          refine lv_iload_n hx hb dX2_closedKnot_62 rfl (lv_at hl 2 rfl) ?_
          refine va_iald hx hb hK hP 4 2 rfl rfl (by first | with_reducible assumption | exact vp_in_iff.mpr (by omega)) dX2_closedKnot_63 ?_
          refine lv_topi (fun v_20 ev_20 => ?_)
          have g_21 : (-1) ≤ v_20.toInt ∧ v_20.toInt < 28 := by rw [ev_20]; exact rg_inx r_cause (by first | with_reducible assumption | exact vp_in_iff.mpr (by omega))
          refine lv_iconst (v := (-1)) hx hb dX2_closedKnot_64 (by decide) ?_
          refine lv_icmp_ne (tgt := 71) hx hb dX2_closedKnot_65 (by decide) (fun c_22 => ?_) (fun c_22 => ?_)
          · skip
            have g_23 : v_20.toInt ≠ (-1 : Int) := i_ne c_22
            refine lv_aload_n hx hb dX2_closedKnot_71 rfl (lv_at hl 0 rfl) ?_
            refine va_get (D := (dC, dI)) (ci := 2) (v := .ref fw_seen) (C := RX2) (T := TX2) (N := 12) hx hb hts (fun w h => wM_c (iX2 w h)) hown hK hP 0 rfl rfl 10 (by decide) (hts _ (wM_c wd_456)) (fun _ h9 => h9) rfl dX2_closedKnot_72 ?_
            refine lv_iload_n hx hb dX2_closedKnot_75 rfl (lv_at hl 2 rfl) ?_
            refine lv_iload_n hx hb dX2_closedKnot_76 rfl (lv_at hl 1 rfl) ?_
            refine va_iast hx hb hK hP hD hS 5 3 rfl rfl (by first | with_reducible assumption | exact vp_in_iff.mpr (by omega)) dX2_closedKnot_77 (fun H locs hP hD hS => ?_)
            obtain ⟨f_24, ef_24⟩ : ∃ f9, f9 = (upd se2 kn.toNatClampNeg (nI k1)) := ⟨_, rfl⟩
            obtain ⟨hP, hD⟩ : s3_w (dC, dI) classes A [(fw, .inr (2, [.ref fw_air, .ref bk, .ref st, .ref fw_hindrance, .ref fw_pull, .ref fw_droop, .ref fw_forth, .ref fw_back, .ref fw_label, .ref fw_cause, .ref fw_seen, .ref fw_round])), (bk, .inr (0, [.int (nI bw), .ref bk_tail, .ref bk_head, .ref bk_hinder, .ref bk_size, .ref bk_walk, .ref bk_draught, .ref bk_doorIn, .ref bk_fanIn, .ref bk_faceIn, .int (nI bn), .int bk_day, .ref gr])), (bk_tail, .inl (k_bk_tail, 14, .inl f_bk_tail)), (bk_head, .inl (k_bk_head, 14, .inl f_bk_head)), (fw_cause, .inl (k_fw_cause, 10, .inl f_fw_cause)), (fw_seen, .inl (k_fw_seen, 10, .inl f_24))] H := ⟨(by rw [ef_24]; exact hP), (by rw [ef_24]; exact hD)⟩
            refine lv_aload_n hx hb dX2_closedKnot_78 rfl (lv_at hl 0 rfl) ?_
            refine lv_aload_n hx hb dX2_closedKnot_79 rfl (lv_at hl 0 rfl) ?_
            refine va_get (D := (dC, dI)) (ci := 2) (v := .ref fw_cause) (C := RX2) (T := TX2) (N := 12) hx hb hts (fun w h => wM_c (iX2 w h)) hown hK hP 0 rfl rfl 9 (by decide) (hts _ (wM_c wd_455)) (fun _ h9 => h9) rfl dX2_closedKnot_80 ?_
            refine lv_iload_n hx hb dX2_closedKnot_83 rfl (lv_at hl 2 rfl) ?_
            refine va_iald hx hb hK hP 4 2 rfl rfl (by first | with_reducible assumption | exact vp_in_iff.mpr (by omega)) dX2_closedKnot_84 ?_
            refine lv_topi (fun v_25 ev_25 => ?_)
            have g_26 : (-1) ≤ v_25.toInt ∧ v_25.toInt < 28 := by rw [ev_25]; exact rg_inx r_cause (by first | with_reducible assumption | exact vp_in_iff.mpr (by omega))
            obtain ⟨hPc, hDc, hFc⟩ := s3_c (ws' := [(fw, .inr (2, [.ref fw_air, .ref bk, .ref st, .ref fw_hindrance, .ref fw_pull, .ref fw_droop, .ref fw_forth, .ref fw_back, .ref fw_label, .ref fw_cause, .ref fw_seen, .ref fw_round])), (bk, .inr (0, [.int (nI bw), .ref bk_tail, .ref bk_head, .ref bk_hinder, .ref bk_size, .ref bk_walk, .ref bk_draught, .ref bk_doorIn, .ref bk_fanIn, .ref bk_faceIn, .int (nI bn), .int bk_day, .ref gr])), (bk_tail, .inl (k_bk_tail, 14, .inl f_bk_tail)), (bk_head, .inl (k_bk_head, 14, .inl f_bk_head))]) [0, 1, 2, 3] hP hD hS hA rfl (by decide)
            have hKc := hK.sub (tys' := [(k_bk_tail, .int), (k_bk_head, .int)]) [0, 1] rfl
            refine va_calli (va_runV (As := [.int v_25]) (rest := []) ⟨hx, hb, hml, hown, hts⟩ (c2_cameFrom l dC dI n0 atx H.size fw fw_air bk st fw_hindrance fw_pull fw_droop fw_forth fw_back fw_label fw_cause fw_seen fw_round bw bk_tail bk_head bk_hinder bk_size bk_walk bk_draught bk_doorIn bk_fanIn bk_faceIn bn bk_day gr k_bk_tail f_bk_tail k_bk_head f_bk_head v_25 (by first | with_reducible assumption | omega | exact vp_in_iff.mpr (by omega) | exact vp_in_nI (by omega) (by omega) | exact ⟨by omega, by omega⟩) (by first | with_reducible assumption | omega | exact vp_in_iff.mpr (by omega) | exact vp_in_nI (by omega) (by omega) | exact ⟨by omega, by omega⟩) (by first | with_reducible assumption | omega | exact vp_in_iff.mpr (by omega) | exact vp_in_nI (by omega) (by omega) | exact ⟨by omega, by omega⟩) (by first | with_reducible assumption | omega | exact vp_in_iff.mpr (by omega) | exact vp_in_nI (by omega) (by omega) | exact ⟨by omega, by omega⟩) (by first | with_reducible assumption | omega | exact vp_in_iff.mpr (by omega) | exact vp_in_nI (by omega) (by omega) | exact ⟨by omega, by omega⟩) (by first | with_reducible assumption | omega | exact vp_in_iff.mpr (by omega) | exact vp_in_nI (by omega) (by omega) | exact ⟨by omega, by omega⟩)) (cwV 1 hts (gV (fun w h => wM_c h) wd_1052 wd_1049 wd_1051 wd_36 wd_120) rfl rfl rfl (by decide +kernel) ⟨Nat.le_of_ble_eq_true rfl, Nat.le_of_ble_eq_true rfl⟩) ⟨fun a U g mk q => by obtain ⟨q0, q1, q2, qG, qP, qK, qD⟩ := q; exact ⟨q0, q1, q2, GW.blind qG, qP, va_K.moved (u := U) (U := U.calling g mk a) (Vm.Alike.refl U.vm) qK, qD⟩, va_recv hKc hPc (ci := 2) (q0 := 0) rfl rfl, fun U hU hW => ⟨rfl, by rw [hU], Nat.le_trans hn0 hS.1, GW.go hW hU hG (fun q hq hA9 => hS.2.1 q hq (fun h => hA9 (hA0 q h))), by rw [hU]; exact hPc, va_K.moved hW.alike hKc, hDc.weaken (fun _ _ _ h => hA0 _ h)⟩⟩ rfl rfl hl.1 rfl (lv_room (Nat.le_of_ble_eq_true rfl)) dX2_closedKnot_85 ⟨Nat.le_of_ble_eq_true rfl, Nat.le_of_ble_eq_true rfl⟩) hS (fun q _ h => hFc q h) hFc (fun r_27 u t H1 locs ht hvm hw_28 hB hz1 hk1 hS => ?_)
            obtain ⟨hP1, hK1, hD1⟩ := hB
            rw [ht] at hP1
            obtain ⟨hP, hD⟩ := s3_j (L := [(fw_cause, .inl (k_fw_cause, 10, .inl f_fw_cause)), (fw_seen, .inl (k_fw_seen, 10, .inl f_24)), (fw, .inr (2, [.ref fw_air, .ref bk, .ref st, .ref fw_hindrance, .ref fw_pull, .ref fw_droop, .ref fw_forth, .ref fw_back, .ref fw_label, .ref fw_cause, .ref fw_seen, .ref fw_round])), (bk, .inr (0, [.int (nI bw), .ref bk_tail, .ref bk_head, .ref bk_hinder, .ref bk_size, .ref bk_walk, .ref bk_draught, .ref bk_doorIn, .ref bk_fanIn, .ref bk_faceIn, .int (nI bn), .int bk_day, .ref gr])), (bk_tail, .inl (k_bk_tail, 14, .inl f_bk_tail)), (bk_head, .inl (k_bk_head, 14, .inl f_bk_head))]) 2 hP hD [0, 1, 2, 3] [4, 5] hk1 hFc hP1 hD1 rfl rfl rfl (by decide) (by decide)
            generalize H1 = H at hP hS ⊢
            refine lv_istore_n (lv' := [(2, .int r_27), (0, .ref fw), (1, .int (nI k1)), (3, .int (nI i1))]) hx hb dX2_closedKnot_88 rfl hl (by decide) rfl (fun ls hl => ?_)
            refine lv_iinc (v := (nI (i1 + 1))) (lv' := [(3, .int (nI (i1 + 1))), (2, .int r_27), (0, .ref fw), (1, .int (nI k1))]) hx hb dX2_closedKnot_89 hl (k := 3) rfl (nI_add _ 1) (by decide) rfl (fun ls hl => ?_)
            refine lv_goto (tgt := 25) hx hb dX2_closedKnot_92 (by decide) ?_
            exact ih_9 r_27 (i1 + 1) f_24 _ _ _ ⟨(by first | with_reducible assumption | omega | exact vp_in_iff.mpr (by omega) | exact vp_in_nI (by omega) (by omega) | exact ⟨by omega, by omega⟩), (by first | with_reducible assumption | omega | exact vp_in_iff.mpr (by omega) | exact vp_in_nI (by omega) (by omega) | exact ⟨by omega, by omega⟩), hP.sub [2, 3, 4, 5, 0, 1] rfl, hD.sub [2, 3, 4, 5, 0, 1] (by decide) rfl, hS, lv_sub hl [2, 3, 1, 0] rfl⟩ (by omega)
          · skip
            have g_29 : v_20.toInt = (-1 : Int) := i_eq c_22
            refine lv_goto (tgt := 95) hx hb dX2_closedKnot_68 (by decide) ?_
            refine lv_iinc (v := (nI (k1 + 1))) (lv' := [(1, .int (nI (k1 + 1))), (0, .ref fw), (2, .int kn), (3, .int (nI i1))]) hx hb dX2_closedKnot_95 hl (k := 1) rfl (nI_add _ 1) (by decide) rfl (fun ls hl => ?_)
            refine lv_goto (tgt := 10) hx hb dX2_closedKnot_98 (by decide) ?_
            exact ih_5 (k1 + 1) se2 _ _ _ ⟨(by first | with_reducible assumption | omega | exact vp_in_iff.mpr (by omega) | exact vp_in_nI (by omega) (by omega) | exact ⟨by omega, by omega⟩), hP.sub [0, 1, 2, 3, 4, 5] rfl, hD.sub [0, 1, 2, 3, 4, 5] (by decide) rfl, hS, lv_sub hl [1, 0] rfl⟩ (by omega)
      · skip
        have g_30 : v_13.toInt = ((k1 : Nat) : Int) := (by have h := i_eq c_14; rw [nI_toInt (by omega)] at h; exact h)
        refine lv_iload_n hx hb dX2_closedKnot_46 rfl (lv_at hl 2 rfl) ?_
        have hK9 := hK.sub (tys' := [(k_bk_tail, .int), (k_bk_head, .int), (k_fw_cause, .int), (k_fw_seen, .int)]) [0, 1, 2, 3] rfl
        exact W.iret (v := kn) hx hb hr (fun t ht hW => ⟨⟨kn, (), rfl, (by omega), se2, by rw [ht]; exact hP.sub [0, 1, 2, 3, 4, 5] rfl, va_K.moved hW.alike hK9, hD.sub [0, 1, 2, 3, 4, 5] (by decide) rfl⟩, hS.F ht⟩) hS.2.2 dX2_closedKnot_47
set_option maxHeartbeats 4000000 in
set_option maxRecDepth 100000 in
theorem c2_gains (l : Launch) (dC : Nat → ClassId) (dI : Nat → Nat → Nat) (n0 : Nat) (atx : Nat → Nat × Nat) (sz : Nat) (fw : Nat) (fw_air : Nat) (bk : Nat) (st : Nat) (fw_hindrance : Nat) (fw_pull : Nat) (fw_droop : Nat) (fw_forth : Nat) (fw_back : Nat) (fw_label : Nat) (fw_cause : Nat) (fw_seen : Nat) (fw_round : Nat) (k_fw_forth : ClassId) (f_fw_forth : Nat → Int64) (k_fw_back : ClassId) (f_fw_back : Nat → Int64) (k_fw_round : ClassId) (f_fw_round : Nat → Int32) (len : Nat) (r_round : rg f_fw_round 10 (-1) 28) (hlen : len ≤ 10) : Met l yX2_gains (wM yX2_gains cX2_gains 8 (some .boolean)) ({ frames := 0, cells := 0, slots := 0, locals := 0 }) (va_Pc [.ref fw, .int (nI len)] (fun U => U.heap.size = sz ∧ n0 ≤ sz ∧ GW n0 atx U ∧ va_P (dC, dI) classes [(fw, .inr (2, [.ref fw_air, .ref bk, .ref st, .ref fw_hindrance, .ref fw_pull, .ref fw_droop, .ref fw_forth, .ref fw_back, .ref fw_label, .ref fw_cause, .ref fw_seen, .ref fw_round])), (fw_forth, .inl (k_fw_forth, 14, .inr (.inl f_fw_forth))), (fw_back, .inl (k_fw_back, 14, .inr (.inl f_fw_back))), (fw_round, .inl (k_fw_round, 10, .inl f_fw_round))] U.heap ∧ va_K (dC, dI) classes [(k_fw_forth, .long), (k_fw_back, .long), (k_fw_round, .int)] U ∧ va_D (fun q => n0 ≤ q) [(fw, .inr (2, [.ref fw_air, .ref bk, .ref st, .ref fw_hindrance, .ref fw_pull, .ref fw_droop, .ref fw_forth, .ref fw_back, .ref fw_label, .ref fw_cause, .ref fw_seen, .ref fw_round])), (fw_forth, .inl (k_fw_forth, 14, .inr (.inl f_fw_forth))), (fw_back, .inl (k_fw_back, 14, .inr (.inl f_fw_back))), (fw_round, .inl (k_fw_round, 10, .inl f_fw_round))])) (va_Qi (fun (r : Int32) (_ : Unit) => r = 0 ∨ r = 1) (fun (_ : Unit) (t : State) => va_P (dC, dI) classes [(fw, .inr (2, [.ref fw_air, .ref bk, .ref st, .ref fw_hindrance, .ref fw_pull, .ref fw_droop, .ref fw_forth, .ref fw_back, .ref fw_label, .ref fw_cause, .ref fw_seen, .ref fw_round])), (fw_forth, .inl (k_fw_forth, 14, .inr (.inl f_fw_forth))), (fw_back, .inl (k_fw_back, 14, .inr (.inl f_fw_back))), (fw_round, .inl (k_fw_round, 10, .inl f_fw_round))] t.heap ∧ va_K (dC, dI) classes [(k_fw_forth, .long), (k_fw_back, .long), (k_fw_round, .int)] t ∧ va_D (va_A [(fw, .inr (2, [.ref fw_air, .ref bk, .ref st, .ref fw_hindrance, .ref fw_pull, .ref fw_droop, .ref fw_forth, .ref fw_back, .ref fw_label, .ref fw_cause, .ref fw_seen, .ref fw_round])), (fw_forth, .inl (k_fw_forth, 14, .inr (.inl f_fw_forth))), (fw_back, .inl (k_fw_back, 14, .inr (.inl f_fw_back))), (fw_round, .inl (k_fw_round, 10, .inl f_fw_round))] sz) [(fw, .inr (2, [.ref fw_air, .ref bk, .ref st, .ref fw_hindrance, .ref fw_pull, .ref fw_droop, .ref fw_forth, .ref fw_back, .ref fw_label, .ref fw_cause, .ref fw_seen, .ref fw_round])), (fw_forth, .inl (k_fw_forth, 14, .inr (.inl f_fw_forth))), (fw_back, .inl (k_fw_back, 14, .inr (.inl f_fw_back))), (fw_round, .inl (k_fw_round, 10, .inl f_fw_round))]) (va_A [(fw, .inr (2, [.ref fw_air, .ref bk, .ref st, .ref fw_hindrance, .ref fw_pull, .ref fw_droop, .ref fw_forth, .ref fw_back, .ref fw_label, .ref fw_cause, .ref fw_seen, .ref fw_round])), (fw_forth, .inl (k_fw_forth, 14, .inr (.inl f_fw_forth))), (fw_back, .inl (k_fw_back, 14, .inr (.inl f_fw_back))), (fw_round, .inl (k_fw_round, 10, .inl f_fw_round))] sz)) 0 0 (va_A [(fw, .inr (2, [.ref fw_air, .ref bk, .ref st, .ref fw_hindrance, .ref fw_pull, .ref fw_droop, .ref fw_forth, .ref fw_back, .ref fw_label, .ref fw_cause, .ref fw_seen, .ref fw_round])), (fw_forth, .inl (k_fw_forth, 14, .inr (.inl f_fw_forth))), (fw_back, .inl (k_fw_back, 14, .inr (.inl f_fw_back))), (fw_round, .inl (k_fw_round, 10, .inl f_fw_round))] sz) := by
  refine Met.ofW (cc := cX2_gains) (maxL := 8) (ret := (some .boolean)) (by decide) rfl ?_
  intro p e s m args below meth c s₁ B hml hv
  obtain ⟨rfl, hsz, hn0, hG, hP, hK, hD0⟩ := hv
  have hx := B.exec
  have hb := B.bytes
  have hr := B.returns
  have hts := atoms_spec (ws := wM yX2_gains cX2_gains 8 (some .boolean)) B.pre
  have hown : s.vm.findClass RX2 = some m.cls := findClass_of_methodNamed B.named
  have hlocks := B.notSynchronized
  subst hsz
  have hD := hD0.self (sz := s.heap.size)
  have hA0 := vA_n0 hD0 hn0
  generalize hAe : va_A [(fw, .inr (2, [.ref fw_air, .ref bk, .ref st, .ref fw_hindrance, .ref fw_pull, .ref fw_droop, .ref fw_forth, .ref fw_back, .ref fw_label, .ref fw_cause, .ref fw_seen, .ref fw_round])), (fw_forth, .inl (k_fw_forth, 14, .inr (.inl f_fw_forth))), (fw_back, .inl (k_fw_back, 14, .inr (.inl f_fw_back))), (fw_round, .inl (k_fw_round, 10, .inl f_fw_round))] s.heap.size = A at hD hA0 ⊢
  have hA : ∀ q : Nat, s.heap.size ≤ q → A q := fun q h => by rw [← hAe]; exact Or.inr h
  have hS : va_S A s.heap s.heap [] := va_S.rf
  have hl := lv_entry ([.ref fw, .int (nI len)]) (n := 8) (Nat.le_of_ble_eq_true rfl)
  rw [lg_entry_eq]
  generalize (lg_sl ([.ref fw, .int (nI len)]) ++ List.replicate (8 - (lg_sl ([.ref fw, .int (nI len)])).length) Slot.unset).toArray = ls at hl ⊢
  have hl : lv_has ls 8 [(0, .ref fw), (1, .int (nI len))] := hl
  refine lv_lconst (v := 0) hx hb dX2_gains_0 (by decide) ?_
  refine lv_lstore_n (lv' := [(2, .long 0), (0, .ref fw), (1, .int (nI len))]) hx hb dX2_gains_1 rfl hl (by decide) rfl (fun ls hl => ?_)
  refine lv_iconst (v := 0) hx hb dX2_gains_2 (by decide) ?_
  refine lv_istore (lv' := [(4, .int 0), (2, .long 0), (0, .ref fw), (1, .int (nI len))]) hx hb dX2_gains_3 hl (by decide) rfl (fun ls hl => ?_)
  refine W_lp2 (I := fun (sm : Int64) (i : Nat) H locs ls => (i ≤ len) ∧ va_P (dC, dI) classes [(fw, .inr (2, [.ref fw_air, .ref bk, .ref st, .ref fw_hindrance, .ref fw_pull, .ref fw_droop, .ref fw_forth, .ref fw_back, .ref fw_label, .ref fw_cause, .ref fw_seen, .ref fw_round])), (fw_forth, .inl (k_fw_forth, 14, .inr (.inl f_fw_forth))), (fw_back, .inl (k_fw_back, 14, .inr (.inl f_fw_back))), (fw_round, .inl (k_fw_round, 10, .inl f_fw_round))] H ∧ va_D A [(fw, .inr (2, [.ref fw_air, .ref bk, .ref st, .ref fw_hindrance, .ref fw_pull, .ref fw_droop, .ref fw_forth, .ref fw_back, .ref fw_label, .ref fw_cause, .ref fw_seen, .ref fw_round])), (fw_forth, .inl (k_fw_forth, 14, .inr (.inl f_fw_forth))), (fw_back, .inl (k_fw_back, 14, .inr (.inl f_fw_back))), (fw_round, .inl (k_fw_round, 10, .inl f_fw_round))] ∧ va_S A s.heap H locs ∧ lv_has ls 8 [(0, .ref fw), (1, .int (nI len)), (2, .long sm), (4, .int (nI i))]) (μ := fun (sm : Int64) (i : Nat) => len - i) ?_ 0 0 _ _ _ ⟨(by first | with_reducible assumption | omega | exact vp_in_iff.mpr (by omega) | exact vp_in_nI (by omega) (by omega) | exact ⟨by omega, by omega⟩), hP, hD, hS, lv_sub hl [2, 3, 1, 0] rfl⟩
  intro sm i H locs ls hI ih_1
  obtain ⟨hi, hP, hD, hS, hl⟩ := hI
  refine lv_iload hx hb dX2_gains_5 (lv_at hl 3 rfl) ?_
  refine lv_iload_n hx hb dX2_gains_7 rfl (lv_at hl 1 rfl) ?_
  refine lv_icmp_ge (tgt := 75) hx hb dX2_gains_8 (by decide) (fun c_2 => ?_) (fun c_2 => ?_)
  · skip
    have g_3 := n_ge (a := i) (b := len) c_2 (by omega) (by omega)
    refine lv_lload_n hx hb dX2_gains_75 rfl (lv_at hl 2 rfl) ?_
    refine lv_lconst (v := 0) hx hb dX2_gains_76 (by decide) ?_
    refine W.lcmp hx hb dX2_gains_77 ?_
    refine lv_topi (fun v_4 ev_4 => ?_)
    refine lv_if_ge (tgt := 85) hx hb dX2_gains_78 (by decide) (fun c_5 => ?_) (fun c_5 => ?_)
    · skip
      have g_6 : 0 ≤ sm := (lg_cmp_ge sm 0).mp (by rw [← ev_4]; exact c_5)
      refine lv_iconst (v := 0) hx hb dX2_gains_85 (by decide) ?_
      have hK9 := hK.sub (tys' := [(k_fw_forth, .long), (k_fw_back, .long), (k_fw_round, .int)]) [0, 1, 2] rfl
      exact W.zret (v := 0) hx hb hr rfl (fun t ht hW => ⟨⟨0, (), rfl, (Or.inl rfl), by rw [ht]; exact hP.sub [0, 1, 2, 3] rfl, va_K.moved hW.alike hK9, hD.sub [0, 1, 2, 3] (by decide) rfl⟩, hS.F ht⟩) hS.2.2 dX2_gains_86
    · skip
      have g_7 : ¬ 0 ≤ sm := fun q9 => c_5 (by rw [ev_4]; exact (lg_cmp_ge sm 0).mpr q9)
      refine lv_iconst (v := 1) hx hb dX2_gains_81 (by decide) ?_
      refine lv_goto (tgt := 86) hx hb dX2_gains_82 (by decide) ?_
      have hK9 := hK.sub (tys' := [(k_fw_forth, .long), (k_fw_back, .long), (k_fw_round, .int)]) [0, 1, 2] rfl
      exact W.zret (v := 1) hx hb hr rfl (fun t ht hW => ⟨⟨1, (), rfl, (Or.inr rfl), by rw [ht]; exact hP.sub [0, 1, 2, 3] rfl, va_K.moved hW.alike hK9, hD.sub [0, 1, 2, 3] (by decide) rfl⟩, hS.F ht⟩) hS.2.2 dX2_gains_86
  · skip
    have g_8 := n_nge (a := i) (b := len) c_2 (by omega) (by omega)
    refine lv_aload_n hx hb dX2_gains_11 rfl (lv_at hl 0 rfl) ?_
    refine va_get (D := (dC, dI)) (ci := 2) (v := .ref fw_round) (C := RX2) (T := TX2) (N := 12) hx hb hts (fun w h => wM_c (iX2 w h)) hown hK hP 0 rfl rfl 11 (by decide) (hts _ (wM_c wd_457)) (fun _ h9 => h9) rfl dX2_gains_12 ?_
    refine lv_iload hx hb dX2_gains_15 (lv_at hl 3 rfl) ?_
    refine va_iald hx hb hK hP 3 2 rfl rfl (vp_in_nI (n := i) (by omega) (by omega)) dX2_gains_17 ?_
    refine lv_topi (fun v_9 ev_9 => ?_)
    have nv_9 : v_9 = f_fw_round i := by rw [ev_9]; exact congrArg _ (nI_clamp (by omega))
    have g_10 : (-1) ≤ v_9.toInt ∧ v_9.toInt < 28 := by rw [ev_9]; exact rg_in r_round (by omega) (by omega)
    refine lv_iconst (v := 2) hx hb dX2_gains_18 (by decide) ?_
    refine lv_idiv hx hb dX2_gains_19 (by decide) ?_
    refine lv_topi (fun v_11 ev_11 => ?_)
    refine lv_istore (lv' := [(5, .int v_11), (0, .ref fw), (1, .int (nI len)), (2, .long sm), (4, .int (nI i))]) hx hb dX2_gains_20 hl (by decide) rfl (fun ls hl => ?_)
    refine lv_aload_n hx hb dX2_gains_22 rfl (lv_at hl 1 rfl) ?_
    refine va_get (D := (dC, dI)) (ci := 2) (v := .ref fw_round) (C := RX2) (T := TX2) (N := 12) hx hb hts (fun w h => wM_c (iX2 w h)) hown hK hP 0 rfl rfl 11 (by decide) (hts _ (wM_c wd_457)) (fun _ h9 => h9) rfl dX2_gains_23 ?_
    refine lv_iload hx hb dX2_gains_26 (lv_at hl 4 rfl) ?_
    refine va_iald hx hb hK hP 3 2 rfl rfl (vp_in_nI (n := i) (by omega) (by omega)) dX2_gains_28 ?_
    refine lv_topi (fun v_12 ev_12 => ?_)
    have nv_12 : v_12 = f_fw_round i := by rw [ev_12]; exact congrArg _ (nI_clamp (by omega))
    have g_13 : (-1) ≤ v_12.toInt ∧ v_12.toInt < 28 := by rw [ev_12]; exact rg_in r_round (by omega) (by omega)
    refine lv_iconst (v := 2) hx hb dX2_gains_29 (by decide) ?_
    refine lv_irem hx hb dX2_gains_30 (by decide) ?_
    refine lv_topi (fun v_14 ev_14 => ?_)
    refine lv_if_ne (tgt := 44) hx hb dX2_gains_31 (by decide) (fun c_15 => ?_) (fun c_15 => ?_)
    · skip
      have g_16 : v_14.toInt ≠ (0 : Int) := i_ne c_15
      refine lv_aload_n hx hb dX2_gains_44 rfl (lv_at hl 1 rfl) ?_
      refine va_get (D := (dC, dI)) (ci := 2) (v := .ref fw_back) (C := RX2) (T := TX2) (N := 12) hx hb hts (fun w h => wM_c (iX2 w h)) hown hK hP 0 rfl rfl 7 (by decide) (hts _ (wM_c wd_453)) (fun _ h9 => h9) rfl dX2_gains_45 ?_
      refine lv_iload hx hb dX2_gains_48 (lv_at hl 0 rfl) ?_
      refine va_lald hx hb hK hP 2 1 rfl rfl (by rw [ev_11]; exact half_in (by omega)) dX2_gains_50 ?_
      refine lv_topl (fun v_17 ev_17 => ?_)
      refine lv_lstore (lv' := [(6, .long v_17), (5, .int v_11), (0, .ref fw), (1, .int (nI len)), (2, .long sm), (4, .int (nI i))]) hx hb dX2_gains_51 hl (by decide) rfl (fun ls hl => ?_)
      refine lv_lload hx hb dX2_gains_53 (lv_at hl 0 rfl) ?_
      refine lv_ldc2 hx hb hown (hts _ (wM_c wd_1024)) dX2_gains_55 ?_
      refine W.lcmp hx hb dX2_gains_58 ?_
      refine lv_topi (fun v_18 ev_18 => ?_)
      refine lv_if_ne (tgt := 64) hx hb dX2_gains_59 (by decide) (fun c_19 => ?_) (fun c_19 => ?_)
      · skip
        have g_20 : ¬ v_17 = 4611686018427387904 := fun q9 => c_19 (by rw [ev_18]; exact (lg_cmp_eq v_17 4611686018427387904).mpr q9)
        refine lv_lload_n hx hb dX2_gains_64 rfl (lv_at hl 4 rfl) ?_
        refine lv_lload hx hb dX2_gains_65 (lv_at hl 0 rfl) ?_
        refine lv_ladd hx hb dX2_gains_67 ?_
        refine lv_topl (fun v_21 ev_21 => ?_)
        refine lv_lstore_n (lv' := [(2, .long v_21), (6, .long v_17), (5, .int v_11), (0, .ref fw), (1, .int (nI len)), (4, .int (nI i))]) hx hb dX2_gains_68 rfl hl (by decide) rfl (fun ls hl => ?_)
        refine lv_iinc (v := (nI (i + 1))) (lv' := [(4, .int (nI (i + 1))), (2, .long v_21), (6, .long v_17), (5, .int v_11), (0, .ref fw), (1, .int (nI len))]) hx hb dX2_gains_69 hl (k := 5) rfl (nI_add _ 1) (by decide) rfl (fun ls hl => ?_)
        refine lv_goto (tgt := 5) hx hb dX2_gains_72 (by decide) ?_
        exact ih_1 v_21 (i + 1) _ _ _ ⟨(by first | with_reducible assumption | omega | exact vp_in_iff.mpr (by omega) | exact vp_in_nI (by omega) (by omega) | exact ⟨by omega, by omega⟩), hP.sub [0, 1, 2, 3] rfl, hD.sub [0, 1, 2, 3] (by decide) rfl, hS, lv_sub hl [4, 5, 1, 0] rfl⟩ (by omega)
      · skip
        have g_22 : v_17 = 4611686018427387904 := (lg_cmp_eq v_17 4611686018427387904).mp (by rw [← ev_18]; exact c_19)
        refine lv_iconst (v := 0) hx hb dX2_gains_62 (by decide) ?_
        have hK9 := hK.sub (tys' := [(k_fw_forth, .long), (k_fw_back, .long), (k_fw_round, .int)]) [0, 1, 2] rfl
        exact W.zret (v := 0) hx hb hr rfl (fun t ht hW => ⟨⟨0, (), rfl, (Or.inl rfl), by rw [ht]; exact hP.sub [0, 1, 2, 3] rfl, va_K.moved hW.alike hK9, hD.sub [0, 1, 2, 3] (by decide) rfl⟩, hS.F ht⟩) hS.2.2 dX2_gains_63
    · skip
      have g_23 : v_14.toInt = (0 : Int) := i_eq c_15
      refine lv_aload_n hx hb dX2_gains_34 rfl (lv_at hl 1 rfl) ?_
      refine va_get (D := (dC, dI)) (ci := 2) (v := .ref fw_forth) (C := RX2) (T := TX2) (N := 12) hx hb hts (fun w h => wM_c (iX2 w h)) hown hK hP 0 rfl rfl 6 (by decide) (hts _ (wM_c wd_452)) (fun _ h9 => h9) rfl dX2_gains_35 ?_
      refine lv_iload hx hb dX2_gains_38 (lv_at hl 0 rfl) ?_
      refine va_lald hx hb hK hP 1 0 rfl rfl (by rw [ev_11]; exact half_in (by omega)) dX2_gains_40 ?_
      refine lv_topl (fun v_24 ev_24 => ?_)
      refine lv_goto (tgt := 51) hx hb dX2_gains_41 (by decide) ?_
      refine lv_lstore (lv' := [(6, .long v_24), (5, .int v_11), (0, .ref fw), (1, .int (nI len)), (2, .long sm), (4, .int (nI i))]) hx hb dX2_gains_51 hl (by decide) rfl (fun ls hl => ?_)
      refine lv_lload hx hb dX2_gains_53 (lv_at hl 0 rfl) ?_
      refine lv_ldc2 hx hb hown (hts _ (wM_c wd_1024)) dX2_gains_55 ?_
      refine W.lcmp hx hb dX2_gains_58 ?_
      refine lv_topi (fun v_25 ev_25 => ?_)
      refine lv_if_ne (tgt := 64) hx hb dX2_gains_59 (by decide) (fun c_26 => ?_) (fun c_26 => ?_)
      · skip
        have g_27 : ¬ v_24 = 4611686018427387904 := fun q9 => c_26 (by rw [ev_25]; exact (lg_cmp_eq v_24 4611686018427387904).mpr q9)
        refine lv_lload_n hx hb dX2_gains_64 rfl (lv_at hl 4 rfl) ?_
        refine lv_lload hx hb dX2_gains_65 (lv_at hl 0 rfl) ?_
        refine lv_ladd hx hb dX2_gains_67 ?_
        refine lv_topl (fun v_28 ev_28 => ?_)
        refine lv_lstore_n (lv' := [(2, .long v_28), (6, .long v_24), (5, .int v_11), (0, .ref fw), (1, .int (nI len)), (4, .int (nI i))]) hx hb dX2_gains_68 rfl hl (by decide) rfl (fun ls hl => ?_)
        refine lv_iinc (v := (nI (i + 1))) (lv' := [(4, .int (nI (i + 1))), (2, .long v_28), (6, .long v_24), (5, .int v_11), (0, .ref fw), (1, .int (nI len))]) hx hb dX2_gains_69 hl (k := 5) rfl (nI_add _ 1) (by decide) rfl (fun ls hl => ?_)
        refine lv_goto (tgt := 5) hx hb dX2_gains_72 (by decide) ?_
        exact ih_1 v_28 (i + 1) _ _ _ ⟨(by first | with_reducible assumption | omega | exact vp_in_iff.mpr (by omega) | exact vp_in_nI (by omega) (by omega) | exact ⟨by omega, by omega⟩), hP.sub [0, 1, 2, 3] rfl, hD.sub [0, 1, 2, 3] (by decide) rfl, hS, lv_sub hl [4, 5, 1, 0] rfl⟩ (by omega)
      · skip
        have g_29 : v_24 = 4611686018427387904 := (lg_cmp_eq v_24 4611686018427387904).mp (by rw [← ev_25]; exact c_26)
        refine lv_iconst (v := 0) hx hb dX2_gains_62 (by decide) ?_
        have hK9 := hK.sub (tys' := [(k_fw_forth, .long), (k_fw_back, .long), (k_fw_round, .int)]) [0, 1, 2] rfl
        exact W.zret (v := 0) hx hb hr rfl (fun t ht hW => ⟨⟨0, (), rfl, (Or.inl rfl), by rw [ht]; exact hP.sub [0, 1, 2, 3] rfl, va_K.moved hW.alike hK9, hD.sub [0, 1, 2, 3] (by decide) rfl⟩, hS.F ht⟩) hS.2.2 dX2_gains_63
set_option maxHeartbeats 4000000 in
set_option maxRecDepth 100000 in
theorem c2_followRound (l : Launch) (dC : Nat → ClassId) (dI : Nat → Nat → Nat) (n0 : Nat) (atx : Nat → Nat × Nat) (sz : Nat) (fw : Nat) (fw_air : Nat) (bk : Nat) (st : Nat) (fw_hindrance : Nat) (fw_pull : Nat) (fw_droop : Nat) (fw_forth : Nat) (fw_back : Nat) (fw_label : Nat) (fw_cause : Nat) (fw_seen : Nat) (fw_round : Nat) (st_open : Nat) (st_speed : Nat) (st_fallen : Nat) (st_fire : Nat) (st_mark : Int32) (st_moreIn : Int32) (st_more : Int32) (bw : Nat) (bk_tail : Nat) (bk_head : Nat) (bk_hinder : Nat) (bk_size : Nat) (bk_walk : Nat) (bk_draught : Nat) (bk_doorIn : Nat) (bk_fanIn : Nat) (bk_faceIn : Nat) (bn : Nat) (bk_day : Int32) (gr : Nat) (k_fw_hindrance : ClassId) (f_fw_hindrance : Nat → Int64) (k_fw_pull : ClassId) (f_fw_pull : Nat → Int64) (k_fw_droop : ClassId) (f_fw_droop : Nat → Int64) (k_st_fallen : ClassId) (f_st_fallen : Nat → Int32) (k_fw_air : ClassId) (f_fw_air : Nat → Int32) (k_fw_forth : ClassId) (f_fw_forth : Nat → Int64) (k_fw_back : ClassId) (f_fw_back : Nat → Int64) (k_fw_round : ClassId) (f_fw_round : Nat → Int32) (k_bk_tail : ClassId) (f_bk_tail : Nat → Int32) (k_bk_head : ClassId) (f_bk_head : Nat → Int32) (k_fw_cause : ClassId) (f_fw_cause : Nat → Int32) (kn0 : Int32) (sp0 : Int32) (hbw : bw ≤ 14) (hbn : bn ≤ 10) (q_day : -1 ≤ bk_day.toInt ∧ bk_day.toInt < 10) (q_tail : rg f_bk_tail 14 0 10) (q_head : rg f_bk_head 14 0 10) (r_cause : rg f_fw_cause 10 (-1) 28) (r_round : rg f_fw_round 10 (-1) 28) (hkn0 : 0 ≤ kn0.toInt ∧ kn0.toInt < 10) : Met l yX2_followRound (wM yX2_followRound cX2_followRound 8 none) ({ frames := 2, cells := 0, slots := 0, locals := 55 }) (va_Pc [.ref fw, .int kn0, .int sp0] (fun U => U.heap.size = sz ∧ n0 ≤ sz ∧ GW n0 atx U ∧ va_P (dC, dI) classes [(fw, .inr (2, [.ref fw_air, .ref bk, .ref st, .ref fw_hindrance, .ref fw_pull, .ref fw_droop, .ref fw_forth, .ref fw_back, .ref fw_label, .ref fw_cause, .ref fw_seen, .ref fw_round])), (st, .inr (9, [.ref st_open, .ref st_speed, .ref st_fallen, .ref st_fire, .int st_mark, .int st_moreIn, .int st_more, .ref bk])), (bk, .inr (0, [.int (nI bw), .ref bk_tail, .ref bk_head, .ref bk_hinder, .ref bk_size, .ref bk_walk, .ref bk_draught, .ref bk_doorIn, .ref bk_fanIn, .ref bk_faceIn, .int (nI bn), .int bk_day, .ref gr])), (fw_hindrance, .inl (k_fw_hindrance, 14, .inr (.inl f_fw_hindrance))), (fw_pull, .inl (k_fw_pull, 14, .inr (.inl f_fw_pull))), (fw_droop, .inl (k_fw_droop, 14, .inr (.inl f_fw_droop))), (st_fallen, .inl (k_st_fallen, 14, .inl f_st_fallen)), (fw_air, .inl (k_fw_air, 14, .inl f_fw_air)), (fw_forth, .inl (k_fw_forth, 14, .inr (.inl f_fw_forth))), (fw_back, .inl (k_fw_back, 14, .inr (.inl f_fw_back))), (fw_round, .inl (k_fw_round, 10, .inl f_fw_round)), (bk_tail, .inl (k_bk_tail, 14, .inl f_bk_tail)), (bk_head, .inl (k_bk_head, 14, .inl f_bk_head)), (fw_cause, .inl (k_fw_cause, 10, .inl f_fw_cause))] U.heap ∧ va_K (dC, dI) classes [(k_fw_hindrance, .long), (k_fw_pull, .long), (k_fw_droop, .long), (k_st_fallen, .boolean), (k_fw_air, .int), (k_fw_forth, .long), (k_fw_back, .long), (k_fw_round, .int), (k_bk_tail, .int), (k_bk_head, .int), (k_fw_cause, .int)] U ∧ va_D (fun q => n0 ≤ q) [(fw, .inr (2, [.ref fw_air, .ref bk, .ref st, .ref fw_hindrance, .ref fw_pull, .ref fw_droop, .ref fw_forth, .ref fw_back, .ref fw_label, .ref fw_cause, .ref fw_seen, .ref fw_round])), (st, .inr (9, [.ref st_open, .ref st_speed, .ref st_fallen, .ref st_fire, .int st_mark, .int st_moreIn, .int st_more, .ref bk])), (bk, .inr (0, [.int (nI bw), .ref bk_tail, .ref bk_head, .ref bk_hinder, .ref bk_size, .ref bk_walk, .ref bk_draught, .ref bk_doorIn, .ref bk_fanIn, .ref bk_faceIn, .int (nI bn), .int bk_day, .ref gr])), (fw_hindrance, .inl (k_fw_hindrance, 14, .inr (.inl f_fw_hindrance))), (fw_pull, .inl (k_fw_pull, 14, .inr (.inl f_fw_pull))), (fw_droop, .inl (k_fw_droop, 14, .inr (.inl f_fw_droop))), (st_fallen, .inl (k_st_fallen, 14, .inl f_st_fallen)), (fw_air, .inl (k_fw_air, 14, .inl f_fw_air)), (fw_forth, .inl (k_fw_forth, 14, .inr (.inl f_fw_forth))), (fw_back, .inl (k_fw_back, 14, .inr (.inl f_fw_back))), (fw_round, .inl (k_fw_round, 10, .inl f_fw_round)), (bk_tail, .inl (k_bk_tail, 14, .inl f_bk_tail)), (bk_head, .inl (k_bk_head, 14, .inl f_bk_head)), (fw_cause, .inl (k_fw_cause, 10, .inl f_fw_cause))])) (va_Qv (fun _ : Unit => True) (fun (_ : Unit) (t : State) => ∃ (fo9 : Nat → Int64), ∃ (ba9 : Nat → Int64), ∃ (ai9 : Nat → Int32), ∃ (ro9 : Nat → Int32), (rg ro9 10 (-1) 28) ∧ va_P (dC, dI) classes [(fw, .inr (2, [.ref fw_air, .ref bk, .ref st, .ref fw_hindrance, .ref fw_pull, .ref fw_droop, .ref fw_forth, .ref fw_back, .ref fw_label, .ref fw_cause, .ref fw_seen, .ref fw_round])), (st, .inr (9, [.ref st_open, .ref st_speed, .ref st_fallen, .ref st_fire, .int st_mark, .int st_moreIn, .int st_more, .ref bk])), (bk, .inr (0, [.int (nI bw), .ref bk_tail, .ref bk_head, .ref bk_hinder, .ref bk_size, .ref bk_walk, .ref bk_draught, .ref bk_doorIn, .ref bk_fanIn, .ref bk_faceIn, .int (nI bn), .int bk_day, .ref gr])), (fw_hindrance, .inl (k_fw_hindrance, 14, .inr (.inl f_fw_hindrance))), (fw_pull, .inl (k_fw_pull, 14, .inr (.inl f_fw_pull))), (fw_droop, .inl (k_fw_droop, 14, .inr (.inl f_fw_droop))), (st_fallen, .inl (k_st_fallen, 14, .inl f_st_fallen)), (fw_air, .inl (k_fw_air, 14, .inl ai9)), (fw_forth, .inl (k_fw_forth, 14, .inr (.inl fo9))), (fw_back, .inl (k_fw_back, 14, .inr (.inl ba9))), (fw_round, .inl (k_fw_round, 10, .inl ro9)), (bk_tail, .inl (k_bk_tail, 14, .inl f_bk_tail)), (bk_head, .inl (k_bk_head, 14, .inl f_bk_head)), (fw_cause, .inl (k_fw_cause, 10, .inl f_fw_cause))] t.heap ∧ va_K (dC, dI) classes [(k_fw_hindrance, .long), (k_fw_pull, .long), (k_fw_droop, .long), (k_st_fallen, .boolean), (k_fw_air, .int), (k_fw_forth, .long), (k_fw_back, .long), (k_fw_round, .int), (k_bk_tail, .int), (k_bk_head, .int), (k_fw_cause, .int)] t ∧ va_D (va_A [(fw, .inr (2, [.ref fw_air, .ref bk, .ref st, .ref fw_hindrance, .ref fw_pull, .ref fw_droop, .ref fw_forth, .ref fw_back, .ref fw_label, .ref fw_cause, .ref fw_seen, .ref fw_round])), (st, .inr (9, [.ref st_open, .ref st_speed, .ref st_fallen, .ref st_fire, .int st_mark, .int st_moreIn, .int st_more, .ref bk])), (bk, .inr (0, [.int (nI bw), .ref bk_tail, .ref bk_head, .ref bk_hinder, .ref bk_size, .ref bk_walk, .ref bk_draught, .ref bk_doorIn, .ref bk_fanIn, .ref bk_faceIn, .int (nI bn), .int bk_day, .ref gr])), (fw_hindrance, .inl (k_fw_hindrance, 14, .inr (.inl f_fw_hindrance))), (fw_pull, .inl (k_fw_pull, 14, .inr (.inl f_fw_pull))), (fw_droop, .inl (k_fw_droop, 14, .inr (.inl f_fw_droop))), (st_fallen, .inl (k_st_fallen, 14, .inl f_st_fallen)), (fw_air, .inl (k_fw_air, 14, .inl f_fw_air)), (fw_forth, .inl (k_fw_forth, 14, .inr (.inl f_fw_forth))), (fw_back, .inl (k_fw_back, 14, .inr (.inl f_fw_back))), (fw_round, .inl (k_fw_round, 10, .inl f_fw_round)), (bk_tail, .inl (k_bk_tail, 14, .inl f_bk_tail)), (bk_head, .inl (k_bk_head, 14, .inl f_bk_head)), (fw_cause, .inl (k_fw_cause, 10, .inl f_fw_cause))] sz) [(fw, .inr (2, [.ref fw_air, .ref bk, .ref st, .ref fw_hindrance, .ref fw_pull, .ref fw_droop, .ref fw_forth, .ref fw_back, .ref fw_label, .ref fw_cause, .ref fw_seen, .ref fw_round])), (st, .inr (9, [.ref st_open, .ref st_speed, .ref st_fallen, .ref st_fire, .int st_mark, .int st_moreIn, .int st_more, .ref bk])), (bk, .inr (0, [.int (nI bw), .ref bk_tail, .ref bk_head, .ref bk_hinder, .ref bk_size, .ref bk_walk, .ref bk_draught, .ref bk_doorIn, .ref bk_fanIn, .ref bk_faceIn, .int (nI bn), .int bk_day, .ref gr])), (fw_hindrance, .inl (k_fw_hindrance, 14, .inr (.inl f_fw_hindrance))), (fw_pull, .inl (k_fw_pull, 14, .inr (.inl f_fw_pull))), (fw_droop, .inl (k_fw_droop, 14, .inr (.inl f_fw_droop))), (st_fallen, .inl (k_st_fallen, 14, .inl f_st_fallen)), (fw_air, .inl (k_fw_air, 14, .inl ai9)), (fw_forth, .inl (k_fw_forth, 14, .inr (.inl fo9))), (fw_back, .inl (k_fw_back, 14, .inr (.inl ba9))), (fw_round, .inl (k_fw_round, 10, .inl ro9)), (bk_tail, .inl (k_bk_tail, 14, .inl f_bk_tail)), (bk_head, .inl (k_bk_head, 14, .inl f_bk_head)), (fw_cause, .inl (k_fw_cause, 10, .inl f_fw_cause))]) (va_A [(fw, .inr (2, [.ref fw_air, .ref bk, .ref st, .ref fw_hindrance, .ref fw_pull, .ref fw_droop, .ref fw_forth, .ref fw_back, .ref fw_label, .ref fw_cause, .ref fw_seen, .ref fw_round])), (st, .inr (9, [.ref st_open, .ref st_speed, .ref st_fallen, .ref st_fire, .int st_mark, .int st_moreIn, .int st_more, .ref bk])), (bk, .inr (0, [.int (nI bw), .ref bk_tail, .ref bk_head, .ref bk_hinder, .ref bk_size, .ref bk_walk, .ref bk_draught, .ref bk_doorIn, .ref bk_fanIn, .ref bk_faceIn, .int (nI bn), .int bk_day, .ref gr])), (fw_hindrance, .inl (k_fw_hindrance, 14, .inr (.inl f_fw_hindrance))), (fw_pull, .inl (k_fw_pull, 14, .inr (.inl f_fw_pull))), (fw_droop, .inl (k_fw_droop, 14, .inr (.inl f_fw_droop))), (st_fallen, .inl (k_st_fallen, 14, .inl f_st_fallen)), (fw_air, .inl (k_fw_air, 14, .inl f_fw_air)), (fw_forth, .inl (k_fw_forth, 14, .inr (.inl f_fw_forth))), (fw_back, .inl (k_fw_back, 14, .inr (.inl f_fw_back))), (fw_round, .inl (k_fw_round, 10, .inl f_fw_round)), (bk_tail, .inl (k_bk_tail, 14, .inl f_bk_tail)), (bk_head, .inl (k_bk_head, 14, .inl f_bk_head)), (fw_cause, .inl (k_fw_cause, 10, .inl f_fw_cause))] sz)) 0 0 (va_A [(fw, .inr (2, [.ref fw_air, .ref bk, .ref st, .ref fw_hindrance, .ref fw_pull, .ref fw_droop, .ref fw_forth, .ref fw_back, .ref fw_label, .ref fw_cause, .ref fw_seen, .ref fw_round])), (st, .inr (9, [.ref st_open, .ref st_speed, .ref st_fallen, .ref st_fire, .int st_mark, .int st_moreIn, .int st_more, .ref bk])), (bk, .inr (0, [.int (nI bw), .ref bk_tail, .ref bk_head, .ref bk_hinder, .ref bk_size, .ref bk_walk, .ref bk_draught, .ref bk_doorIn, .ref bk_fanIn, .ref bk_faceIn, .int (nI bn), .int bk_day, .ref gr])), (fw_hindrance, .inl (k_fw_hindrance, 14, .inr (.inl f_fw_hindrance))), (fw_pull, .inl (k_fw_pull, 14, .inr (.inl f_fw_pull))), (fw_droop, .inl (k_fw_droop, 14, .inr (.inl f_fw_droop))), (st_fallen, .inl (k_st_fallen, 14, .inl f_st_fallen)), (fw_air, .inl (k_fw_air, 14, .inl f_fw_air)), (fw_forth, .inl (k_fw_forth, 14, .inr (.inl f_fw_forth))), (fw_back, .inl (k_fw_back, 14, .inr (.inl f_fw_back))), (fw_round, .inl (k_fw_round, 10, .inl f_fw_round)), (bk_tail, .inl (k_bk_tail, 14, .inl f_bk_tail)), (bk_head, .inl (k_bk_head, 14, .inl f_bk_head)), (fw_cause, .inl (k_fw_cause, 10, .inl f_fw_cause))] sz) := by
  refine Met.ofW (cc := cX2_followRound) (maxL := 8) (ret := none) (by decide) rfl ?_
  intro p e s m args below meth c s₁ B hml hv
  obtain ⟨rfl, hsz, hn0, hG, hP, hK, hD0⟩ := hv
  have hx := B.exec
  have hb := B.bytes
  have hr := B.returns
  have hts := atoms_spec (ws := wM yX2_followRound cX2_followRound 8 none) B.pre
  have hown : s.vm.findClass RX2 = some m.cls := findClass_of_methodNamed B.named
  have hlocks := B.notSynchronized
  subst hsz
  have hD := hD0.self (sz := s.heap.size)
  have hA0 := vA_n0 hD0 hn0
  generalize hAe : va_A [(fw, .inr (2, [.ref fw_air, .ref bk, .ref st, .ref fw_hindrance, .ref fw_pull, .ref fw_droop, .ref fw_forth, .ref fw_back, .ref fw_label, .ref fw_cause, .ref fw_seen, .ref fw_round])), (st, .inr (9, [.ref st_open, .ref st_speed, .ref st_fallen, .ref st_fire, .int st_mark, .int st_moreIn, .int st_more, .ref bk])), (bk, .inr (0, [.int (nI bw), .ref bk_tail, .ref bk_head, .ref bk_hinder, .ref bk_size, .ref bk_walk, .ref bk_draught, .ref bk_doorIn, .ref bk_fanIn, .ref bk_faceIn, .int (nI bn), .int bk_day, .ref gr])), (fw_hindrance, .inl (k_fw_hindrance, 14, .inr (.inl f_fw_hindrance))), (fw_pull, .inl (k_fw_pull, 14, .inr (.inl f_fw_pull))), (fw_droop, .inl (k_fw_droop, 14, .inr (.inl f_fw_droop))), (st_fallen, .inl (k_st_fallen, 14, .inl f_st_fallen)), (fw_air, .inl (k_fw_air, 14, .inl f_fw_air)), (fw_forth, .inl (k_fw_forth, 14, .inr (.inl f_fw_forth))), (fw_back, .inl (k_fw_back, 14, .inr (.inl f_fw_back))), (fw_round, .inl (k_fw_round, 10, .inl f_fw_round)), (bk_tail, .inl (k_bk_tail, 14, .inl f_bk_tail)), (bk_head, .inl (k_bk_head, 14, .inl f_bk_head)), (fw_cause, .inl (k_fw_cause, 10, .inl f_fw_cause))] s.heap.size = A at hD hA0 ⊢
  have hA : ∀ q : Nat, s.heap.size ≤ q → A q := fun q h => by rw [← hAe]; exact Or.inr h
  have hS : va_S A s.heap s.heap [] := va_S.rf
  have hl := lv_entry ([.ref fw, .int kn0, .int sp0]) (n := 8) (Nat.le_of_ble_eq_true rfl)
  rw [lg_entry_eq]
  generalize (lg_sl ([.ref fw, .int kn0, .int sp0]) ++ List.replicate (8 - (lg_sl ([.ref fw, .int kn0, .int sp0])).length) Slot.unset).toArray = ls at hl ⊢
  have hl : lv_has ls 8 [(0, .ref fw), (1, .int kn0), (2, .int sp0)] := hl
  refine lv_iconst (v := 0) hx hb dX2_followRound_0 (by decide) ?_
  refine lv_istore_n (lv' := [(3, .int 0), (0, .ref fw), (1, .int kn0), (2, .int sp0)]) hx hb dX2_followRound_1 rfl hl (by decide) rfl (fun ls hl => ?_)
  refine lv_iload_n hx hb dX2_followRound_2 rfl (lv_at hl 2 rfl) ?_
  refine lv_istore (lv' := [(4, .int kn0), (3, .int 0), (0, .ref fw), (1, .int kn0), (2, .int sp0)]) hx hb dX2_followRound_3 hl (by decide) rfl (fun ls hl => ?_)
  refine lv_iconst (v := 0) hx hb dX2_followRound_5 (by decide) ?_
  refine lv_istore (lv' := [(5, .int 0), (4, .int kn0), (3, .int 0), (0, .ref fw), (1, .int kn0), (2, .int sp0)]) hx hb dX2_followRound_6 hl (by decide) rfl (fun ls hl => ?_)
  refine W_lp4 (I := fun (ln : Nat) (at1 : Int32) (i1 : Nat) (ro1 : Nat → Int32) H locs ls => (i1 ≤ bn) ∧ (ln ≤ 10) ∧ (0 ≤ at1.toInt ∧ at1.toInt < 10) ∧ (rg ro1 10 (-1) 28) ∧ va_P (dC, dI) classes [(fw, .inr (2, [.ref fw_air, .ref bk, .ref st, .ref fw_hindrance, .ref fw_pull, .ref fw_droop, .ref fw_forth, .ref fw_back, .ref fw_label, .ref fw_cause, .ref fw_seen, .ref fw_round])), (st, .inr (9, [.ref st_open, .ref st_speed, .ref st_fallen, .ref st_fire, .int st_mark, .int st_moreIn, .int st_more, .ref bk])), (bk, .inr (0, [.int (nI bw), .ref bk_tail, .ref bk_head, .ref bk_hinder, .ref bk_size, .ref bk_walk, .ref bk_draught, .ref bk_doorIn, .ref bk_fanIn, .ref bk_faceIn, .int (nI bn), .int bk_day, .ref gr])), (fw_hindrance, .inl (k_fw_hindrance, 14, .inr (.inl f_fw_hindrance))), (fw_pull, .inl (k_fw_pull, 14, .inr (.inl f_fw_pull))), (fw_droop, .inl (k_fw_droop, 14, .inr (.inl f_fw_droop))), (st_fallen, .inl (k_st_fallen, 14, .inl f_st_fallen)), (fw_air, .inl (k_fw_air, 14, .inl f_fw_air)), (fw_forth, .inl (k_fw_forth, 14, .inr (.inl f_fw_forth))), (fw_back, .inl (k_fw_back, 14, .inr (.inl f_fw_back))), (fw_round, .inl (k_fw_round, 10, .inl ro1)), (bk_tail, .inl (k_bk_tail, 14, .inl f_bk_tail)), (bk_head, .inl (k_bk_head, 14, .inl f_bk_head)), (fw_cause, .inl (k_fw_cause, 10, .inl f_fw_cause))] H ∧ va_D A [(fw, .inr (2, [.ref fw_air, .ref bk, .ref st, .ref fw_hindrance, .ref fw_pull, .ref fw_droop, .ref fw_forth, .ref fw_back, .ref fw_label, .ref fw_cause, .ref fw_seen, .ref fw_round])), (st, .inr (9, [.ref st_open, .ref st_speed, .ref st_fallen, .ref st_fire, .int st_mark, .int st_moreIn, .int st_more, .ref bk])), (bk, .inr (0, [.int (nI bw), .ref bk_tail, .ref bk_head, .ref bk_hinder, .ref bk_size, .ref bk_walk, .ref bk_draught, .ref bk_doorIn, .ref bk_fanIn, .ref bk_faceIn, .int (nI bn), .int bk_day, .ref gr])), (fw_hindrance, .inl (k_fw_hindrance, 14, .inr (.inl f_fw_hindrance))), (fw_pull, .inl (k_fw_pull, 14, .inr (.inl f_fw_pull))), (fw_droop, .inl (k_fw_droop, 14, .inr (.inl f_fw_droop))), (st_fallen, .inl (k_st_fallen, 14, .inl f_st_fallen)), (fw_air, .inl (k_fw_air, 14, .inl f_fw_air)), (fw_forth, .inl (k_fw_forth, 14, .inr (.inl f_fw_forth))), (fw_back, .inl (k_fw_back, 14, .inr (.inl f_fw_back))), (fw_round, .inl (k_fw_round, 10, .inl ro1)), (bk_tail, .inl (k_bk_tail, 14, .inl f_bk_tail)), (bk_head, .inl (k_bk_head, 14, .inl f_bk_head)), (fw_cause, .inl (k_fw_cause, 10, .inl f_fw_cause))] ∧ va_S A s.heap H locs ∧ lv_has ls 8 [(0, .ref fw), (1, .int kn0), (2, .int sp0), (3, .int (nI ln)), (4, .int at1), (5, .int (nI i1))]) (μ := fun (ln : Nat) (at1 : Int32) (i1 : Nat) (ro1 : Nat → Int32) => bn - i1) ?_ 0 kn0 0 f_fw_round _ _ _ ⟨(by first | with_reducible assumption | omega | exact vp_in_iff.mpr (by omega) | exact vp_in_nI (by omega) (by omega) | exact ⟨by omega, by omega⟩), (by first | with_reducible assumption | omega | exact vp_in_iff.mpr (by omega) | exact vp_in_nI (by omega) (by omega) | exact ⟨by omega, by omega⟩), (by first | with_reducible assumption | omega | exact vp_in_iff.mpr (by omega) | exact vp_in_nI (by omega) (by omega) | exact ⟨by omega, by omega⟩), (by first | with_reducible assumption | omega | exact vp_in_iff.mpr (by omega) | exact vp_in_nI (by omega) (by omega) | exact ⟨by omega, by omega⟩), hP, hD, hS, lv_sub hl [3, 4, 5, 2, 1, 0] rfl⟩
  intro ln at1 i1 ro1 H locs ls hI ih_1
  obtain ⟨hi1, hln, hat, hro1, hP, hD, hS, hl⟩ := hI
  refine lv_iload hx hb dX2_followRound_8 (lv_at hl 5 rfl) ?_
  refine lv_aload_n hx hb dX2_followRound_10 rfl (lv_at hl 0 rfl) ?_
  refine va_get (D := (dC, dI)) (ci := 2) (v := .ref bk) (C := RX2) (T := TX2) (N := 12) hx hb hts (fun w h => wM_c (iX2 w h)) hown hK hP 0 rfl rfl 1 (by decide) (hts _ (wM_c wd_447)) (fun _ h9 => h9) rfl dX2_followRound_11 ?_
  refine va_get (D := (dC, dI)) (ci := 0) (v := .int (nI bn)) (C := RX0) (T := TX0) (N := 13) hx hb hts (fun w h => wM_c (iX0 w h)) hown hK hP 2 rfl rfl 10 (by decide) (hts _ (wM_c wd_285)) (fun _ h9 => h9) rfl dX2_followRound_14 ?_
  refine lv_icmp_ge (tgt := 67) hx hb dX2_followRound_17 (by decide) (fun c_2 => ?_) (fun c_2 => ?_)
  · skip
    have g_3 := n_ge (a := i1) (b := bn) c_2 (by omega) (by omega)
    refine lv_iconst (v := 0) hx hb dX2_followRound_67 (by decide) ?_
    refine lv_istore (lv' := [(5, .int 0), (0, .ref fw), (1, .int kn0), (2, .int sp0), (3, .int (nI ln)), (4, .int at1)]) hx hb dX2_followRound_68 hl (by decide) rfl (fun ls hl => ?_)
    refine W_lp5 (I := fun (l2 : Nat) (i2 : Nat) (ai2 : Nat → Int32) (fo2 : Nat → Int64) (ba2 : Nat → Int64) H locs ls => (i2 ≤ 121 ∧ l2 ≤ 10) ∧ va_P (dC, dI) classes [(fw, .inr (2, [.ref fw_air, .ref bk, .ref st, .ref fw_hindrance, .ref fw_pull, .ref fw_droop, .ref fw_forth, .ref fw_back, .ref fw_label, .ref fw_cause, .ref fw_seen, .ref fw_round])), (st, .inr (9, [.ref st_open, .ref st_speed, .ref st_fallen, .ref st_fire, .int st_mark, .int st_moreIn, .int st_more, .ref bk])), (bk, .inr (0, [.int (nI bw), .ref bk_tail, .ref bk_head, .ref bk_hinder, .ref bk_size, .ref bk_walk, .ref bk_draught, .ref bk_doorIn, .ref bk_fanIn, .ref bk_faceIn, .int (nI bn), .int bk_day, .ref gr])), (fw_hindrance, .inl (k_fw_hindrance, 14, .inr (.inl f_fw_hindrance))), (fw_pull, .inl (k_fw_pull, 14, .inr (.inl f_fw_pull))), (fw_droop, .inl (k_fw_droop, 14, .inr (.inl f_fw_droop))), (st_fallen, .inl (k_st_fallen, 14, .inl f_st_fallen)), (fw_air, .inl (k_fw_air, 14, .inl ai2)), (fw_forth, .inl (k_fw_forth, 14, .inr (.inl fo2))), (fw_back, .inl (k_fw_back, 14, .inr (.inl ba2))), (fw_round, .inl (k_fw_round, 10, .inl ro1)), (bk_tail, .inl (k_bk_tail, 14, .inl f_bk_tail)), (bk_head, .inl (k_bk_head, 14, .inl f_bk_head)), (fw_cause, .inl (k_fw_cause, 10, .inl f_fw_cause))] H ∧ va_D A [(fw, .inr (2, [.ref fw_air, .ref bk, .ref st, .ref fw_hindrance, .ref fw_pull, .ref fw_droop, .ref fw_forth, .ref fw_back, .ref fw_label, .ref fw_cause, .ref fw_seen, .ref fw_round])), (st, .inr (9, [.ref st_open, .ref st_speed, .ref st_fallen, .ref st_fire, .int st_mark, .int st_moreIn, .int st_more, .ref bk])), (bk, .inr (0, [.int (nI bw), .ref bk_tail, .ref bk_head, .ref bk_hinder, .ref bk_size, .ref bk_walk, .ref bk_draught, .ref bk_doorIn, .ref bk_fanIn, .ref bk_faceIn, .int (nI bn), .int bk_day, .ref gr])), (fw_hindrance, .inl (k_fw_hindrance, 14, .inr (.inl f_fw_hindrance))), (fw_pull, .inl (k_fw_pull, 14, .inr (.inl f_fw_pull))), (fw_droop, .inl (k_fw_droop, 14, .inr (.inl f_fw_droop))), (st_fallen, .inl (k_st_fallen, 14, .inl f_st_fallen)), (fw_air, .inl (k_fw_air, 14, .inl ai2)), (fw_forth, .inl (k_fw_forth, 14, .inr (.inl fo2))), (fw_back, .inl (k_fw_back, 14, .inr (.inl ba2))), (fw_round, .inl (k_fw_round, 10, .inl ro1)), (bk_tail, .inl (k_bk_tail, 14, .inl f_bk_tail)), (bk_head, .inl (k_bk_head, 14, .inl f_bk_head)), (fw_cause, .inl (k_fw_cause, 10, .inl f_fw_cause))] ∧ va_S A s.heap H locs ∧ lv_has ls 8 [(0, .ref fw), (2, .int sp0), (3, .int (nI l2)), (5, .int (nI i2))]) (μ := fun (l2 : Nat) (i2 : Nat) (ai2 : Nat → Int32) (fo2 : Nat → Int64) (ba2 : Nat → Int64) => 121 - i2) ?_ ln 0 f_fw_air f_fw_forth f_fw_back _ _ _ ⟨(by first | with_reducible assumption | omega | exact vp_in_iff.mpr (by omega) | exact vp_in_nI (by omega) (by omega) | exact ⟨by omega, by omega⟩), hP, hD, hS, lv_sub hl [1, 3, 4, 0] rfl⟩
    intro l2 i2 ai2 fo2 ba2 H locs ls hI ih_4
    obtain ⟨hi2, hP, hD, hS, hl⟩ := hI
    refine lv_iload hx hb dX2_followRound_70 (lv_at hl 3 rfl) ?_
    refine lv_bipush (v := 120) hx hb dX2_followRound_72 (by decide) ?_
    refine lv_icmp_gt (tgt := 153) hx hb dX2_followRound_74 (by decide) (fun c_5 => ?_) (fun c_5 => ?_)
    · skip
      have g_6 := n_lt (a := 120) (b := i2) c_5 (by omega) (by omega)
      have hK9 := hK.sub (tys' := [(k_fw_hindrance, .long), (k_fw_pull, .long), (k_fw_droop, .long), (k_st_fallen, .boolean), (k_fw_air, .int), (k_fw_forth, .long), (k_fw_back, .long), (k_fw_round, .int), (k_bk_tail, .int), (k_bk_head, .int), (k_fw_cause, .int)]) [0, 1, 2, 3, 4, 5, 6, 7, 8, 9, 10] rfl
      exact W.vret hx hb hr (fun t ht hW => ⟨⟨(), rfl, trivial, fo2, ba2, ai2, ro1, (by assumption), by rw [ht]; exact hP.sub [0, 1, 2, 3, 4, 5, 6, 7, 8, 9, 10, 11, 12, 13] rfl, va_K.moved hW.alike hK9, hD.sub [0, 1, 2, 3, 4, 5, 6, 7, 8, 9, 10, 11, 12, 13] (by decide) rfl⟩, hS.F ht⟩) hS.2.2 dX2_followRound_153
    · skip
      have g_7 := n_nlt (a := 120) (b := i2) c_5 (by omega) (by omega)
      refine lv_aload_n hx hb dX2_followRound_77 rfl (lv_at hl 0 rfl) ?_
      refine lv_iload_n hx hb dX2_followRound_78 rfl (lv_at hl 2 rfl) ?_
      obtain ⟨hPc, hDc, hFc⟩ := s3_c (ws' := [(fw, .inr (2, [.ref fw_air, .ref bk, .ref st, .ref fw_hindrance, .ref fw_pull, .ref fw_droop, .ref fw_forth, .ref fw_back, .ref fw_label, .ref fw_cause, .ref fw_seen, .ref fw_round])), (fw_forth, .inl (k_fw_forth, 14, .inr (.inl fo2))), (fw_back, .inl (k_fw_back, 14, .inr (.inl ba2))), (fw_round, .inl (k_fw_round, 10, .inl ro1))]) [0, 8, 9, 10] hP hD hS hA rfl (by decide)
      have hKc := hK.sub (tys' := [(k_fw_forth, .long), (k_fw_back, .long), (k_fw_round, .int)]) [5, 6, 7] rfl
      refine va_calli (va_runV (As := [.int (nI l2)]) (rest := []) ⟨hx, hb, hml, hown, hts⟩ (c2_gains l dC dI n0 atx H.size fw fw_air bk st fw_hindrance fw_pull fw_droop fw_forth fw_back fw_label fw_cause fw_seen fw_round k_fw_forth fo2 k_fw_back ba2 k_fw_round ro1 l2 (by first | with_reducible assumption | omega | exact vp_in_iff.mpr (by omega) | exact vp_in_nI (by omega) (by omega) | exact ⟨by omega, by omega⟩) (by first | with_reducible assumption | omega | exact vp_in_iff.mpr (by omega) | exact vp_in_nI (by omega) (by omega) | exact ⟨by omega, by omega⟩)) (cwV 1 hts (gV (fun w h => wM_c h) wd_1060 wd_1057 wd_1059 wd_38 wd_120) rfl rfl rfl (by decide +kernel) ⟨Nat.le_of_ble_eq_true rfl, Nat.le_of_ble_eq_true rfl⟩) ⟨fun a U g mk q => by obtain ⟨q0, q1, q2, qG, qP, qK, qD⟩ := q; exact ⟨q0, q1, q2, GW.blind qG, qP, va_K.moved (u := U) (U := U.calling g mk a) (Vm.Alike.refl U.vm) qK, qD⟩, va_recv hKc hPc (ci := 2) (q0 := 0) rfl rfl, fun U hU hW => ⟨rfl, by rw [hU], Nat.le_trans hn0 hS.1, GW.go hW hU hG (fun q hq hA9 => hS.2.1 q hq (fun h => hA9 (hA0 q h))), by rw [hU]; exact hPc, va_K.moved hW.alike hKc, hDc.weaken (fun _ _ _ h => hA0 _ h)⟩⟩ rfl rfl hl.1 rfl (lv_room (Nat.le_of_ble_eq_true rfl)) dX2_followRound_79 ⟨Nat.le_of_ble_eq_true rfl, Nat.le_of_ble_eq_true rfl⟩) hS (fun q _ h => hFc q h) hFc (fun r_8 u t H1 locs ht hvm hw_9 hB hz1 hk1 hS => ?_)
      obtain ⟨hP1, hK1, hD1⟩ := hB
      rw [ht] at hP1
      obtain ⟨hP, hD⟩ := s3_j (L := [(st, .inr (9, [.ref st_open, .ref st_speed, .ref st_fallen, .ref st_fire, .int st_mark, .int st_moreIn, .int st_more, .ref bk])), (bk, .inr (0, [.int (nI bw), .ref bk_tail, .ref bk_head, .ref bk_hinder, .ref bk_size, .ref bk_walk, .ref bk_draught, .ref bk_doorIn, .ref bk_fanIn, .ref bk_faceIn, .int (nI bn), .int bk_day, .ref gr])), (fw_hindrance, .inl (k_fw_hindrance, 14, .inr (.inl f_fw_hindrance))), (fw_pull, .inl (k_fw_pull, 14, .inr (.inl f_fw_pull))), (fw_droop, .inl (k_fw_droop, 14, .inr (.inl f_fw_droop))), (st_fallen, .inl (k_st_fallen, 14, .inl f_st_fallen)), (fw_air, .inl (k_fw_air, 14, .inl ai2)), (bk_tail, .inl (k_bk_tail, 14, .inl f_bk_tail)), (bk_head, .inl (k_bk_head, 14, .inl f_bk_head)), (fw_cause, .inl (k_fw_cause, 10, .inl f_fw_cause)), (fw, .inr (2, [.ref fw_air, .ref bk, .ref st, .ref fw_hindrance, .ref fw_pull, .ref fw_droop, .ref fw_forth, .ref fw_back, .ref fw_label, .ref fw_cause, .ref fw_seen, .ref fw_round])), (fw_forth, .inl (k_fw_forth, 14, .inr (.inl fo2))), (fw_back, .inl (k_fw_back, 14, .inr (.inl ba2))), (fw_round, .inl (k_fw_round, 10, .inl ro1))]) 10 hP hD [0, 8, 9, 10] [1, 2, 3, 4, 5, 6, 7, 11, 12, 13] hk1 hFc hP1 hD1 rfl rfl rfl (by decide) (by decide)
      generalize H1 = H at hP hS ⊢
      rcases hw_9 with rfl | rfl
      · skip
        refine lv_if_ne (tgt := 86) hx hb dX2_followRound_82 (by decide) (fun c_10 => ?_) (fun c_10 => ?_)
        · exact absurd c_10 (by decide)
        have hK9 := hK.sub (tys' := [(k_fw_hindrance, .long), (k_fw_pull, .long), (k_fw_droop, .long), (k_st_fallen, .boolean), (k_fw_air, .int), (k_fw_forth, .long), (k_fw_back, .long), (k_fw_round, .int), (k_bk_tail, .int), (k_bk_head, .int), (k_fw_cause, .int)]) [0, 1, 2, 3, 4, 5, 6, 7, 8, 9, 10] rfl
        exact W.vret hx hb hr (fun t ht hW => ⟨⟨(), rfl, trivial, fo2, ba2, ai2, ro1, (by assumption), by rw [ht]; exact hP.sub [10, 0, 1, 2, 3, 4, 5, 6, 11, 12, 13, 7, 8, 9] rfl, va_K.moved hW.alike hK9, hD.sub [10, 0, 1, 2, 3, 4, 5, 6, 11, 12, 13, 7, 8, 9] (by decide) rfl⟩, hS.F ht⟩) hS.2.2 dX2_followRound_85
      · skip
        refine lv_if_ne (tgt := 86) hx hb dX2_followRound_82 (by decide) (fun c_11 => ?_) (fun c_11 => ?_)
        · skip
          refine lv_iconst (v := 0) hx hb dX2_followRound_86 (by decide) ?_
          refine lv_istore (lv' := [(6, .int 0), (0, .ref fw), (2, .int sp0), (3, .int (nI l2)), (5, .int (nI i2))]) hx hb dX2_followRound_87 hl (by decide) rfl (fun ls hl => ?_)
          refine W_lp4 (I := fun (j3 : Nat) (ai3 : Nat → Int32) (fo3 : Nat → Int64) (ba3 : Nat → Int64) H locs ls => (j3 ≤ l2) ∧ va_P (dC, dI) classes [(st, .inr (9, [.ref st_open, .ref st_speed, .ref st_fallen, .ref st_fire, .int st_mark, .int st_moreIn, .int st_more, .ref bk])), (bk, .inr (0, [.int (nI bw), .ref bk_tail, .ref bk_head, .ref bk_hinder, .ref bk_size, .ref bk_walk, .ref bk_draught, .ref bk_doorIn, .ref bk_fanIn, .ref bk_faceIn, .int (nI bn), .int bk_day, .ref gr])), (fw_hindrance, .inl (k_fw_hindrance, 14, .inr (.inl f_fw_hindrance))), (fw_pull, .inl (k_fw_pull, 14, .inr (.inl f_fw_pull))), (fw_droop, .inl (k_fw_droop, 14, .inr (.inl f_fw_droop))), (st_fallen, .inl (k_st_fallen, 14, .inl f_st_fallen)), (fw_air, .inl (k_fw_air, 14, .inl ai3)), (bk_tail, .inl (k_bk_tail, 14, .inl f_bk_tail)), (bk_head, .inl (k_bk_head, 14, .inl f_bk_head)), (fw_cause, .inl (k_fw_cause, 10, .inl f_fw_cause)), (fw, .inr (2, [.ref fw_air, .ref bk, .ref st, .ref fw_hindrance, .ref fw_pull, .ref fw_droop, .ref fw_forth, .ref fw_back, .ref fw_label, .ref fw_cause, .ref fw_seen, .ref fw_round])), (fw_forth, .inl (k_fw_forth, 14, .inr (.inl fo3))), (fw_back, .inl (k_fw_back, 14, .inr (.inl ba3))), (fw_round, .inl (k_fw_round, 10, .inl ro1))] H ∧ va_D A [(st, .inr (9, [.ref st_open, .ref st_speed, .ref st_fallen, .ref st_fire, .int st_mark, .int st_moreIn, .int st_more, .ref bk])), (bk, .inr (0, [.int (nI bw), .ref bk_tail, .ref bk_head, .ref bk_hinder, .ref bk_size, .ref bk_walk, .ref bk_draught, .ref bk_doorIn, .ref bk_fanIn, .ref bk_faceIn, .int (nI bn), .int bk_day, .ref gr])), (fw_hindrance, .inl (k_fw_hindrance, 14, .inr (.inl f_fw_hindrance))), (fw_pull, .inl (k_fw_pull, 14, .inr (.inl f_fw_pull))), (fw_droop, .inl (k_fw_droop, 14, .inr (.inl f_fw_droop))), (st_fallen, .inl (k_st_fallen, 14, .inl f_st_fallen)), (fw_air, .inl (k_fw_air, 14, .inl ai3)), (bk_tail, .inl (k_bk_tail, 14, .inl f_bk_tail)), (bk_head, .inl (k_bk_head, 14, .inl f_bk_head)), (fw_cause, .inl (k_fw_cause, 10, .inl f_fw_cause)), (fw, .inr (2, [.ref fw_air, .ref bk, .ref st, .ref fw_hindrance, .ref fw_pull, .ref fw_droop, .ref fw_forth, .ref fw_back, .ref fw_label, .ref fw_cause, .ref fw_seen, .ref fw_round])), (fw_forth, .inl (k_fw_forth, 14, .inr (.inl fo3))), (fw_back, .inl (k_fw_back, 14, .inr (.inl ba3))), (fw_round, .inl (k_fw_round, 10, .inl ro1))] ∧ va_S A s.heap H locs ∧ lv_has ls 8 [(0, .ref fw), (2, .int sp0), (3, .int (nI l2)), (5, .int (nI i2)), (6, .int (nI j3))]) (μ := fun (j3 : Nat) (ai3 : Nat → Int32) (fo3 : Nat → Int64) (ba3 : Nat → Int64) => l2 - j3) ?_ 0 ai2 fo2 ba2 _ _ _ ⟨(by first | with_reducible assumption | omega | exact vp_in_iff.mpr (by omega) | exact vp_in_nI (by omega) (by omega) | exact ⟨by omega, by omega⟩), hP, hD, hS, lv_sub hl [1, 2, 3, 4, 0] rfl⟩
          intro j3 ai3 fo3 ba3 H locs ls hI ih_12
          obtain ⟨hj3, hP, hD, hS, hl⟩ := hI
          refine lv_iload hx hb dX2_followRound_89 (lv_at hl 4 rfl) ?_
          refine lv_iload_n hx hb dX2_followRound_91 rfl (lv_at hl 2 rfl) ?_
          refine lv_icmp_ge (tgt := 147) hx hb dX2_followRound_92 (by decide) (fun c_13 => ?_) (fun c_13 => ?_)
          · skip
            have g_14 := n_ge (a := j3) (b := l2) c_13 (by omega) (by omega)
            refine lv_iinc (v := (nI (i2 + 1))) (lv' := [(5, .int (nI (i2 + 1))), (0, .ref fw), (2, .int sp0), (3, .int (nI l2)), (6, .int (nI j3))]) hx hb dX2_followRound_147 hl (k := 3) rfl (nI_add _ 1) (by decide) rfl (fun ls hl => ?_)
            refine lv_goto (tgt := 70) hx hb dX2_followRound_150 (by decide) ?_
            exact ih_4 l2 (i2 + 1) ai3 fo3 ba3 _ _ _ ⟨(by first | with_reducible assumption | omega | exact vp_in_iff.mpr (by omega) | exact vp_in_nI (by omega) (by omega) | exact ⟨by omega, by omega⟩), hP.sub [10, 0, 1, 2, 3, 4, 5, 6, 11, 12, 13, 7, 8, 9] rfl, hD.sub [10, 0, 1, 2, 3, 4, 5, 6, 11, 12, 13, 7, 8, 9] (by decide) rfl, hS, lv_sub hl [1, 2, 3, 0] rfl⟩ (by omega)
          · skip
            have g_15 := n_nge (a := j3) (b := l2) c_13 (by omega) (by omega)
            refine lv_aload_n hx hb dX2_followRound_95 rfl (lv_at hl 0 rfl) ?_
            refine va_get (D := (dC, dI)) (ci := 2) (v := .ref fw_round) (C := RX2) (T := TX2) (N := 12) hx hb hts (fun w h => wM_c (iX2 w h)) hown hK hP 10 rfl rfl 11 (by decide) (hts _ (wM_c wd_457)) (fun _ h9 => h9) rfl dX2_followRound_96 ?_
            refine lv_iload hx hb dX2_followRound_99 (lv_at hl 4 rfl) ?_
            refine va_iald hx hb hK hP 13 7 rfl rfl (vp_in_nI (n := j3) (by omega) (by omega)) dX2_followRound_101 ?_
            refine lv_topi (fun v_16 ev_16 => ?_)
            have nv_16 : v_16 = ro1 j3 := by rw [ev_16]; exact congrArg _ (nI_clamp (by omega))
            have g_17 : (-1) ≤ v_16.toInt ∧ v_16.toInt < 28 := by rw [ev_16]; exact rg_in hro1 (by omega) (by omega)
            refine lv_iconst (v := 2) hx hb dX2_followRound_102 (by decide) ?_
            refine lv_idiv hx hb dX2_followRound_103 (by decide) ?_
            refine lv_topi (fun v_18 ev_18 => ?_)
            refine lv_istore (lv' := [(7, .int v_18), (0, .ref fw), (2, .int sp0), (3, .int (nI l2)), (5, .int (nI i2)), (6, .int (nI j3))]) hx hb dX2_followRound_104 hl (by decide) rfl (fun ls hl => ?_)
            refine lv_aload_n hx hb dX2_followRound_106 rfl (lv_at hl 1 rfl) ?_
            refine va_get (D := (dC, dI)) (ci := 2) (v := .ref fw_air) (C := RX2) (T := TX2) (N := 12) hx hb hts (fun w h => wM_c (iX2 w h)) hown hK hP 10 rfl rfl 0 (by decide) (hts _ (wM_c wd_443)) (fun _ h9 => h9) rfl dX2_followRound_107 ?_
            refine lv_iload hx hb dX2_followRound_110 (lv_at hl 0 rfl) ?_
            refine lv_dup2_11 hx hb dX2_followRound_112 rfl rfl ?_
            refine va_iald hx hb hK hP 6 4 rfl rfl (by rw [ev_18]; exact half_in (by omega)) dX2_followRound_113 ?_
            refine lv_topi (fun v_19 ev_19 => ?_)
            refine lv_aload_n hx hb dX2_followRound_114 rfl (lv_at hl 1 rfl) ?_
            refine va_get (D := (dC, dI)) (ci := 2) (v := .ref fw_round) (C := RX2) (T := TX2) (N := 12) hx hb hts (fun w h => wM_c (iX2 w h)) hown hK hP 10 rfl rfl 11 (by decide) (hts _ (wM_c wd_457)) (fun _ h9 => h9) rfl dX2_followRound_115 ?_
            refine lv_iload hx hb dX2_followRound_118 (lv_at hl 5 rfl) ?_
            refine va_iald hx hb hK hP 13 7 rfl rfl (vp_in_nI (n := j3) (by omega) (by omega)) dX2_followRound_120 ?_
            refine lv_topi (fun v_20 ev_20 => ?_)
            have nv_20 : v_20 = ro1 j3 := by rw [ev_20]; exact congrArg _ (nI_clamp (by omega))
            have g_21 : (-1) ≤ v_20.toInt ∧ v_20.toInt < 28 := by rw [ev_20]; exact rg_in hro1 (by omega) (by omega)
            refine lv_iconst (v := 2) hx hb dX2_followRound_121 (by decide) ?_
            refine lv_irem hx hb dX2_followRound_122 (by decide) ?_
            refine lv_topi (fun v_22 ev_22 => ?_)
            refine lv_if_ne (tgt := 130) hx hb dX2_followRound_123 (by decide) (fun c_23 => ?_) (fun c_23 => ?_)
            · skip
              have g_24 : v_22.toInt ≠ (0 : Int) := i_ne c_23
              refine lv_iload_n hx hb dX2_followRound_130 rfl (lv_at hl 2 rfl) ?_
              refine lv_ineg hx hb dX2_followRound_131 ?_
              refine lv_topi (fun v_25 ev_25 => ?_)
              refine lv_iadd hx hb dX2_followRound_132 ?_
              refine lv_topi (fun v_26 ev_26 => ?_)
              refine va_iast hx hb hK hP hD hS 6 4 rfl rfl (by rw [ev_18]; exact half_in (by omega)) dX2_followRound_133 (fun H locs hP hD hS => ?_)
              obtain ⟨f_27, ef_27⟩ : ∃ f9, f9 = (upd ai3 v_18.toNatClampNeg v_26) := ⟨_, rfl⟩
              obtain ⟨hP, hD⟩ : s3_w (dC, dI) classes A [(st, .inr (9, [.ref st_open, .ref st_speed, .ref st_fallen, .ref st_fire, .int st_mark, .int st_moreIn, .int st_more, .ref bk])), (bk, .inr (0, [.int (nI bw), .ref bk_tail, .ref bk_head, .ref bk_hinder, .ref bk_size, .ref bk_walk, .ref bk_draught, .ref bk_doorIn, .ref bk_fanIn, .ref bk_faceIn, .int (nI bn), .int bk_day, .ref gr])), (fw_hindrance, .inl (k_fw_hindrance, 14, .inr (.inl f_fw_hindrance))), (fw_pull, .inl (k_fw_pull, 14, .inr (.inl f_fw_pull))), (fw_droop, .inl (k_fw_droop, 14, .inr (.inl f_fw_droop))), (st_fallen, .inl (k_st_fallen, 14, .inl f_st_fallen)), (fw_air, .inl (k_fw_air, 14, .inl f_27)), (bk_tail, .inl (k_bk_tail, 14, .inl f_bk_tail)), (bk_head, .inl (k_bk_head, 14, .inl f_bk_head)), (fw_cause, .inl (k_fw_cause, 10, .inl f_fw_cause)), (fw, .inr (2, [.ref fw_air, .ref bk, .ref st, .ref fw_hindrance, .ref fw_pull, .ref fw_droop, .ref fw_forth, .ref fw_back, .ref fw_label, .ref fw_cause, .ref fw_seen, .ref fw_round])), (fw_forth, .inl (k_fw_forth, 14, .inr (.inl fo3))), (fw_back, .inl (k_fw_back, 14, .inr (.inl ba3))), (fw_round, .inl (k_fw_round, 10, .inl ro1))] H := ⟨(by rw [ef_27]; exact hP), (by rw [ef_27]; exact hD)⟩
              refine lv_aload_n hx hb dX2_followRound_134 rfl (lv_at hl 1 rfl) ?_
              refine lv_iload hx hb dX2_followRound_135 (lv_at hl 0 rfl) ?_
              refine lv_iload_n hx hb dX2_followRound_137 rfl (lv_at hl 2 rfl) ?_
              obtain ⟨hPc, hDc, hFc⟩ := s3_c (ws' := [(fw, .inr (2, [.ref fw_air, .ref bk, .ref st, .ref fw_hindrance, .ref fw_pull, .ref fw_droop, .ref fw_forth, .ref fw_back, .ref fw_label, .ref fw_cause, .ref fw_seen, .ref fw_round])), (st, .inr (9, [.ref st_open, .ref st_speed, .ref st_fallen, .ref st_fire, .int st_mark, .int st_moreIn, .int st_more, .ref bk])), (fw_hindrance, .inl (k_fw_hindrance, 14, .inr (.inl f_fw_hindrance))), (fw_pull, .inl (k_fw_pull, 14, .inr (.inl f_fw_pull))), (fw_droop, .inl (k_fw_droop, 14, .inr (.inl f_fw_droop))), (st_fallen, .inl (k_st_fallen, 14, .inl f_st_fallen)), (fw_air, .inl (k_fw_air, 14, .inl f_27)), (fw_forth, .inl (k_fw_forth, 14, .inr (.inl fo3))), (fw_back, .inl (k_fw_back, 14, .inr (.inl ba3)))]) [10, 0, 2, 3, 4, 5, 6, 11, 12] hP hD hS hA rfl (by decide)
              have hKc := hK.sub (tys' := [(k_fw_hindrance, .long), (k_fw_pull, .long), (k_fw_droop, .long), (k_st_fallen, .boolean), (k_fw_air, .int), (k_fw_forth, .long), (k_fw_back, .long)]) [0, 1, 2, 3, 4, 5, 6] rfl
              refine va_callv (va_runV (As := [.int v_18, .int sp0]) (rest := []) ⟨hx, hb, hml, hown, hts⟩ (c2_rate l dC dI n0 atx H.size fw fw_air bk st fw_hindrance fw_pull fw_droop fw_forth fw_back fw_label fw_cause fw_seen fw_round st_open st_speed st_fallen st_fire st_mark st_moreIn st_more k_fw_hindrance f_fw_hindrance k_fw_pull f_fw_pull k_fw_droop f_fw_droop k_st_fallen f_st_fallen k_fw_air f_27 k_fw_forth fo3 k_fw_back ba3 v_18 sp0 (by rw [ev_18]; exact half_in (by omega))) (cwV 2 hts (gV (fun w h => wM_c h) wd_1023 wd_1020 wd_1022 wd_31 wd_120) rfl rfl rfl (by decide +kernel) ⟨Nat.le_of_ble_eq_true rfl, Nat.le_of_ble_eq_true rfl⟩) ⟨fun a U g mk q => by obtain ⟨q0, q1, q2, qG, qP, qK, qD⟩ := q; exact ⟨q0, q1, q2, GW.blind qG, qP, va_K.moved (u := U) (U := U.calling g mk a) (Vm.Alike.refl U.vm) qK, qD⟩, va_recv hKc hPc (ci := 2) (q0 := 0) rfl rfl, fun U hU hW => ⟨rfl, by rw [hU], Nat.le_trans hn0 hS.1, GW.go hW hU hG (fun q hq hA9 => hS.2.1 q hq (fun h => hA9 (hA0 q h))), by rw [hU]; exact hPc, va_K.moved hW.alike hKc, hDc.weaken (fun _ _ _ h => hA0 _ h)⟩⟩ rfl rfl hl.1 rfl (lv_room (Nat.le_of_ble_eq_true rfl)) dX2_followRound_138 ⟨Nat.le_of_ble_eq_true rfl, Nat.le_of_ble_eq_true rfl⟩) hS (fun q _ h => hFc q h) hFc (fun u t H1 locs ht hvm hw_29 hB hz1 hk1 hS => ?_)
              obtain ⟨fo9_30, ba9_31, hP1, hK1, hD1⟩ := hB
              rw [ht] at hP1
              obtain ⟨hP, hD⟩ := s3_j (L := [(bk, .inr (0, [.int (nI bw), .ref bk_tail, .ref bk_head, .ref bk_hinder, .ref bk_size, .ref bk_walk, .ref bk_draught, .ref bk_doorIn, .ref bk_fanIn, .ref bk_faceIn, .int (nI bn), .int bk_day, .ref gr])), (bk_tail, .inl (k_bk_tail, 14, .inl f_bk_tail)), (bk_head, .inl (k_bk_head, 14, .inl f_bk_head)), (fw_cause, .inl (k_fw_cause, 10, .inl f_fw_cause)), (fw_round, .inl (k_fw_round, 10, .inl ro1)), (fw, .inr (2, [.ref fw_air, .ref bk, .ref st, .ref fw_hindrance, .ref fw_pull, .ref fw_droop, .ref fw_forth, .ref fw_back, .ref fw_label, .ref fw_cause, .ref fw_seen, .ref fw_round])), (st, .inr (9, [.ref st_open, .ref st_speed, .ref st_fallen, .ref st_fire, .int st_mark, .int st_moreIn, .int st_more, .ref bk])), (fw_hindrance, .inl (k_fw_hindrance, 14, .inr (.inl f_fw_hindrance))), (fw_pull, .inl (k_fw_pull, 14, .inr (.inl f_fw_pull))), (fw_droop, .inl (k_fw_droop, 14, .inr (.inl f_fw_droop))), (st_fallen, .inl (k_st_fallen, 14, .inl f_st_fallen)), (fw_air, .inl (k_fw_air, 14, .inl f_27)), (fw_forth, .inl (k_fw_forth, 14, .inr (.inl fo9_30))), (fw_back, .inl (k_fw_back, 14, .inr (.inl ba9_31)))]) 5 hP hD [10, 0, 2, 3, 4, 5, 6, 11, 12] [1, 7, 8, 9, 13] hk1 hFc hP1 hD1 rfl rfl rfl (by decide) (by decide)
              generalize H1 = H at hP hS ⊢
              refine lv_iinc (v := (nI (j3 + 1))) (lv' := [(6, .int (nI (j3 + 1))), (7, .int v_18), (0, .ref fw), (2, .int sp0), (3, .int (nI l2)), (5, .int (nI i2))]) hx hb dX2_followRound_141 hl (k := 5) rfl (nI_add _ 1) (by decide) rfl (fun ls hl => ?_)
              refine lv_goto (tgt := 89) hx hb dX2_followRound_144 (by decide) ?_
              exact ih_12 (j3 + 1) f_27 fo9_30 ba9_31 _ _ _ ⟨(by first | with_reducible assumption | omega | exact vp_in_iff.mpr (by omega) | exact vp_in_nI (by omega) (by omega) | exact ⟨by omega, by omega⟩), hP.sub [6, 0, 7, 8, 9, 10, 11, 1, 2, 3, 5, 12, 13, 4] rfl, hD.sub [6, 0, 7, 8, 9, 10, 11, 1, 2, 3, 5, 12, 13, 4] (by decide) rfl, hS, lv_sub hl [2, 3, 4, 5, 0] rfl⟩ (by omega)
            · skip
              have g_32 : v_22.toInt = (0 : Int) := i_eq c_23
              refine lv_iload_n hx hb dX2_followRound_126 rfl (lv_at hl 2 rfl) ?_
              refine lv_goto (tgt := 132) hx hb dX2_followRound_127 (by decide) ?_
              refine lv_iadd hx hb dX2_followRound_132 ?_
              refine lv_topi (fun v_33 ev_33 => ?_)
              refine va_iast hx hb hK hP hD hS 6 4 rfl rfl (by rw [ev_18]; exact half_in (by omega)) dX2_followRound_133 (fun H locs hP hD hS => ?_)
              obtain ⟨f_34, ef_34⟩ : ∃ f9, f9 = (upd ai3 v_18.toNatClampNeg v_33) := ⟨_, rfl⟩
              obtain ⟨hP, hD⟩ : s3_w (dC, dI) classes A [(st, .inr (9, [.ref st_open, .ref st_speed, .ref st_fallen, .ref st_fire, .int st_mark, .int st_moreIn, .int st_more, .ref bk])), (bk, .inr (0, [.int (nI bw), .ref bk_tail, .ref bk_head, .ref bk_hinder, .ref bk_size, .ref bk_walk, .ref bk_draught, .ref bk_doorIn, .ref bk_fanIn, .ref bk_faceIn, .int (nI bn), .int bk_day, .ref gr])), (fw_hindrance, .inl (k_fw_hindrance, 14, .inr (.inl f_fw_hindrance))), (fw_pull, .inl (k_fw_pull, 14, .inr (.inl f_fw_pull))), (fw_droop, .inl (k_fw_droop, 14, .inr (.inl f_fw_droop))), (st_fallen, .inl (k_st_fallen, 14, .inl f_st_fallen)), (fw_air, .inl (k_fw_air, 14, .inl f_34)), (bk_tail, .inl (k_bk_tail, 14, .inl f_bk_tail)), (bk_head, .inl (k_bk_head, 14, .inl f_bk_head)), (fw_cause, .inl (k_fw_cause, 10, .inl f_fw_cause)), (fw, .inr (2, [.ref fw_air, .ref bk, .ref st, .ref fw_hindrance, .ref fw_pull, .ref fw_droop, .ref fw_forth, .ref fw_back, .ref fw_label, .ref fw_cause, .ref fw_seen, .ref fw_round])), (fw_forth, .inl (k_fw_forth, 14, .inr (.inl fo3))), (fw_back, .inl (k_fw_back, 14, .inr (.inl ba3))), (fw_round, .inl (k_fw_round, 10, .inl ro1))] H := ⟨(by rw [ef_34]; exact hP), (by rw [ef_34]; exact hD)⟩
              refine lv_aload_n hx hb dX2_followRound_134 rfl (lv_at hl 1 rfl) ?_
              refine lv_iload hx hb dX2_followRound_135 (lv_at hl 0 rfl) ?_
              refine lv_iload_n hx hb dX2_followRound_137 rfl (lv_at hl 2 rfl) ?_
              obtain ⟨hPc, hDc, hFc⟩ := s3_c (ws' := [(fw, .inr (2, [.ref fw_air, .ref bk, .ref st, .ref fw_hindrance, .ref fw_pull, .ref fw_droop, .ref fw_forth, .ref fw_back, .ref fw_label, .ref fw_cause, .ref fw_seen, .ref fw_round])), (st, .inr (9, [.ref st_open, .ref st_speed, .ref st_fallen, .ref st_fire, .int st_mark, .int st_moreIn, .int st_more, .ref bk])), (fw_hindrance, .inl (k_fw_hindrance, 14, .inr (.inl f_fw_hindrance))), (fw_pull, .inl (k_fw_pull, 14, .inr (.inl f_fw_pull))), (fw_droop, .inl (k_fw_droop, 14, .inr (.inl f_fw_droop))), (st_fallen, .inl (k_st_fallen, 14, .inl f_st_fallen)), (fw_air, .inl (k_fw_air, 14, .inl f_34)), (fw_forth, .inl (k_fw_forth, 14, .inr (.inl fo3))), (fw_back, .inl (k_fw_back, 14, .inr (.inl ba3)))]) [10, 0, 2, 3, 4, 5, 6, 11, 12] hP hD hS hA rfl (by decide)
              have hKc := hK.sub (tys' := [(k_fw_hindrance, .long), (k_fw_pull, .long), (k_fw_droop, .long), (k_st_fallen, .boolean), (k_fw_air, .int), (k_fw_forth, .long), (k_fw_back, .long)]) [0, 1, 2, 3, 4, 5, 6] rfl
              refine va_callv (va_runV (As := [.int v_18, .int sp0]) (rest := []) ⟨hx, hb, hml, hown, hts⟩ (c2_rate l dC dI n0 atx H.size fw fw_air bk st fw_hindrance fw_pull fw_droop fw_forth fw_back fw_label fw_cause fw_seen fw_round st_open st_speed st_fallen st_fire st_mark st_moreIn st_more k_fw_hindrance f_fw_hindrance k_fw_pull f_fw_pull k_fw_droop f_fw_droop k_st_fallen f_st_fallen k_fw_air f_34 k_fw_forth fo3 k_fw_back ba3 v_18 sp0 (by rw [ev_18]; exact half_in (by omega))) (cwV 2 hts (gV (fun w h => wM_c h) wd_1023 wd_1020 wd_1022 wd_31 wd_120) rfl rfl rfl (by decide +kernel) ⟨Nat.le_of_ble_eq_true rfl, Nat.le_of_ble_eq_true rfl⟩) ⟨fun a U g mk q => by obtain ⟨q0, q1, q2, qG, qP, qK, qD⟩ := q; exact ⟨q0, q1, q2, GW.blind qG, qP, va_K.moved (u := U) (U := U.calling g mk a) (Vm.Alike.refl U.vm) qK, qD⟩, va_recv hKc hPc (ci := 2) (q0 := 0) rfl rfl, fun U hU hW => ⟨rfl, by rw [hU], Nat.le_trans hn0 hS.1, GW.go hW hU hG (fun q hq hA9 => hS.2.1 q hq (fun h => hA9 (hA0 q h))), by rw [hU]; exact hPc, va_K.moved hW.alike hKc, hDc.weaken (fun _ _ _ h => hA0 _ h)⟩⟩ rfl rfl hl.1 rfl (lv_room (Nat.le_of_ble_eq_true rfl)) dX2_followRound_138 ⟨Nat.le_of_ble_eq_true rfl, Nat.le_of_ble_eq_true rfl⟩) hS (fun q _ h => hFc q h) hFc (fun u t H1 locs ht hvm hw_36 hB hz1 hk1 hS => ?_)
              obtain ⟨fo9_37, ba9_38, hP1, hK1, hD1⟩ := hB
              rw [ht] at hP1
              obtain ⟨hP, hD⟩ := s3_j (L := [(bk, .inr (0, [.int (nI bw), .ref bk_tail, .ref bk_head, .ref bk_hinder, .ref bk_size, .ref bk_walk, .ref bk_draught, .ref bk_doorIn, .ref bk_fanIn, .ref bk_faceIn, .int (nI bn), .int bk_day, .ref gr])), (bk_tail, .inl (k_bk_tail, 14, .inl f_bk_tail)), (bk_head, .inl (k_bk_head, 14, .inl f_bk_head)), (fw_cause, .inl (k_fw_cause, 10, .inl f_fw_cause)), (fw_round, .inl (k_fw_round, 10, .inl ro1)), (fw, .inr (2, [.ref fw_air, .ref bk, .ref st, .ref fw_hindrance, .ref fw_pull, .ref fw_droop, .ref fw_forth, .ref fw_back, .ref fw_label, .ref fw_cause, .ref fw_seen, .ref fw_round])), (st, .inr (9, [.ref st_open, .ref st_speed, .ref st_fallen, .ref st_fire, .int st_mark, .int st_moreIn, .int st_more, .ref bk])), (fw_hindrance, .inl (k_fw_hindrance, 14, .inr (.inl f_fw_hindrance))), (fw_pull, .inl (k_fw_pull, 14, .inr (.inl f_fw_pull))), (fw_droop, .inl (k_fw_droop, 14, .inr (.inl f_fw_droop))), (st_fallen, .inl (k_st_fallen, 14, .inl f_st_fallen)), (fw_air, .inl (k_fw_air, 14, .inl f_34)), (fw_forth, .inl (k_fw_forth, 14, .inr (.inl fo9_37))), (fw_back, .inl (k_fw_back, 14, .inr (.inl ba9_38)))]) 5 hP hD [10, 0, 2, 3, 4, 5, 6, 11, 12] [1, 7, 8, 9, 13] hk1 hFc hP1 hD1 rfl rfl rfl (by decide) (by decide)
              generalize H1 = H at hP hS ⊢
              refine lv_iinc (v := (nI (j3 + 1))) (lv' := [(6, .int (nI (j3 + 1))), (7, .int v_18), (0, .ref fw), (2, .int sp0), (3, .int (nI l2)), (5, .int (nI i2))]) hx hb dX2_followRound_141 hl (k := 5) rfl (nI_add _ 1) (by decide) rfl (fun ls hl => ?_)
              refine lv_goto (tgt := 89) hx hb dX2_followRound_144 (by decide) ?_
              exact ih_12 (j3 + 1) f_34 fo9_37 ba9_38 _ _ _ ⟨(by first | with_reducible assumption | omega | exact vp_in_iff.mpr (by omega) | exact vp_in_nI (by omega) (by omega) | exact ⟨by omega, by omega⟩), hP.sub [6, 0, 7, 8, 9, 10, 11, 1, 2, 3, 5, 12, 13, 4] rfl, hD.sub [6, 0, 7, 8, 9, 10, 11, 1, 2, 3, 5, 12, 13, 4] (by decide) rfl, hS, lv_sub hl [2, 3, 4, 5, 0] rfl⟩ (by omega)
        · exact absurd c_11 (by decide)
  · skip
    have g_39 := n_nge (a := i1) (b := bn) c_2 (by omega) (by omega)
    refine lv_aload_n hx hb dX2_followRound_20 rfl (lv_at hl 0 rfl) ?_
    refine va_get (D := (dC, dI)) (ci := 2) (v := .ref fw_round) (C := RX2) (T := TX2) (N := 12) hx hb hts (fun w h => wM_c (iX2 w h)) hown hK hP 0 rfl rfl 11 (by decide) (hts _ (wM_c wd_457)) (fun _ h9 => h9) rfl dX2_followRound_21 ?_
    refine lv_iload hx hb dX2_followRound_24 (lv_at hl 5 rfl) ?_
    refine lv_aload_n hx hb dX2_followRound_26 rfl (lv_at hl 0 rfl) ?_
    refine va_get (D := (dC, dI)) (ci := 2) (v := .ref fw_cause) (C := RX2) (T := TX2) (N := 12) hx hb hts (fun w h => wM_c (iX2 w h)) hown hK hP 0 rfl rfl 9 (by decide) (hts _ (wM_c wd_455)) (fun _ h9 => h9) rfl dX2_followRound_27 ?_
    refine lv_iload hx hb dX2_followRound_30 (lv_at hl 4 rfl) ?_
    refine va_iald hx hb hK hP 13 10 rfl rfl (by first | with_reducible assumption | exact vp_in_iff.mpr (by omega)) dX2_followRound_32 ?_
    refine lv_topi (fun v_40 ev_40 => ?_)
    have g_41 : (-1) ≤ v_40.toInt ∧ v_40.toInt < 28 := by rw [ev_40]; exact rg_inx r_cause (by first | with_reducible assumption | exact vp_in_iff.mpr (by omega))
    refine va_iast hx hb hK hP hD hS 10 7 rfl rfl (vp_in_nI (n := i1) (by omega) (by omega)) dX2_followRound_33 (fun H locs hP hD hS => ?_)
    obtain ⟨f_42, ef_42⟩ : ∃ f9, f9 = (upd ro1 (nI i1).toNatClampNeg v_40) := ⟨_, rfl⟩
    obtain ⟨hP, hD⟩ : s3_w (dC, dI) classes A [(fw, .inr (2, [.ref fw_air, .ref bk, .ref st, .ref fw_hindrance, .ref fw_pull, .ref fw_droop, .ref fw_forth, .ref fw_back, .ref fw_label, .ref fw_cause, .ref fw_seen, .ref fw_round])), (st, .inr (9, [.ref st_open, .ref st_speed, .ref st_fallen, .ref st_fire, .int st_mark, .int st_moreIn, .int st_more, .ref bk])), (bk, .inr (0, [.int (nI bw), .ref bk_tail, .ref bk_head, .ref bk_hinder, .ref bk_size, .ref bk_walk, .ref bk_draught, .ref bk_doorIn, .ref bk_fanIn, .ref bk_faceIn, .int (nI bn), .int bk_day, .ref gr])), (fw_hindrance, .inl (k_fw_hindrance, 14, .inr (.inl f_fw_hindrance))), (fw_pull, .inl (k_fw_pull, 14, .inr (.inl f_fw_pull))), (fw_droop, .inl (k_fw_droop, 14, .inr (.inl f_fw_droop))), (st_fallen, .inl (k_st_fallen, 14, .inl f_st_fallen)), (fw_air, .inl (k_fw_air, 14, .inl f_fw_air)), (fw_forth, .inl (k_fw_forth, 14, .inr (.inl f_fw_forth))), (fw_back, .inl (k_fw_back, 14, .inr (.inl f_fw_back))), (fw_round, .inl (k_fw_round, 10, .inl f_42)), (bk_tail, .inl (k_bk_tail, 14, .inl f_bk_tail)), (bk_head, .inl (k_bk_head, 14, .inl f_bk_head)), (fw_cause, .inl (k_fw_cause, 10, .inl f_fw_cause))] H := ⟨(by rw [ef_42]; exact hP), (by rw [ef_42]; exact hD)⟩
    have hr_43 : rg f_42 10 (-1) 28 := by rw [ef_42]; exact rg_upd hro1 ⟨by omega, by omega⟩
    refine lv_iload hx hb dX2_followRound_34 (lv_at hl 5 rfl) ?_
    refine lv_iconst (v := 1) hx hb dX2_followRound_36 (by decide) ?_
    refine lv_iadd hx hb dX2_followRound_37 ?_
    refine lv_topi (fun v_44 ev_44 => ?_)
    obtain rfl : v_44 = nI (i1 + 1) := ev_44.trans (nI_add i1 1)
    refine lv_istore_n (lv' := [(3, .int (nI (i1 + 1))), (0, .ref fw), (1, .int kn0), (2, .int sp0), (4, .int at1), (5, .int (nI i1))]) hx hb dX2_followRound_38 rfl hl (by decide) rfl (fun ls hl => ?_)
    refine lv_aload_n hx hb dX2_followRound_39 rfl (lv_at hl 1 rfl) ?_
    refine lv_aload_n hx hb dX2_followRound_40 rfl (lv_at hl 1 rfl) ?_
    refine va_get (D := (dC, dI)) (ci := 2) (v := .ref fw_cause) (C := RX2) (T := TX2) (N := 12) hx hb hts (fun w h => wM_c (iX2 w h)) hown hK hP 0 rfl rfl 9 (by decide) (hts _ (wM_c wd_455)) (fun _ h9 => h9) rfl dX2_followRound_41 ?_
    refine lv_iload hx hb dX2_followRound_44 (lv_at hl 4 rfl) ?_
    refine va_iald hx hb hK hP 13 10 rfl rfl (by first | with_reducible assumption | exact vp_in_iff.mpr (by omega)) dX2_followRound_46 ?_
    refine lv_topi (fun v_45 ev_45 => ?_)
    have g_46 : (-1) ≤ v_45.toInt ∧ v_45.toInt < 28 := by rw [ev_45]; exact rg_inx r_cause (by first | with_reducible assumption | exact vp_in_iff.mpr (by omega))
    obtain ⟨hPc, hDc, hFc⟩ := s3_c (ws' := [(fw, .inr (2, [.ref fw_air, .ref bk, .ref st, .ref fw_hindrance, .ref fw_pull, .ref fw_droop, .ref fw_forth, .ref fw_back, .ref fw_label, .ref fw_cause, .ref fw_seen, .ref fw_round])), (bk, .inr (0, [.int (nI bw), .ref bk_tail, .ref bk_head, .ref bk_hinder, .ref bk_size, .ref bk_walk, .ref bk_draught, .ref bk_doorIn, .ref bk_fanIn, .ref bk_faceIn, .int (nI bn), .int bk_day, .ref gr])), (bk_tail, .inl (k_bk_tail, 14, .inl f_bk_tail)), (bk_head, .inl (k_bk_head, 14, .inl f_bk_head))]) [0, 2, 11, 12] hP hD hS hA rfl (by decide)
    have hKc := hK.sub (tys' := [(k_bk_tail, .int), (k_bk_head, .int)]) [8, 9] rfl
    refine va_calli (va_runV (As := [.int v_45]) (rest := []) ⟨hx, hb, hml, hown, hts⟩ (c2_cameFrom l dC dI n0 atx H.size fw fw_air bk st fw_hindrance fw_pull fw_droop fw_forth fw_back fw_label fw_cause fw_seen fw_round bw bk_tail bk_head bk_hinder bk_size bk_walk bk_draught bk_doorIn bk_fanIn bk_faceIn bn bk_day gr k_bk_tail f_bk_tail k_bk_head f_bk_head v_45 (by first | with_reducible assumption | omega | exact vp_in_iff.mpr (by omega) | exact vp_in_nI (by omega) (by omega) | exact ⟨by omega, by omega⟩) (by first | with_reducible assumption | omega | exact vp_in_iff.mpr (by omega) | exact vp_in_nI (by omega) (by omega) | exact ⟨by omega, by omega⟩) (by first | with_reducible assumption | omega | exact vp_in_iff.mpr (by omega) | exact vp_in_nI (by omega) (by omega) | exact ⟨by omega, by omega⟩) (by first | with_reducible assumption | omega | exact vp_in_iff.mpr (by omega) | exact vp_in_nI (by omega) (by omega) | exact ⟨by omega, by omega⟩) (by first | with_reducible assumption | omega | exact vp_in_iff.mpr (by omega) | exact vp_in_nI (by omega) (by omega) | exact ⟨by omega, by omega⟩) (by first | with_reducible assumption | omega | exact vp_in_iff.mpr (by omega) | exact vp_in_nI (by omega) (by omega) | exact ⟨by omega, by omega⟩)) (cwV 1 hts (gV (fun w h => wM_c h) wd_1052 wd_1049 wd_1051 wd_36 wd_120) rfl rfl rfl (by decide +kernel) ⟨Nat.le_of_ble_eq_true rfl, Nat.le_of_ble_eq_true rfl⟩) ⟨fun a U g mk q => by obtain ⟨q0, q1, q2, qG, qP, qK, qD⟩ := q; exact ⟨q0, q1, q2, GW.blind qG, qP, va_K.moved (u := U) (U := U.calling g mk a) (Vm.Alike.refl U.vm) qK, qD⟩, va_recv hKc hPc (ci := 2) (q0 := 0) rfl rfl, fun U hU hW => ⟨rfl, by rw [hU], Nat.le_trans hn0 hS.1, GW.go hW hU hG (fun q hq hA9 => hS.2.1 q hq (fun h => hA9 (hA0 q h))), by rw [hU]; exact hPc, va_K.moved hW.alike hKc, hDc.weaken (fun _ _ _ h => hA0 _ h)⟩⟩ rfl rfl hl.1 rfl (lv_room (Nat.le_of_ble_eq_true rfl)) dX2_followRound_47 ⟨Nat.le_of_ble_eq_true rfl, Nat.le_of_ble_eq_true rfl⟩) hS (fun q _ h => hFc q h) hFc (fun r_47 u t H1 locs ht hvm hw_48 hB hz1 hk1 hS => ?_)
    obtain ⟨hP1, hK1, hD1⟩ := hB
    rw [ht] at hP1
    obtain ⟨hP, hD⟩ := s3_j (L := [(st, .inr (9, [.ref st_open, .ref st_speed, .ref st_fallen, .ref st_fire, .int st_mark, .int st_moreIn, .int st_more, .ref bk])), (fw_hindrance, .inl (k_fw_hindrance, 14, .inr (.inl f_fw_hindrance))), (fw_pull, .inl (k_fw_pull, 14, .inr (.inl f_fw_pull))), (fw_droop, .inl (k_fw_droop, 14, .inr (.inl f_fw_droop))), (st_fallen, .inl (k_st_fallen, 14, .inl f_st_fallen)), (fw_air, .inl (k_fw_air, 14, .inl f_fw_air)), (fw_forth, .inl (k_fw_forth, 14, .inr (.inl f_fw_forth))), (fw_back, .inl (k_fw_back, 14, .inr (.inl f_fw_back))), (fw_round, .inl (k_fw_round, 10, .inl f_42)), (fw_cause, .inl (k_fw_cause, 10, .inl f_fw_cause)), (fw, .inr (2, [.ref fw_air, .ref bk, .ref st, .ref fw_hindrance, .ref fw_pull, .ref fw_droop, .ref fw_forth, .ref fw_back, .ref fw_label, .ref fw_cause, .ref fw_seen, .ref fw_round])), (bk, .inr (0, [.int (nI bw), .ref bk_tail, .ref bk_head, .ref bk_hinder, .ref bk_size, .ref bk_walk, .ref bk_draught, .ref bk_doorIn, .ref bk_fanIn, .ref bk_faceIn, .int (nI bn), .int bk_day, .ref gr])), (bk_tail, .inl (k_bk_tail, 14, .inl f_bk_tail)), (bk_head, .inl (k_bk_head, 14, .inl f_bk_head))]) 10 hP hD [0, 2, 11, 12] [1, 3, 4, 5, 6, 7, 8, 9, 10, 13] hk1 hFc hP1 hD1 rfl rfl rfl (by decide) (by decide)
    generalize H1 = H at hP hS ⊢
    refine lv_istore (lv' := [(4, .int r_47), (3, .int (nI (i1 + 1))), (0, .ref fw), (1, .int kn0), (2, .int sp0), (5, .int (nI i1))]) hx hb dX2_followRound_50 hl (by decide) rfl (fun ls hl => ?_)
    refine lv_iload hx hb dX2_followRound_52 (lv_at hl 0 rfl) ?_
    refine lv_iload_n hx hb dX2_followRound_54 rfl (lv_at hl 3 rfl) ?_
    refine lv_icmp_ne (tgt := 61) hx hb dX2_followRound_55 (by decide) (fun c_49 => ?_) (fun c_49 => ?_)
    · skip
      have g_50 : r_47.toInt ≠ kn0.toInt := i_ne c_49
      refine lv_iinc (v := (nI (i1 + 1))) (lv' := [(5, .int (nI (i1 + 1))), (4, .int r_47), (3, .int (nI (i1 + 1))), (0, .ref fw), (1, .int kn0), (2, .int sp0)]) hx hb dX2_followRound_61 hl (k := 5) rfl (nI_add _ 1) (by decide) rfl (fun ls hl => ?_)
      refine lv_goto (tgt := 8) hx hb dX2_followRound_64 (by decide) ?_
      exact ih_1 (i1 + 1) r_47 (i1 + 1) f_42 _ _ _ ⟨(by first | with_reducible assumption | omega | exact vp_in_iff.mpr (by omega) | exact vp_in_nI (by omega) (by omega) | exact ⟨by omega, by omega⟩), (by first | with_reducible assumption | omega | exact vp_in_iff.mpr (by omega) | exact vp_in_nI (by omega) (by omega) | exact ⟨by omega, by omega⟩), (by first | with_reducible assumption | omega | exact vp_in_iff.mpr (by omega) | exact vp_in_nI (by omega) (by omega) | exact ⟨by omega, by omega⟩), (by first | with_reducible assumption | omega | exact vp_in_iff.mpr (by omega) | exact vp_in_nI (by omega) (by omega) | exact ⟨by omega, by omega⟩), hP.sub [10, 0, 11, 1, 2, 3, 4, 5, 6, 7, 8, 12, 13, 9] rfl, hD.sub [10, 0, 11, 1, 2, 3, 4, 5, 6, 7, 8, 12, 13, 9] (by decide) rfl, hS, lv_sub hl [3, 4, 5, 2, 1, 0] rfl⟩ (by omega)
    · skip
      have g_51 : r_47.toInt = kn0.toInt := i_eq c_49
      refine lv_goto (tgt := 67) hx hb dX2_followRound_58 (by decide) ?_
      refine lv_iconst (v := 0) hx hb dX2_followRound_67 (by decide) ?_
      refine lv_istore (lv' := [(5, .int 0), (4, .int r_47), (3, .int (nI (i1 + 1))), (0, .ref fw), (1, .int kn0), (2, .int sp0)]) hx hb dX2_followRound_68 hl (by decide) rfl (fun ls hl => ?_)
      refine W_lp5 (I := fun (l2 : Nat) (i2 : Nat) (ai2 : Nat → Int32) (fo2 : Nat → Int64) (ba2 : Nat → Int64) H locs ls => (i2 ≤ 121 ∧ l2 ≤ 10) ∧ va_P (dC, dI) classes [(st, .inr (9, [.ref st_open, .ref st_speed, .ref st_fallen, .ref st_fire, .int st_mark, .int st_moreIn, .int st_more, .ref bk])), (fw_hindrance, .inl (k_fw_hindrance, 14, .inr (.inl f_fw_hindrance))), (fw_pull, .inl (k_fw_pull, 14, .inr (.inl f_fw_pull))), (fw_droop, .inl (k_fw_droop, 14, .inr (.inl f_fw_droop))), (st_fallen, .inl (k_st_fallen, 14, .inl f_st_fallen)), (fw_air, .inl (k_fw_air, 14, .inl ai2)), (fw_forth, .inl (k_fw_forth, 14, .inr (.inl fo2))), (fw_back, .inl (k_fw_back, 14, .inr (.inl ba2))), (fw_round, .inl (k_fw_round, 10, .inl f_42)), (fw_cause, .inl (k_fw_cause, 10, .inl f_fw_cause)), (fw, .inr (2, [.ref fw_air, .ref bk, .ref st, .ref fw_hindrance, .ref fw_pull, .ref fw_droop, .ref fw_forth, .ref fw_back, .ref fw_label, .ref fw_cause, .ref fw_seen, .ref fw_round])), (bk, .inr (0, [.int (nI bw), .ref bk_tail, .ref bk_head, .ref bk_hinder, .ref bk_size, .ref bk_walk, .ref bk_draught, .ref bk_doorIn, .ref bk_fanIn, .ref bk_faceIn, .int (nI bn), .int bk_day, .ref gr])), (bk_tail, .inl (k_bk_tail, 14, .inl f_bk_tail)), (bk_head, .inl (k_bk_head, 14, .inl f_bk_head))] H ∧ va_D A [(st, .inr (9, [.ref st_open, .ref st_speed, .ref st_fallen, .ref st_fire, .int st_mark, .int st_moreIn, .int st_more, .ref bk])), (fw_hindrance, .inl (k_fw_hindrance, 14, .inr (.inl f_fw_hindrance))), (fw_pull, .inl (k_fw_pull, 14, .inr (.inl f_fw_pull))), (fw_droop, .inl (k_fw_droop, 14, .inr (.inl f_fw_droop))), (st_fallen, .inl (k_st_fallen, 14, .inl f_st_fallen)), (fw_air, .inl (k_fw_air, 14, .inl ai2)), (fw_forth, .inl (k_fw_forth, 14, .inr (.inl fo2))), (fw_back, .inl (k_fw_back, 14, .inr (.inl ba2))), (fw_round, .inl (k_fw_round, 10, .inl f_42)), (fw_cause, .inl (k_fw_cause, 10, .inl f_fw_cause)), (fw, .inr (2, [.ref fw_air, .ref bk, .ref st, .ref fw_hindrance, .ref fw_pull, .ref fw_droop, .ref fw_forth, .ref fw_back, .ref fw_label, .ref fw_cause, .ref fw_seen, .ref fw_round])), (bk, .inr (0, [.int (nI bw), .ref bk_tail, .ref bk_head, .ref bk_hinder, .ref bk_size, .ref bk_walk, .ref bk_draught, .ref bk_doorIn, .ref bk_fanIn, .ref bk_faceIn, .int (nI bn), .int bk_day, .ref gr])), (bk_tail, .inl (k_bk_tail, 14, .inl f_bk_tail)), (bk_head, .inl (k_bk_head, 14, .inl f_bk_head))] ∧ va_S A s.heap H locs ∧ lv_has ls 8 [(0, .ref fw), (2, .int sp0), (3, .int (nI l2)), (5, .int (nI i2))]) (μ := fun (l2 : Nat) (i2 : Nat) (ai2 : Nat → Int32) (fo2 : Nat → Int64) (ba2 : Nat → Int64) => 121 - i2) ?_ (i1 + 1) 0 f_fw_air f_fw_forth f_fw_back _ _ _ ⟨(by first | with_reducible assumption | omega | exact vp_in_iff.mpr (by omega) | exact vp_in_nI (by omega) (by omega) | exact ⟨by omega, by omega⟩), hP, hD, hS, lv_sub hl [3, 5, 2, 0] rfl⟩
      intro l2 i2 ai2 fo2 ba2 H locs ls hI ih_52
      obtain ⟨hi2, hP, hD, hS, hl⟩ := hI
      refine lv_iload hx hb dX2_followRound_70 (lv_at hl 3 rfl) ?_
      refine lv_bipush (v := 120) hx hb dX2_followRound_72 (by decide) ?_
      refine lv_icmp_gt (tgt := 153) hx hb dX2_followRound_74 (by decide) (fun c_53 => ?_) (fun c_53 => ?_)
      · skip
        have g_54 := n_lt (a := 120) (b := i2) c_53 (by omega) (by omega)
        have hK9 := hK.sub (tys' := [(k_fw_hindrance, .long), (k_fw_pull, .long), (k_fw_droop, .long), (k_st_fallen, .boolean), (k_fw_air, .int), (k_fw_forth, .long), (k_fw_back, .long), (k_fw_round, .int), (k_bk_tail, .int), (k_bk_head, .int), (k_fw_cause, .int)]) [0, 1, 2, 3, 4, 5, 6, 7, 8, 9, 10] rfl
        exact W.vret hx hb hr (fun t ht hW => ⟨⟨(), rfl, trivial, fo2, ba2, ai2, f_42, (by assumption), by rw [ht]; exact hP.sub [10, 0, 11, 1, 2, 3, 4, 5, 6, 7, 8, 12, 13, 9] rfl, va_K.moved hW.alike hK9, hD.sub [10, 0, 11, 1, 2, 3, 4, 5, 6, 7, 8, 12, 13, 9] (by decide) rfl⟩, hS.F ht⟩) hS.2.2 dX2_followRound_153
      · skip
        have g_55 := n_nlt (a := 120) (b := i2) c_53 (by omega) (by omega)
        refine lv_aload_n hx hb dX2_followRound_77 rfl (lv_at hl 0 rfl) ?_
        refine lv_iload_n hx hb dX2_followRound_78 rfl (lv_at hl 2 rfl) ?_
        obtain ⟨hPc, hDc, hFc⟩ := s3_c (ws' := [(fw, .inr (2, [.ref fw_air, .ref bk, .ref st, .ref fw_hindrance, .ref fw_pull, .ref fw_droop, .ref fw_forth, .ref fw_back, .ref fw_label, .ref fw_cause, .ref fw_seen, .ref fw_round])), (fw_forth, .inl (k_fw_forth, 14, .inr (.inl fo2))), (fw_back, .inl (k_fw_back, 14, .inr (.inl ba2))), (fw_round, .inl (k_fw_round, 10, .inl f_42))]) [10, 6, 7, 8] hP hD hS hA rfl (by decide)
        have hKc := hK.sub (tys' := [(k_fw_forth, .long), (k_fw_back, .long), (k_fw_round, .int)]) [5, 6, 7] rfl
        refine va_calli (va_runV (As := [.int (nI l2)]) (rest := []) ⟨hx, hb, hml, hown, hts⟩ (c2_gains l dC dI n0 atx H.size fw fw_air bk st fw_hindrance fw_pull fw_droop fw_forth fw_back fw_label fw_cause fw_seen fw_round k_fw_forth fo2 k_fw_back ba2 k_fw_round f_42 l2 (by first | with_reducible assumption | omega | exact vp_in_iff.mpr (by omega) | exact vp_in_nI (by omega) (by omega) | exact ⟨by omega, by omega⟩) (by first | with_reducible assumption | omega | exact vp_in_iff.mpr (by omega) | exact vp_in_nI (by omega) (by omega) | exact ⟨by omega, by omega⟩)) (cwV 1 hts (gV (fun w h => wM_c h) wd_1060 wd_1057 wd_1059 wd_38 wd_120) rfl rfl rfl (by decide +kernel) ⟨Nat.le_of_ble_eq_true rfl, Nat.le_of_ble_eq_true rfl⟩) ⟨fun a U g mk q => by obtain ⟨q0, q1, q2, qG, qP, qK, qD⟩ := q; exact ⟨q0, q1, q2, GW.blind qG, qP, va_K.moved (u := U) (U := U.calling g mk a) (Vm.Alike.refl U.vm) qK, qD⟩, va_recv hKc hPc (ci := 2) (q0 := 0) rfl rfl, fun U hU hW => ⟨rfl, by rw [hU], Nat.le_trans hn0 hS.1, GW.go hW hU hG (fun q hq hA9 => hS.2.1 q hq (fun h => hA9 (hA0 q h))), by rw [hU]; exact hPc, va_K.moved hW.alike hKc, hDc.weaken (fun _ _ _ h => hA0 _ h)⟩⟩ rfl rfl hl.1 rfl (lv_room (Nat.le_of_ble_eq_true rfl)) dX2_followRound_79 ⟨Nat.le_of_ble_eq_true rfl, Nat.le_of_ble_eq_true rfl⟩) hS (fun q _ h => hFc q h) hFc (fun r_56 u t H1 locs ht hvm hw_57 hB hz1 hk1 hS => ?_)
        obtain ⟨hP1, hK1, hD1⟩ := hB
        rw [ht] at hP1
        obtain ⟨hP, hD⟩ := s3_j (L := [(st, .inr (9, [.ref st_open, .ref st_speed, .ref st_fallen, .ref st_fire, .int st_mark, .int st_moreIn, .int st_more, .ref bk])), (fw_hindrance, .inl (k_fw_hindrance, 14, .inr (.inl f_fw_hindrance))), (fw_pull, .inl (k_fw_pull, 14, .inr (.inl f_fw_pull))), (fw_droop, .inl (k_fw_droop, 14, .inr (.inl f_fw_droop))), (st_fallen, .inl (k_st_fallen, 14, .inl f_st_fallen)), (fw_air, .inl (k_fw_air, 14, .inl ai2)), (fw_cause, .inl (k_fw_cause, 10, .inl f_fw_cause)), (bk, .inr (0, [.int (nI bw), .ref bk_tail, .ref bk_head, .ref bk_hinder, .ref bk_size, .ref bk_walk, .ref bk_draught, .ref bk_doorIn, .ref bk_fanIn, .ref bk_faceIn, .int (nI bn), .int bk_day, .ref gr])), (bk_tail, .inl (k_bk_tail, 14, .inl f_bk_tail)), (bk_head, .inl (k_bk_head, 14, .inl f_bk_head)), (fw, .inr (2, [.ref fw_air, .ref bk, .ref st, .ref fw_hindrance, .ref fw_pull, .ref fw_droop, .ref fw_forth, .ref fw_back, .ref fw_label, .ref fw_cause, .ref fw_seen, .ref fw_round])), (fw_forth, .inl (k_fw_forth, 14, .inr (.inl fo2))), (fw_back, .inl (k_fw_back, 14, .inr (.inl ba2))), (fw_round, .inl (k_fw_round, 10, .inl f_42))]) 10 hP hD [10, 6, 7, 8] [0, 1, 2, 3, 4, 5, 9, 11, 12, 13] hk1 hFc hP1 hD1 rfl rfl rfl (by decide) (by decide)
        generalize H1 = H at hP hS ⊢
        rcases hw_57 with rfl | rfl
        · skip
          refine lv_if_ne (tgt := 86) hx hb dX2_followRound_82 (by decide) (fun c_58 => ?_) (fun c_58 => ?_)
          · exact absurd c_58 (by decide)
          have hK9 := hK.sub (tys' := [(k_fw_hindrance, .long), (k_fw_pull, .long), (k_fw_droop, .long), (k_st_fallen, .boolean), (k_fw_air, .int), (k_fw_forth, .long), (k_fw_back, .long), (k_fw_round, .int), (k_bk_tail, .int), (k_bk_head, .int), (k_fw_cause, .int)]) [0, 1, 2, 3, 4, 5, 6, 7, 8, 9, 10] rfl
          exact W.vret hx hb hr (fun t ht hW => ⟨⟨(), rfl, trivial, fo2, ba2, ai2, f_42, (by assumption), by rw [ht]; exact hP.sub [10, 0, 7, 1, 2, 3, 4, 5, 11, 12, 13, 8, 9, 6] rfl, va_K.moved hW.alike hK9, hD.sub [10, 0, 7, 1, 2, 3, 4, 5, 11, 12, 13, 8, 9, 6] (by decide) rfl⟩, hS.F ht⟩) hS.2.2 dX2_followRound_85
        · skip
          refine lv_if_ne (tgt := 86) hx hb dX2_followRound_82 (by decide) (fun c_59 => ?_) (fun c_59 => ?_)
          · skip
            refine lv_iconst (v := 0) hx hb dX2_followRound_86 (by decide) ?_
            refine lv_istore (lv' := [(6, .int 0), (0, .ref fw), (2, .int sp0), (3, .int (nI l2)), (5, .int (nI i2))]) hx hb dX2_followRound_87 hl (by decide) rfl (fun ls hl => ?_)
            refine W_lp4 (I := fun (j3 : Nat) (ai3 : Nat → Int32) (fo3 : Nat → Int64) (ba3 : Nat → Int64) H locs ls => (j3 ≤ l2) ∧ va_P (dC, dI) classes [(st, .inr (9, [.ref st_open, .ref st_speed, .ref st_fallen, .ref st_fire, .int st_mark, .int st_moreIn, .int st_more, .ref bk])), (fw_hindrance, .inl (k_fw_hindrance, 14, .inr (.inl f_fw_hindrance))), (fw_pull, .inl (k_fw_pull, 14, .inr (.inl f_fw_pull))), (fw_droop, .inl (k_fw_droop, 14, .inr (.inl f_fw_droop))), (st_fallen, .inl (k_st_fallen, 14, .inl f_st_fallen)), (fw_air, .inl (k_fw_air, 14, .inl ai3)), (fw_cause, .inl (k_fw_cause, 10, .inl f_fw_cause)), (bk, .inr (0, [.int (nI bw), .ref bk_tail, .ref bk_head, .ref bk_hinder, .ref bk_size, .ref bk_walk, .ref bk_draught, .ref bk_doorIn, .ref bk_fanIn, .ref bk_faceIn, .int (nI bn), .int bk_day, .ref gr])), (bk_tail, .inl (k_bk_tail, 14, .inl f_bk_tail)), (bk_head, .inl (k_bk_head, 14, .inl f_bk_head)), (fw, .inr (2, [.ref fw_air, .ref bk, .ref st, .ref fw_hindrance, .ref fw_pull, .ref fw_droop, .ref fw_forth, .ref fw_back, .ref fw_label, .ref fw_cause, .ref fw_seen, .ref fw_round])), (fw_forth, .inl (k_fw_forth, 14, .inr (.inl fo3))), (fw_back, .inl (k_fw_back, 14, .inr (.inl ba3))), (fw_round, .inl (k_fw_round, 10, .inl f_42))] H ∧ va_D A [(st, .inr (9, [.ref st_open, .ref st_speed, .ref st_fallen, .ref st_fire, .int st_mark, .int st_moreIn, .int st_more, .ref bk])), (fw_hindrance, .inl (k_fw_hindrance, 14, .inr (.inl f_fw_hindrance))), (fw_pull, .inl (k_fw_pull, 14, .inr (.inl f_fw_pull))), (fw_droop, .inl (k_fw_droop, 14, .inr (.inl f_fw_droop))), (st_fallen, .inl (k_st_fallen, 14, .inl f_st_fallen)), (fw_air, .inl (k_fw_air, 14, .inl ai3)), (fw_cause, .inl (k_fw_cause, 10, .inl f_fw_cause)), (bk, .inr (0, [.int (nI bw), .ref bk_tail, .ref bk_head, .ref bk_hinder, .ref bk_size, .ref bk_walk, .ref bk_draught, .ref bk_doorIn, .ref bk_fanIn, .ref bk_faceIn, .int (nI bn), .int bk_day, .ref gr])), (bk_tail, .inl (k_bk_tail, 14, .inl f_bk_tail)), (bk_head, .inl (k_bk_head, 14, .inl f_bk_head)), (fw, .inr (2, [.ref fw_air, .ref bk, .ref st, .ref fw_hindrance, .ref fw_pull, .ref fw_droop, .ref fw_forth, .ref fw_back, .ref fw_label, .ref fw_cause, .ref fw_seen, .ref fw_round])), (fw_forth, .inl (k_fw_forth, 14, .inr (.inl fo3))), (fw_back, .inl (k_fw_back, 14, .inr (.inl ba3))), (fw_round, .inl (k_fw_round, 10, .inl f_42))] ∧ va_S A s.heap H locs ∧ lv_has ls 8 [(0, .ref fw), (2, .int sp0), (3, .int (nI l2)), (5, .int (nI i2)), (6, .int (nI j3))]) (μ := fun (j3 : Nat) (ai3 : Nat → Int32) (fo3 : Nat → Int64) (ba3 : Nat → Int64) => l2 - j3) ?_ 0 ai2 fo2 ba2 _ _ _ ⟨(by first | with_reducible assumption | omega | exact vp_in_iff.mpr (by omega) | exact vp_in_nI (by omega) (by omega) | exact ⟨by omega, by omega⟩), hP, hD, hS, lv_sub hl [1, 2, 3, 4, 0] rfl⟩
            intro j3 ai3 fo3 ba3 H locs ls hI ih_60
            obtain ⟨hj3, hP, hD, hS, hl⟩ := hI
            refine lv_iload hx hb dX2_followRound_89 (lv_at hl 4 rfl) ?_
            refine lv_iload_n hx hb dX2_followRound_91 rfl (lv_at hl 2 rfl) ?_
            refine lv_icmp_ge (tgt := 147) hx hb dX2_followRound_92 (by decide) (fun c_61 => ?_) (fun c_61 => ?_)
            · skip
              have g_62 := n_ge (a := j3) (b := l2) c_61 (by omega) (by omega)
              refine lv_iinc (v := (nI (i2 + 1))) (lv' := [(5, .int (nI (i2 + 1))), (0, .ref fw), (2, .int sp0), (3, .int (nI l2)), (6, .int (nI j3))]) hx hb dX2_followRound_147 hl (k := 3) rfl (nI_add _ 1) (by decide) rfl (fun ls hl => ?_)
              refine lv_goto (tgt := 70) hx hb dX2_followRound_150 (by decide) ?_
              exact ih_52 l2 (i2 + 1) ai3 fo3 ba3 _ _ _ ⟨(by first | with_reducible assumption | omega | exact vp_in_iff.mpr (by omega) | exact vp_in_nI (by omega) (by omega) | exact ⟨by omega, by omega⟩), hP.sub [0, 1, 2, 3, 4, 5, 11, 12, 13, 6, 10, 7, 8, 9] rfl, hD.sub [0, 1, 2, 3, 4, 5, 11, 12, 13, 6, 10, 7, 8, 9] (by decide) rfl, hS, lv_sub hl [1, 2, 3, 0] rfl⟩ (by omega)
            · skip
              have g_63 := n_nge (a := j3) (b := l2) c_61 (by omega) (by omega)
              refine lv_aload_n hx hb dX2_followRound_95 rfl (lv_at hl 0 rfl) ?_
              refine va_get (D := (dC, dI)) (ci := 2) (v := .ref fw_round) (C := RX2) (T := TX2) (N := 12) hx hb hts (fun w h => wM_c (iX2 w h)) hown hK hP 10 rfl rfl 11 (by decide) (hts _ (wM_c wd_457)) (fun _ h9 => h9) rfl dX2_followRound_96 ?_
              refine lv_iload hx hb dX2_followRound_99 (lv_at hl 4 rfl) ?_
              refine va_iald hx hb hK hP 13 7 rfl rfl (vp_in_nI (n := j3) (by omega) (by omega)) dX2_followRound_101 ?_
              refine lv_topi (fun v_64 ev_64 => ?_)
              have nv_64 : v_64 = f_42 j3 := by rw [ev_64]; exact congrArg _ (nI_clamp (by omega))
              have g_65 : (-1) ≤ v_64.toInt ∧ v_64.toInt < 28 := by rw [ev_64]; exact rg_in hr_43 (by omega) (by omega)
              refine lv_iconst (v := 2) hx hb dX2_followRound_102 (by decide) ?_
              refine lv_idiv hx hb dX2_followRound_103 (by decide) ?_
              refine lv_topi (fun v_66 ev_66 => ?_)
              refine lv_istore (lv' := [(7, .int v_66), (0, .ref fw), (2, .int sp0), (3, .int (nI l2)), (5, .int (nI i2)), (6, .int (nI j3))]) hx hb dX2_followRound_104 hl (by decide) rfl (fun ls hl => ?_)
              refine lv_aload_n hx hb dX2_followRound_106 rfl (lv_at hl 1 rfl) ?_
              refine va_get (D := (dC, dI)) (ci := 2) (v := .ref fw_air) (C := RX2) (T := TX2) (N := 12) hx hb hts (fun w h => wM_c (iX2 w h)) hown hK hP 10 rfl rfl 0 (by decide) (hts _ (wM_c wd_443)) (fun _ h9 => h9) rfl dX2_followRound_107 ?_
              refine lv_iload hx hb dX2_followRound_110 (lv_at hl 0 rfl) ?_
              refine lv_dup2_11 hx hb dX2_followRound_112 rfl rfl ?_
              refine va_iald hx hb hK hP 5 4 rfl rfl (by rw [ev_66]; exact half_in (by omega)) dX2_followRound_113 ?_
              refine lv_topi (fun v_67 ev_67 => ?_)
              refine lv_aload_n hx hb dX2_followRound_114 rfl (lv_at hl 1 rfl) ?_
              refine va_get (D := (dC, dI)) (ci := 2) (v := .ref fw_round) (C := RX2) (T := TX2) (N := 12) hx hb hts (fun w h => wM_c (iX2 w h)) hown hK hP 10 rfl rfl 11 (by decide) (hts _ (wM_c wd_457)) (fun _ h9 => h9) rfl dX2_followRound_115 ?_
              refine lv_iload hx hb dX2_followRound_118 (lv_at hl 5 rfl) ?_
              refine va_iald hx hb hK hP 13 7 rfl rfl (vp_in_nI (n := j3) (by omega) (by omega)) dX2_followRound_120 ?_
              refine lv_topi (fun v_68 ev_68 => ?_)
              have nv_68 : v_68 = f_42 j3 := by rw [ev_68]; exact congrArg _ (nI_clamp (by omega))
              have g_69 : (-1) ≤ v_68.toInt ∧ v_68.toInt < 28 := by rw [ev_68]; exact rg_in hr_43 (by omega) (by omega)
              refine lv_iconst (v := 2) hx hb dX2_followRound_121 (by decide) ?_
              refine lv_irem hx hb dX2_followRound_122 (by decide) ?_
              refine lv_topi (fun v_70 ev_70 => ?_)
              refine lv_if_ne (tgt := 130) hx hb dX2_followRound_123 (by decide) (fun c_71 => ?_) (fun c_71 => ?_)
              · skip
                have g_72 : v_70.toInt ≠ (0 : Int) := i_ne c_71
                refine lv_iload_n hx hb dX2_followRound_130 rfl (lv_at hl 2 rfl) ?_
                refine lv_ineg hx hb dX2_followRound_131 ?_
                refine lv_topi (fun v_73 ev_73 => ?_)
                refine lv_iadd hx hb dX2_followRound_132 ?_
                refine lv_topi (fun v_74 ev_74 => ?_)
                refine va_iast hx hb hK hP hD hS 5 4 rfl rfl (by rw [ev_66]; exact half_in (by omega)) dX2_followRound_133 (fun H locs hP hD hS => ?_)
                obtain ⟨f_75, ef_75⟩ : ∃ f9, f9 = (upd ai3 v_66.toNatClampNeg v_74) := ⟨_, rfl⟩
                obtain ⟨hP, hD⟩ : s3_w (dC, dI) classes A [(st, .inr (9, [.ref st_open, .ref st_speed, .ref st_fallen, .ref st_fire, .int st_mark, .int st_moreIn, .int st_more, .ref bk])), (fw_hindrance, .inl (k_fw_hindrance, 14, .inr (.inl f_fw_hindrance))), (fw_pull, .inl (k_fw_pull, 14, .inr (.inl f_fw_pull))), (fw_droop, .inl (k_fw_droop, 14, .inr (.inl f_fw_droop))), (st_fallen, .inl (k_st_fallen, 14, .inl f_st_fallen)), (fw_air, .inl (k_fw_air, 14, .inl f_75)), (fw_cause, .inl (k_fw_cause, 10, .inl f_fw_cause)), (bk, .inr (0, [.int (nI bw), .ref bk_tail, .ref bk_head, .ref bk_hinder, .ref bk_size, .ref bk_walk, .ref bk_draught, .ref bk_doorIn, .ref bk_fanIn, .ref bk_faceIn, .int (nI bn), .int bk_day, .ref gr])), (bk_tail, .inl (k_bk_tail, 14, .inl f_bk_tail)), (bk_head, .inl (k_bk_head, 14, .inl f_bk_head)), (fw, .inr (2, [.ref fw_air, .ref bk, .ref st, .ref fw_hindrance, .ref fw_pull, .ref fw_droop, .ref fw_forth, .ref fw_back, .ref fw_label, .ref fw_cause, .ref fw_seen, .ref fw_round])), (fw_forth, .inl (k_fw_forth, 14, .inr (.inl fo3))), (fw_back, .inl (k_fw_back, 14, .inr (.inl ba3))), (fw_round, .inl (k_fw_round, 10, .inl f_42))] H := ⟨(by rw [ef_75]; exact hP), (by rw [ef_75]; exact hD)⟩
                refine lv_aload_n hx hb dX2_followRound_134 rfl (lv_at hl 1 rfl) ?_
                refine lv_iload hx hb dX2_followRound_135 (lv_at hl 0 rfl) ?_
                refine lv_iload_n hx hb dX2_followRound_137 rfl (lv_at hl 2 rfl) ?_
                obtain ⟨hPc, hDc, hFc⟩ := s3_c (ws' := [(fw, .inr (2, [.ref fw_air, .ref bk, .ref st, .ref fw_hindrance, .ref fw_pull, .ref fw_droop, .ref fw_forth, .ref fw_back, .ref fw_label, .ref fw_cause, .ref fw_seen, .ref fw_round])), (st, .inr (9, [.ref st_open, .ref st_speed, .ref st_fallen, .ref st_fire, .int st_mark, .int st_moreIn, .int st_more, .ref bk])), (fw_hindrance, .inl (k_fw_hindrance, 14, .inr (.inl f_fw_hindrance))), (fw_pull, .inl (k_fw_pull, 14, .inr (.inl f_fw_pull))), (fw_droop, .inl (k_fw_droop, 14, .inr (.inl f_fw_droop))), (st_fallen, .inl (k_st_fallen, 14, .inl f_st_fallen)), (fw_air, .inl (k_fw_air, 14, .inl f_75)), (fw_forth, .inl (k_fw_forth, 14, .inr (.inl fo3))), (fw_back, .inl (k_fw_back, 14, .inr (.inl ba3)))]) [10, 0, 1, 2, 3, 4, 5, 11, 12] hP hD hS hA rfl (by decide)
                have hKc := hK.sub (tys' := [(k_fw_hindrance, .long), (k_fw_pull, .long), (k_fw_droop, .long), (k_st_fallen, .boolean), (k_fw_air, .int), (k_fw_forth, .long), (k_fw_back, .long)]) [0, 1, 2, 3, 4, 5, 6] rfl
                refine va_callv (va_runV (As := [.int v_66, .int sp0]) (rest := []) ⟨hx, hb, hml, hown, hts⟩ (c2_rate l dC dI n0 atx H.size fw fw_air bk st fw_hindrance fw_pull fw_droop fw_forth fw_back fw_label fw_cause fw_seen fw_round st_open st_speed st_fallen st_fire st_mark st_moreIn st_more k_fw_hindrance f_fw_hindrance k_fw_pull f_fw_pull k_fw_droop f_fw_droop k_st_fallen f_st_fallen k_fw_air f_75 k_fw_forth fo3 k_fw_back ba3 v_66 sp0 (by rw [ev_66]; exact half_in (by omega))) (cwV 2 hts (gV (fun w h => wM_c h) wd_1023 wd_1020 wd_1022 wd_31 wd_120) rfl rfl rfl (by decide +kernel) ⟨Nat.le_of_ble_eq_true rfl, Nat.le_of_ble_eq_true rfl⟩) ⟨fun a U g mk q => by obtain ⟨q0, q1, q2, qG, qP, qK, qD⟩ := q; exact ⟨q0, q1, q2, GW.blind qG, qP, va_K.moved (u := U) (U := U.calling g mk a) (Vm.Alike.refl U.vm) qK, qD⟩, va_recv hKc hPc (ci := 2) (q0 := 0) rfl rfl, fun U hU hW => ⟨rfl, by rw [hU], Nat.le_trans hn0 hS.1, GW.go hW hU hG (fun q hq hA9 => hS.2.1 q hq (fun h => hA9 (hA0 q h))), by rw [hU]; exact hPc, va_K.moved hW.alike hKc, hDc.weaken (fun _ _ _ h => hA0 _ h)⟩⟩ rfl rfl hl.1 rfl (lv_room (Nat.le_of_ble_eq_true rfl)) dX2_followRound_138 ⟨Nat.le_of_ble_eq_true rfl, Nat.le_of_ble_eq_true rfl⟩) hS (fun q _ h => hFc q h) hFc (fun u t H1 locs ht hvm hw_77 hB hz1 hk1 hS => ?_)
                obtain ⟨fo9_78, ba9_79, hP1, hK1, hD1⟩ := hB
                rw [ht] at hP1
                obtain ⟨hP, hD⟩ := s3_j (L := [(fw_cause, .inl (k_fw_cause, 10, .inl f_fw_cause)), (bk, .inr (0, [.int (nI bw), .ref bk_tail, .ref bk_head, .ref bk_hinder, .ref bk_size, .ref bk_walk, .ref bk_draught, .ref bk_doorIn, .ref bk_fanIn, .ref bk_faceIn, .int (nI bn), .int bk_day, .ref gr])), (bk_tail, .inl (k_bk_tail, 14, .inl f_bk_tail)), (bk_head, .inl (k_bk_head, 14, .inl f_bk_head)), (fw_round, .inl (k_fw_round, 10, .inl f_42)), (fw, .inr (2, [.ref fw_air, .ref bk, .ref st, .ref fw_hindrance, .ref fw_pull, .ref fw_droop, .ref fw_forth, .ref fw_back, .ref fw_label, .ref fw_cause, .ref fw_seen, .ref fw_round])), (st, .inr (9, [.ref st_open, .ref st_speed, .ref st_fallen, .ref st_fire, .int st_mark, .int st_moreIn, .int st_more, .ref bk])), (fw_hindrance, .inl (k_fw_hindrance, 14, .inr (.inl f_fw_hindrance))), (fw_pull, .inl (k_fw_pull, 14, .inr (.inl f_fw_pull))), (fw_droop, .inl (k_fw_droop, 14, .inr (.inl f_fw_droop))), (st_fallen, .inl (k_st_fallen, 14, .inl f_st_fallen)), (fw_air, .inl (k_fw_air, 14, .inl f_75)), (fw_forth, .inl (k_fw_forth, 14, .inr (.inl fo9_78))), (fw_back, .inl (k_fw_back, 14, .inr (.inl ba9_79)))]) 5 hP hD [10, 0, 1, 2, 3, 4, 5, 11, 12] [6, 7, 8, 9, 13] hk1 hFc hP1 hD1 rfl rfl rfl (by decide) (by decide)
                generalize H1 = H at hP hS ⊢
                refine lv_iinc (v := (nI (j3 + 1))) (lv' := [(6, .int (nI (j3 + 1))), (7, .int v_66), (0, .ref fw), (2, .int sp0), (3, .int (nI l2)), (5, .int (nI i2))]) hx hb dX2_followRound_141 hl (k := 5) rfl (nI_add _ 1) (by decide) rfl (fun ls hl => ?_)
                refine lv_goto (tgt := 89) hx hb dX2_followRound_144 (by decide) ?_
                exact ih_60 (j3 + 1) f_75 fo9_78 ba9_79 _ _ _ ⟨(by first | with_reducible assumption | omega | exact vp_in_iff.mpr (by omega) | exact vp_in_nI (by omega) (by omega) | exact ⟨by omega, by omega⟩), hP.sub [6, 7, 8, 9, 10, 11, 0, 1, 2, 3, 5, 12, 13, 4] rfl, hD.sub [6, 7, 8, 9, 10, 11, 0, 1, 2, 3, 5, 12, 13, 4] (by decide) rfl, hS, lv_sub hl [2, 3, 4, 5, 0] rfl⟩ (by omega)
              · skip
                have g_80 : v_70.toInt = (0 : Int) := i_eq c_71
                refine lv_iload_n hx hb dX2_followRound_126 rfl (lv_at hl 2 rfl) ?_
                refine lv_goto (tgt := 132) hx hb dX2_followRound_127 (by decide) ?_
                refine lv_iadd hx hb dX2_followRound_132 ?_
                refine lv_topi (fun v_81 ev_81 => ?_)
                refine va_iast hx hb hK hP hD hS 5 4 rfl rfl (by rw [ev_66]; exact half_in (by omega)) dX2_followRound_133 (fun H locs hP hD hS => ?_)
                obtain ⟨f_82, ef_82⟩ : ∃ f9, f9 = (upd ai3 v_66.toNatClampNeg v_81) := ⟨_, rfl⟩
                obtain ⟨hP, hD⟩ : s3_w (dC, dI) classes A [(st, .inr (9, [.ref st_open, .ref st_speed, .ref st_fallen, .ref st_fire, .int st_mark, .int st_moreIn, .int st_more, .ref bk])), (fw_hindrance, .inl (k_fw_hindrance, 14, .inr (.inl f_fw_hindrance))), (fw_pull, .inl (k_fw_pull, 14, .inr (.inl f_fw_pull))), (fw_droop, .inl (k_fw_droop, 14, .inr (.inl f_fw_droop))), (st_fallen, .inl (k_st_fallen, 14, .inl f_st_fallen)), (fw_air, .inl (k_fw_air, 14, .inl f_82)), (fw_cause, .inl (k_fw_cause, 10, .inl f_fw_cause)), (bk, .inr (0, [.int (nI bw), .ref bk_tail, .ref bk_head, .ref bk_hinder, .ref bk_size, .ref bk_walk, .ref bk_draught, .ref bk_doorIn, .ref bk_fanIn, .ref bk_faceIn, .int (nI bn), .int bk_day, .ref gr])), (bk_tail, .inl (k_bk_tail, 14, .inl f_bk_tail)), (bk_head, .inl (k_bk_head, 14, .inl f_bk_head)), (fw, .inr (2, [.ref fw_air, .ref bk, .ref st, .ref fw_hindrance, .ref fw_pull, .ref fw_droop, .ref fw_forth, .ref fw_back, .ref fw_label, .ref fw_cause, .ref fw_seen, .ref fw_round])), (fw_forth, .inl (k_fw_forth, 14, .inr (.inl fo3))), (fw_back, .inl (k_fw_back, 14, .inr (.inl ba3))), (fw_round, .inl (k_fw_round, 10, .inl f_42))] H := ⟨(by rw [ef_82]; exact hP), (by rw [ef_82]; exact hD)⟩
                refine lv_aload_n hx hb dX2_followRound_134 rfl (lv_at hl 1 rfl) ?_
                refine lv_iload hx hb dX2_followRound_135 (lv_at hl 0 rfl) ?_
                refine lv_iload_n hx hb dX2_followRound_137 rfl (lv_at hl 2 rfl) ?_
                obtain ⟨hPc, hDc, hFc⟩ := s3_c (ws' := [(fw, .inr (2, [.ref fw_air, .ref bk, .ref st, .ref fw_hindrance, .ref fw_pull, .ref fw_droop, .ref fw_forth, .ref fw_back, .ref fw_label, .ref fw_cause, .ref fw_seen, .ref fw_round])), (st, .inr (9, [.ref st_open, .ref st_speed, .ref st_fallen, .ref st_fire, .int st_mark, .int st_moreIn, .int st_more, .ref bk])), (fw_hindrance, .inl (k_fw_hindrance, 14, .inr (.inl f_fw_hindrance))), (fw_pull, .inl (k_fw_pull, 14, .inr (.inl f_fw_pull))), (fw_droop, .inl (k_fw_droop, 14, .inr (.inl f_fw_droop))), (st_fallen, .inl (k_st_fallen, 14, .inl f_st_fallen)), (fw_air, .inl (k_fw_air, 14, .inl f_82)), (fw_forth, .inl (k_fw_forth, 14, .inr (.inl fo3))), (fw_back, .inl (k_fw_back, 14, .inr (.inl ba3)))]) [10, 0, 1, 2, 3, 4, 5, 11, 12] hP hD hS hA rfl (by decide)
                have hKc := hK.sub (tys' := [(k_fw_hindrance, .long), (k_fw_pull, .long), (k_fw_droop, .long), (k_st_fallen, .boolean), (k_fw_air, .int), (k_fw_forth, .long), (k_fw_back, .long)]) [0, 1, 2, 3, 4, 5, 6] rfl
                refine va_callv (va_runV (As := [.int v_66, .int sp0]) (rest := []) ⟨hx, hb, hml, hown, hts⟩ (c2_rate l dC dI n0 atx H.size fw fw_air bk st fw_hindrance fw_pull fw_droop fw_forth fw_back fw_label fw_cause fw_seen fw_round st_open st_speed st_fallen st_fire st_mark st_moreIn st_more k_fw_hindrance f_fw_hindrance k_fw_pull f_fw_pull k_fw_droop f_fw_droop k_st_fallen f_st_fallen k_fw_air f_82 k_fw_forth fo3 k_fw_back ba3 v_66 sp0 (by rw [ev_66]; exact half_in (by omega))) (cwV 2 hts (gV (fun w h => wM_c h) wd_1023 wd_1020 wd_1022 wd_31 wd_120) rfl rfl rfl (by decide +kernel) ⟨Nat.le_of_ble_eq_true rfl, Nat.le_of_ble_eq_true rfl⟩) ⟨fun a U g mk q => by obtain ⟨q0, q1, q2, qG, qP, qK, qD⟩ := q; exact ⟨q0, q1, q2, GW.blind qG, qP, va_K.moved (u := U) (U := U.calling g mk a) (Vm.Alike.refl U.vm) qK, qD⟩, va_recv hKc hPc (ci := 2) (q0 := 0) rfl rfl, fun U hU hW => ⟨rfl, by rw [hU], Nat.le_trans hn0 hS.1, GW.go hW hU hG (fun q hq hA9 => hS.2.1 q hq (fun h => hA9 (hA0 q h))), by rw [hU]; exact hPc, va_K.moved hW.alike hKc, hDc.weaken (fun _ _ _ h => hA0 _ h)⟩⟩ rfl rfl hl.1 rfl (lv_room (Nat.le_of_ble_eq_true rfl)) dX2_followRound_138 ⟨Nat.le_of_ble_eq_true rfl, Nat.le_of_ble_eq_true rfl⟩) hS (fun q _ h => hFc q h) hFc (fun u t H1 locs ht hvm hw_84 hB hz1 hk1 hS => ?_)
                obtain ⟨fo9_85, ba9_86, hP1, hK1, hD1⟩ := hB
                rw [ht] at hP1
                obtain ⟨hP, hD⟩ := s3_j (L := [(fw_cause, .inl (k_fw_cause, 10, .inl f_fw_cause)), (bk, .inr (0, [.int (nI bw), .ref bk_tail, .ref bk_head, .ref bk_hinder, .ref bk_size, .ref bk_walk, .ref bk_draught, .ref bk_doorIn, .ref bk_fanIn, .ref bk_faceIn, .int (nI bn), .int bk_day, .ref gr])), (bk_tail, .inl (k_bk_tail, 14, .inl f_bk_tail)), (bk_head, .inl (k_bk_head, 14, .inl f_bk_head)), (fw_round, .inl (k_fw_round, 10, .inl f_42)), (fw, .inr (2, [.ref fw_air, .ref bk, .ref st, .ref fw_hindrance, .ref fw_pull, .ref fw_droop, .ref fw_forth, .ref fw_back, .ref fw_label, .ref fw_cause, .ref fw_seen, .ref fw_round])), (st, .inr (9, [.ref st_open, .ref st_speed, .ref st_fallen, .ref st_fire, .int st_mark, .int st_moreIn, .int st_more, .ref bk])), (fw_hindrance, .inl (k_fw_hindrance, 14, .inr (.inl f_fw_hindrance))), (fw_pull, .inl (k_fw_pull, 14, .inr (.inl f_fw_pull))), (fw_droop, .inl (k_fw_droop, 14, .inr (.inl f_fw_droop))), (st_fallen, .inl (k_st_fallen, 14, .inl f_st_fallen)), (fw_air, .inl (k_fw_air, 14, .inl f_82)), (fw_forth, .inl (k_fw_forth, 14, .inr (.inl fo9_85))), (fw_back, .inl (k_fw_back, 14, .inr (.inl ba9_86)))]) 5 hP hD [10, 0, 1, 2, 3, 4, 5, 11, 12] [6, 7, 8, 9, 13] hk1 hFc hP1 hD1 rfl rfl rfl (by decide) (by decide)
                generalize H1 = H at hP hS ⊢
                refine lv_iinc (v := (nI (j3 + 1))) (lv' := [(6, .int (nI (j3 + 1))), (7, .int v_66), (0, .ref fw), (2, .int sp0), (3, .int (nI l2)), (5, .int (nI i2))]) hx hb dX2_followRound_141 hl (k := 5) rfl (nI_add _ 1) (by decide) rfl (fun ls hl => ?_)
                refine lv_goto (tgt := 89) hx hb dX2_followRound_144 (by decide) ?_
                exact ih_60 (j3 + 1) f_82 fo9_85 ba9_86 _ _ _ ⟨(by first | with_reducible assumption | omega | exact vp_in_iff.mpr (by omega) | exact vp_in_nI (by omega) (by omega) | exact ⟨by omega, by omega⟩), hP.sub [6, 7, 8, 9, 10, 11, 0, 1, 2, 3, 5, 12, 13, 4] rfl, hD.sub [6, 7, 8, 9, 10, 11, 0, 1, 2, 3, 5, 12, 13, 4] (by decide) rfl, hS, lv_sub hl [2, 3, 4, 5, 0] rfl⟩ (by omega)
          · exact absurd c_59 (by decide)
