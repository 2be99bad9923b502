theorem wd_40 : Cond.selects "MineAir$Load" (⟨"MineAir$Load", "countArrivals", "([I)V"⟩ : MethodName) (⟨"MineAir$Load", "countArrivals", "([I)V"⟩ : MethodName) ∈ wG := wG_of 40 (by decide +kernel) (by decide +kernel)
theorem wd_41 : Cond.selects "MineAir$Load" (⟨"MineAir$Load", "sendOn", "(I[I)V"⟩ : MethodName) (⟨"MineAir$Load", "sendOn", "(I[I)V"⟩ : MethodName) ∈ wG := wG_of 41 (by decide +kernel) (by decide +kernel)
theorem wd_42 : Cond.selects "MineAir$Load" (⟨"MineAir$Load", "share", "(I[II)V"⟩ : MethodName) (⟨"MineAir$Load", "share", "(I[II)V"⟩ : MethodName) ∈ wG := wG_of 42 (by decide +kernel) (by decide +kernel)
theorem wd_43 : Cond.selects "MineAir$Load" (⟨"MineAir$Load", "greatestRest", "()I"⟩ : MethodName) (⟨"MineAir$Load", "greatestRest", "()I"⟩ : MethodName) ∈ wG := wG_of 43 (by decide +kernel) (by decide +kernel)
theorem wd_115 : Cond.initialized "MineAir$Book" ∈ wG := wG_of 115 (by decide +kernel) (by decide +kernel)
theorem wd_121 : Cond.initialized "MineAir$Load" ∈ wG := wG_of 121 (by decide +kernel) (by decide +kernel)
theorem wd_204 : Cond.fieldLink "MineAir$Book" 84 "MineAir$Gear" "faceGas" "[I" ∈ wG := wG_of 204 (by decide +kernel) (by decide +kernel)
theorem wd_242 : Cond.fieldLink "MineAir$Load" 52 "MineAir$Book" "ways" "I" ∈ wG := wG_of 242 (by decide +kernel) (by decide +kernel)
theorem wd_246 : Cond.fieldLink "MineAir$Book" 9 "MineAir$Book" "tail" "[I" ∈ wG := wG_of 246 (by decide +kernel) (by decide +kernel)
theorem wd_251 : Cond.fieldLink "MineAir$Book" 15 "MineAir$Book" "head" "[I" ∈ wG := wG_of 251 (by decide +kernel) (by decide +kernel)
theorem wd_280 : Cond.fieldLink "MineAir$Book" 36 "MineAir$Book" "faceIn" "[I" ∈ wG := wG_of 280 (by decide +kernel) (by decide +kernel)
theorem wd_284 : Cond.fieldLink "MineAir$Load" 32 "MineAir$Book" "knots" "I" ∈ wG := wG_of 284 (by decide +kernel) (by decide +kernel)
theorem wd_289 : Cond.fieldLink "MineAir$Load" 63 "MineAir$Book" "day" "I" ∈ wG := wG_of 289 (by decide +kernel) (by decide +kernel)
theorem wd_293 : Cond.fieldLink "MineAir$Book" 46 "MineAir$Book" "gear" "LMineAir$Gear;" ∈ wG := wG_of 293 (by decide +kernel) (by decide +kernel)
theorem wd_489 : Cond.fieldLink "MineAir$Load" 9 "MineAir$Load" "gas" "[I" ∈ wG := wG_of 489 (by decide +kernel) (by decide +kernel)
theorem wd_492 : Cond.fieldLink "MineAir$Load" 42 "MineAir$Load" "ringed" "Z" ∈ wG := wG_of 492 (by decide +kernel) (by decide +kernel)
theorem wd_495 : Cond.fieldLink "MineAir$Load" 24 "MineAir$Load" "book" "LMineAir$Book;" ∈ wG := wG_of 495 (by decide +kernel) (by decide +kernel)
theorem wd_496 : Cond.fieldLink "MineAir$Load" 15 "MineAir$Load" "coming" "[I" ∈ wG := wG_of 496 (by decide +kernel) (by decide +kernel)
theorem wd_497 : Cond.fieldLink "MineAir$Load" 18 "MineAir$Load" "waiting" "[I" ∈ wG := wG_of 497 (by decide +kernel) (by decide +kernel)
theorem wd_498 : Cond.fieldLink "MineAir$Load" 21 "MineAir$Load" "rest" "[I" ∈ wG := wG_of 498 (by decide +kernel) (by decide +kernel)
theorem wd_1100 : Cond.methodLink "MineAir$Load" 28 (⟨"MineAir$Load", "countArrivals", "([I)V"⟩ : MethodName) ∈ wG := wG_of 1100 (by decide +kernel) (by decide +kernel)
theorem wd_1102 : Cond.instanceMethod (⟨"MineAir$Load", "countArrivals", "([I)V"⟩ : MethodName) ∈ wG := wG_of 1102 (by decide +kernel) (by decide +kernel)
theorem wd_1103 : Cond.code (⟨"MineAir$Load", "countArrivals", "([I)V"⟩ : MethodName) prog_7_method_3_code 4 (Option.none : Option Jvm.ClassFile.FieldType) ∈ wG := wG_of 1103 (by decide +kernel) (by decide +kernel)
theorem wd_1104 : Cond.methodLink "MineAir$Load" 46 (⟨"java/util/Arrays", "fill", "([II)V"⟩ : MethodName) ∈ wG := wG_of 1104 (by decide +kernel) (by decide +kernel)
theorem wd_1105 : Cond.methodLink "MineAir$Load" 55 (⟨"MineAir$Book", "faceGasIn", "(I)I"⟩ : MethodName) ∈ wG := wG_of 1105 (by decide +kernel) (by decide +kernel)
theorem wd_1106 : Cond.instanceMethod (⟨"MineAir$Book", "faceGasIn", "(I)I"⟩ : MethodName) ∈ wG := wG_of 1106 (by decide +kernel) (by decide +kernel)
theorem wd_1107 : Cond.selects "MineAir$Book" (⟨"MineAir$Book", "faceGasIn", "(I)I"⟩ : MethodName) (⟨"MineAir$Book", "faceGasIn", "(I)I"⟩ : MethodName) ∈ wG := wG_of 1107 (by decide +kernel) (by decide +kernel)
theorem wd_1108 : Cond.code (⟨"MineAir$Book", "faceGasIn", "(I)I"⟩ : MethodName) prog_2_method_6_code 3 (Option.some Jvm.ClassFile.FieldType.int) ∈ wG := wG_of 1108 (by decide +kernel) (by decide +kernel)
theorem wd_1109 : Cond.methodLink "MineAir$Load" 59 (⟨"MineAir$Book", "endOf", "(II)I"⟩ : MethodName) ∈ wG := wG_of 1109 (by decide +kernel) (by decide +kernel)
theorem wd_1110 : Cond.instanceMethod (⟨"MineAir$Book", "endOf", "(II)I"⟩ : MethodName) ∈ wG := wG_of 1110 (by decide +kernel) (by decide +kernel)
theorem wd_1111 : Cond.selects "MineAir$Book" (⟨"MineAir$Book", "endOf", "(II)I"⟩ : MethodName) (⟨"MineAir$Book", "endOf", "(II)I"⟩ : MethodName) ∈ wG := wG_of 1111 (by decide +kernel) (by decide +kernel)
theorem wd_1112 : Cond.code (⟨"MineAir$Book", "endOf", "(II)I"⟩ : MethodName) prog_2_method_5_code 3 (Option.some Jvm.ClassFile.FieldType.int) ∈ wG := wG_of 1112 (by decide +kernel) (by decide +kernel)
theorem wd_1113 : Cond.methodLink "MineAir$Load" 38 (⟨"MineAir$Load", "sendOn", "(I[I)V"⟩ : MethodName) ∈ wG := wG_of 1113 (by decide +kernel) (by decide +kernel)
theorem wd_1115 : Cond.instanceMethod (⟨"MineAir$Load", "sendOn", "(I[I)V"⟩ : MethodName) ∈ wG := wG_of 1115 (by decide +kernel) (by decide +kernel)
theorem wd_1116 : Cond.code (⟨"MineAir$Load", "sendOn", "(I[I)V"⟩ : MethodName) prog_7_method_4_code 6 (Option.none : Option Jvm.ClassFile.FieldType) ∈ wG := wG_of 1116 (by decide +kernel) (by decide +kernel)
theorem wd_1117 : Cond.methodLink "MineAir$Load" 66 (⟨"MineAir$Book", "startOf", "(II)I"⟩ : MethodName) ∈ wG := wG_of 1117 (by decide +kernel) (by decide +kernel)
theorem wd_1118 : Cond.instanceMethod (⟨"MineAir$Book", "startOf", "(II)I"⟩ : MethodName) ∈ wG := wG_of 1118 (by decide +kernel) (by decide +kernel)
theorem wd_1119 : Cond.selects "MineAir$Book" (⟨"MineAir$Book", "startOf", "(II)I"⟩ : MethodName) (⟨"MineAir$Book", "startOf", "(II)I"⟩ : MethodName) ∈ wG := wG_of 1119 (by decide +kernel) (by decide +kernel)
theorem wd_1120 : Cond.code (⟨"MineAir$Book", "startOf", "(II)I"⟩ : MethodName) prog_2_method_4_code 3 (Option.some Jvm.ClassFile.FieldType.int) ∈ wG := wG_of 1120 (by decide +kernel) (by decide +kernel)
theorem wd_1121 : Cond.methodLink "MineAir$Load" 69 (⟨"java/lang/Math", "abs", "(I)I"⟩ : MethodName) ∈ wG := wG_of 1121 (by decide +kernel) (by decide +kernel)
theorem wd_1122 : Cond.static (⟨"java/lang/Math", "abs", "(I)I"⟩ : MethodName) ∈ wG := wG_of 1122 (by decide +kernel) (by decide +kernel)
theorem wd_1124 : Cond.methodLink "MineAir$Load" 74 (⟨"MineAir$Load", "share", "(I[II)V"⟩ : MethodName) ∈ wG := wG_of 1124 (by decide +kernel) (by decide +kernel)
theorem wd_1126 : Cond.instanceMethod (⟨"MineAir$Load", "share", "(I[II)V"⟩ : MethodName) ∈ wG := wG_of 1126 (by decide +kernel) (by decide +kernel)
theorem wd_1127 : Cond.code (⟨"MineAir$Load", "share", "(I[II)V"⟩ : MethodName) prog_7_method_5_code 8 (Option.none : Option Jvm.ClassFile.FieldType) ∈ wG := wG_of 1127 (by decide +kernel) (by decide +kernel)
theorem wd_1128 : Cond.methodLink "MineAir$Load" 78 (⟨"MineAir$Load", "greatestRest", "()I"⟩ : MethodName) ∈ wG := wG_of 1128 (by decide +kernel) (by decide +kernel)
theorem wd_1130 : Cond.instanceMethod (⟨"MineAir$Load", "greatestRest", "()I"⟩ : MethodName) ∈ wG := wG_of 1130 (by decide +kernel) (by decide +kernel)
theorem wd_1131 : Cond.code (⟨"MineAir$Load", "greatestRest", "()I"⟩ : MethodName) prog_7_method_6_code 3 (Option.some Jvm.ClassFile.FieldType.int) ∈ wG := wG_of 1131 (by decide +kernel) (by decide +kernel)
theorem dX0_endOf_0 : decode cX0_endOf 0 = .ok (.iload_n 2, 1) := by decide +kernel
theorem dX0_endOf_1 : decode cX0_endOf 1 = .ok (.ifCond .le 12, 3) := by decide +kernel
theorem dX0_endOf_4 : decode cX0_endOf 4 = .ok (.aload_n 0, 1) := by decide +kernel
theorem dX0_endOf_5 : decode cX0_endOf 5 = .ok (.getfield 15, 3) := by decide +kernel
theorem dX0_endOf_8 : decode cX0_endOf 8 = .ok (.iload_n 1, 1) := by decide +kernel
theorem dX0_endOf_9 : decode cX0_endOf 9 = .ok (.iaload, 1) := by decide +kernel
theorem dX0_endOf_10 : decode cX0_endOf 10 = .ok (.goto 9, 3) := by decide +kernel
theorem dX0_endOf_13 : decode cX0_endOf 13 = .ok (.aload_n 0, 1) := by decide +kernel
theorem dX0_endOf_14 : decode cX0_endOf 14 = .ok (.getfield 9, 3) := by decide +kernel
theorem dX0_endOf_17 : decode cX0_endOf 17 = .ok (.iload_n 1, 1) := by decide +kernel
theorem dX0_endOf_18 : decode cX0_endOf 18 = .ok (.iaload, 1) := by decide +kernel
theorem dX0_endOf_19 : decode cX0_endOf 19 = .ok (.ireturn, 1) := by decide +kernel
theorem dX0_faceGasIn_0 : decode cX0_faceGasIn 0 = .ok (.aload_n 0, 1) := by decide +kernel
theorem dX0_faceGasIn_1 : decode cX0_faceGasIn 1 = .ok (.getfield 36, 3) := by decide +kernel
theorem dX0_faceGasIn_4 : decode cX0_faceGasIn 4 = .ok (.iload_n 1, 1) := by decide +kernel
theorem dX0_faceGasIn_5 : decode cX0_faceGasIn 5 = .ok (.iaload, 1) := by decide +kernel
theorem dX0_faceGasIn_6 : decode cX0_faceGasIn 6 = .ok (.istore_n 2, 1) := by decide +kernel
theorem dX0_faceGasIn_7 : decode cX0_faceGasIn 7 = .ok (.iload_n 2, 1) := by decide +kernel
theorem dX0_faceGasIn_8 : decode cX0_faceGasIn 8 = .ok (.iconst (-1), 1) := by decide +kernel
theorem dX0_faceGasIn_9 : decode cX0_faceGasIn 9 = .ok (.if_icmp .ne 7, 3) := by decide +kernel
theorem dX0_faceGasIn_12 : decode cX0_faceGasIn 12 = .ok (.iconst 0, 1) := by decide +kernel
theorem dX0_faceGasIn_13 : decode cX0_faceGasIn 13 = .ok (.goto 12, 3) := by decide +kernel
theorem dX0_faceGasIn_16 : decode cX0_faceGasIn 16 = .ok (.aload_n 0, 1) := by decide +kernel
theorem dX0_faceGasIn_17 : decode cX0_faceGasIn 17 = .ok (.getfield 46, 3) := by decide +kernel
theorem dX0_faceGasIn_20 : decode cX0_faceGasIn 20 = .ok (.getfield 84, 3) := by decide +kernel
theorem dX0_faceGasIn_23 : decode cX0_faceGasIn 23 = .ok (.iload_n 2, 1) := by decide +kernel
theorem dX0_faceGasIn_24 : decode cX0_faceGasIn 24 = .ok (.iaload, 1) := by decide +kernel
theorem dX0_faceGasIn_25 : decode cX0_faceGasIn 25 = .ok (.ireturn, 1) := by decide +kernel
theorem dX0_startOf_0 : decode cX0_startOf 0 = .ok (.iload_n 2, 1) := by decide +kernel
theorem dX0_startOf_1 : decode cX0_startOf 1 = .ok (.ifCond .le 12, 3) := by decide +kernel
theorem dX0_startOf_4 : decode cX0_startOf 4 = .ok (.aload_n 0, 1) := by decide +kernel
theorem dX0_startOf_5 : decode cX0_startOf 5 = .ok (.getfield 9, 3) := by decide +kernel
theorem dX0_startOf_8 : decode cX0_startOf 8 = .ok (.iload_n 1, 1) := by decide +kernel
theorem dX0_startOf_9 : decode cX0_startOf 9 = .ok (.iaload, 1) := by decide +kernel
theorem dX0_startOf_10 : decode cX0_startOf 10 = .ok (.goto 9, 3) := by decide +kernel
theorem dX0_startOf_13 : decode cX0_startOf 13 = .ok (.aload_n 0, 1) := by decide +kernel
theorem dX0_startOf_14 : decode cX0_startOf 14 = .ok (.getfield 15, 3) := by decide +kernel
theorem dX0_startOf_17 : decode cX0_startOf 17 = .ok (.iload_n 1, 1) := by decide +kernel
theorem dX0_startOf_18 : decode cX0_startOf 18 = .ok (.iaload, 1) := by decide +kernel
theorem dX0_startOf_19 : decode cX0_startOf 19 = .ok (.ireturn, 1) := by decide +kernel
theorem dX5_carry_0 : decode cX5_carry 0 = .ok (.aload_n 0, 1) := by decide +kernel
theorem dX5_carry_1 : decode cX5_carry 1 = .ok (.aload_n 1, 1) := by decide +kernel
theorem dX5_carry_2 : decode cX5_carry 2 = .ok (.invokevirtual 28, 3) := by decide +kernel
theorem dX5_carry_5 : decode cX5_carry 5 = .ok (.iconst 1, 1) := by decide +kernel
theorem dX5_carry_6 : decode cX5_carry 6 = .ok (.istore_n 2, 1) := by decide +kernel
theorem dX5_carry_7 : decode cX5_carry 7 = .ok (.iconst 0, 1) := by decide +kernel
theorem dX5_carry_8 : decode cX5_carry 8 = .ok (.istore_n 3, 1) := by decide +kernel
theorem dX5_carry_9 : decode cX5_carry 9 = .ok (.iload_n 3, 1) := by decide +kernel
theorem dX5_carry_10 : decode cX5_carry 10 = .ok (.aload_n 0, 1) := by decide +kernel
theorem dX5_carry_11 : decode cX5_carry 11 = .ok (.getfield 24, 3) := by decide +kernel
theorem dX5_carry_14 : decode cX5_carry 14 = .ok (.getfield 32, 3) := by decide +kernel
theorem dX5_carry_17 : decode cX5_carry 17 = .ok (.if_icmp .gt 66, 3) := by decide +kernel
theorem dX5_carry_20 : decode cX5_carry 20 = .ok (.iload_n 2, 1) := by decide +kernel
theorem dX5_carry_21 : decode cX5_carry 21 = .ok (.ifCond .eq 62, 3) := by decide +kernel
theorem dX5_carry_24 : decode cX5_carry 24 = .ok (.iconst 0, 1) := by decide +kernel
theorem dX5_carry_25 : decode cX5_carry 25 = .ok (.istore_n 2, 1) := by decide +kernel
theorem dX5_carry_26 : decode cX5_carry 26 = .ok (.iconst 0, 1) := by decide +kernel
theorem dX5_carry_27 : decode cX5_carry 27 = .ok (.istore 4, 2) := by decide +kernel
theorem dX5_carry_29 : decode cX5_carry 29 = .ok (.iload 4, 2) := by decide +kernel
theorem dX5_carry_31 : decode cX5_carry 31 = .ok (.aload_n 0, 1) := by decide +kernel
theorem dX5_carry_32 : decode cX5_carry 32 = .ok (.getfield 24, 3) := by decide +kernel
theorem dX5_carry_35 : decode cX5_carry 35 = .ok (.getfield 32, 3) := by decide +kernel
theorem dX5_carry_38 : decode cX5_carry 38 = .ok (.if_icmp .ge 39, 3) := by decide +kernel
theorem dX5_carry_41 : decode cX5_carry 41 = .ok (.aload_n 0, 1) := by decide +kernel
theorem dX5_carry_42 : decode cX5_carry 42 = .ok (.getfield 18, 3) := by decide +kernel
theorem dX5_carry_45 : decode cX5_carry 45 = .ok (.iload 4, 2) := by decide +kernel
theorem dX5_carry_47 : decode cX5_carry 47 = .ok (.iaload, 1) := by decide +kernel
theorem dX5_carry_48 : decode cX5_carry 48 = .ok (.ifCond .eq 6, 3) := by decide +kernel
theorem dX5_carry_51 : decode cX5_carry 51 = .ok (.goto 20, 3) := by decide +kernel
theorem dX5_carry_54 : decode cX5_carry 54 = .ok (.aload_n 0, 1) := by decide +kernel
theorem dX5_carry_55 : decode cX5_carry 55 = .ok (.getfield 18, 3) := by decide +kernel
theorem dX5_carry_58 : decode cX5_carry 58 = .ok (.iload 4, 2) := by decide +kernel
theorem dX5_carry_60 : decode cX5_carry 60 = .ok (.iconst (-1), 1) := by decide +kernel
theorem dX5_carry_61 : decode cX5_carry 61 = .ok (.iastore, 1) := by decide +kernel
theorem dX5_carry_62 : decode cX5_carry 62 = .ok (.aload_n 0, 1) := by decide +kernel
theorem dX5_carry_63 : decode cX5_carry 63 = .ok (.iload 4, 2) := by decide +kernel
theorem dX5_carry_65 : decode cX5_carry 65 = .ok (.aload_n 1, 1) := by decide +kernel
theorem dX5_carry_66 : decode cX5_carry 66 = .ok (.invokevirtual 38, 3) := by decide +kernel
theorem dX5_carry_69 : decode cX5_carry 69 = .ok (.iconst 1, 1) := by decide +kernel
theorem dX5_carry_70 : decode cX5_carry 70 = .ok (.istore_n 2, 1) := by decide +kernel
theorem dX5_carry_71 : decode cX5_carry 71 = .ok (.iinc 4 1, 3) := by decide +kernel
theorem dX5_carry_74 : decode cX5_carry 74 = .ok (.goto (-45), 3) := by decide +kernel
theorem dX5_carry_77 : decode cX5_carry 77 = .ok (.iinc 3 1, 3) := by decide +kernel
theorem dX5_carry_80 : decode cX5_carry 80 = .ok (.goto (-71), 3) := by decide +kernel
theorem dX5_carry_83 : decode cX5_carry 83 = .ok (.aload_n 0, 1) := by decide +kernel
theorem dX5_carry_84 : decode cX5_carry 84 = .ok (.iconst 0, 1) := by decide +kernel
theorem dX5_carry_85 : decode cX5_carry 85 = .ok (.putfield 42, 3) := by decide +kernel
theorem dX5_carry_88 : decode cX5_carry 88 = .ok (.iconst 0, 1) := by decide +kernel
theorem dX5_carry_89 : decode cX5_carry 89 = .ok (.istore_n 3, 1) := by decide +kernel
theorem dX5_carry_90 : decode cX5_carry 90 = .ok (.iload_n 3, 1) := by decide +kernel
theorem dX5_carry_91 : decode cX5_carry 91 = .ok (.aload_n 0, 1) := by decide +kernel
theorem dX5_carry_92 : decode cX5_carry 92 = .ok (.getfield 24, 3) := by decide +kernel
theorem dX5_carry_95 : decode cX5_carry 95 = .ok (.getfield 32, 3) := by decide +kernel
theorem dX5_carry_98 : decode cX5_carry 98 = .ok (.if_icmp .ge 24, 3) := by decide +kernel
theorem dX5_carry_101 : decode cX5_carry 101 = .ok (.aload_n 0, 1) := by decide +kernel
theorem dX5_carry_102 : decode cX5_carry 102 = .ok (.getfield 18, 3) := by decide +kernel
theorem dX5_carry_105 : decode cX5_carry 105 = .ok (.iload_n 3, 1) := by decide +kernel
theorem dX5_carry_106 : decode cX5_carry 106 = .ok (.iaload, 1) := by decide +kernel
theorem dX5_carry_107 : decode cX5_carry 107 = .ok (.iconst (-1), 1) := by decide +kernel
theorem dX5_carry_108 : decode cX5_carry 108 = .ok (.if_icmp .eq 8, 3) := by decide +kernel
theorem dX5_carry_111 : decode cX5_carry 111 = .ok (.aload_n 0, 1) := by decide +kernel
theorem dX5_carry_112 : decode cX5_carry 112 = .ok (.iconst 1, 1) := by decide +kernel
theorem dX5_carry_113 : decode cX5_carry 113 = .ok (.putfield 42, 3) := by decide +kernel
theorem dX5_carry_116 : decode cX5_carry 116 = .ok (.iinc 3 1, 3) := by decide +kernel
theorem dX5_carry_119 : decode cX5_carry 119 = .ok (.goto (-29), 3) := by decide +kernel
theorem dX5_carry_122 : decode cX5_carry 122 = .ok (.return_, 1) := by decide +kernel
theorem dX5_countArrivals_0 : decode cX5_countArrivals 0 = .ok (.aload_n 0, 1) := by decide +kernel
theorem dX5_countArrivals_1 : decode cX5_countArrivals 1 = .ok (.getfield 15, 3) := by decide +kernel
theorem dX5_countArrivals_4 : decode cX5_countArrivals 4 = .ok (.iconst 0, 1) := by decide +kernel
theorem dX5_countArrivals_5 : decode cX5_countArrivals 5 = .ok (.invokestatic 46, 3) := by decide +kernel
theorem dX5_countArrivals_8 : decode cX5_countArrivals 8 = .ok (.aload_n 0, 1) := by decide +kernel
theorem dX5_countArrivals_9 : decode cX5_countArrivals 9 = .ok (.getfield 18, 3) := by decide +kernel
theorem dX5_countArrivals_12 : decode cX5_countArrivals 12 = .ok (.iconst 0, 1) := by decide +kernel
theorem dX5_countArrivals_13 : decode cX5_countArrivals 13 = .ok (.invokestatic 46, 3) := by decide +kernel
theorem dX5_countArrivals_16 : decode cX5_countArrivals 16 = .ok (.iconst 0, 1) := by decide +kernel
theorem dX5_countArrivals_17 : decode cX5_countArrivals 17 = .ok (.istore_n 2, 1) := by decide +kernel
theorem dX5_countArrivals_18 : decode cX5_countArrivals 18 = .ok (.iload_n 2, 1) := by decide +kernel
theorem dX5_countArrivals_19 : decode cX5_countArrivals 19 = .ok (.aload_n 0, 1) := by decide +kernel
theorem dX5_countArrivals_20 : decode cX5_countArrivals 20 = .ok (.getfield 24, 3) := by decide +kernel
theorem dX5_countArrivals_23 : decode cX5_countArrivals 23 = .ok (.getfield 52, 3) := by decide +kernel
theorem dX5_countArrivals_26 : decode cX5_countArrivals 26 = .ok (.if_icmp .ge 65, 3) := by decide +kernel
theorem dX5_countArrivals_29 : decode cX5_countArrivals 29 = .ok (.aload_n 0, 1) := by decide +kernel
theorem dX5_countArrivals_30 : decode cX5_countArrivals 30 = .ok (.getfield 9, 3) := by decide +kernel
theorem dX5_countArrivals_33 : decode cX5_countArrivals 33 = .ok (.iload_n 2, 1) := by decide +kernel
theorem dX5_countArrivals_34 : decode cX5_countArrivals 34 = .ok (.aload_n 0, 1) := by decide +kernel
theorem dX5_countArrivals_35 : decode cX5_countArrivals 35 = .ok (.getfield 24, 3) := by decide +kernel
theorem dX5_countArrivals_38 : decode cX5_countArrivals 38 = .ok (.iload_n 2, 1) := by decide +kernel
theorem dX5_countArrivals_39 : decode cX5_countArrivals 39 = .ok (.invokevirtual 55, 3) := by decide +kernel
theorem dX5_countArrivals_42 : decode cX5_countArrivals 42 = .ok (.iastore, 1) := by decide +kernel
theorem dX5_countArrivals_43 : decode cX5_countArrivals 43 = .ok (.aload_n 1, 1) := by decide +kernel
theorem dX5_countArrivals_44 : decode cX5_countArrivals 44 = .ok (.iload_n 2, 1) := by decide +kernel
theorem dX5_countArrivals_45 : decode cX5_countArrivals 45 = .ok (.iaload, 1) := by decide +kernel
theorem dX5_countArrivals_46 : decode cX5_countArrivals 46 = .ok (.ifCond .ne 6, 3) := by decide +kernel
theorem dX5_countArrivals_49 : decode cX5_countArrivals 49 = .ok (.goto 36, 3) := by decide +kernel
theorem dX5_countArrivals_52 : decode cX5_countArrivals 52 = .ok (.aload_n 0, 1) := by decide +kernel
theorem dX5_countArrivals_53 : decode cX5_countArrivals 53 = .ok (.getfield 24, 3) := by decide +kernel
theorem dX5_countArrivals_56 : decode cX5_countArrivals 56 = .ok (.iload_n 2, 1) := by decide +kernel
theorem dX5_countArrivals_57 : decode cX5_countArrivals 57 = .ok (.aload_n 1, 1) := by decide +kernel
theorem dX5_countArrivals_58 : decode cX5_countArrivals 58 = .ok (.iload_n 2, 1) := by decide +kernel
theorem dX5_countArrivals_59 : decode cX5_countArrivals 59 = .ok (.iaload, 1) := by decide +kernel
theorem dX5_countArrivals_60 : decode cX5_countArrivals 60 = .ok (.invokevirtual 59, 3) := by decide +kernel
theorem dX5_countArrivals_63 : decode cX5_countArrivals 63 = .ok (.istore_n 3, 1) := by decide +kernel
theorem dX5_countArrivals_64 : decode cX5_countArrivals 64 = .ok (.iload_n 3, 1) := by decide +kernel
theorem dX5_countArrivals_65 : decode cX5_countArrivals 65 = .ok (.aload_n 0, 1) := by decide +kernel
theorem dX5_countArrivals_66 : decode cX5_countArrivals 66 = .ok (.getfield 24, 3) := by decide +kernel
theorem dX5_countArrivals_69 : decode cX5_countArrivals 69 = .ok (.getfield 63, 3) := by decide +kernel
theorem dX5_countArrivals_72 : decode cX5_countArrivals 72 = .ok (.if_icmp .eq 13, 3) := by decide +kernel
theorem dX5_countArrivals_75 : decode cX5_countArrivals 75 = .ok (.aload_n 0, 1) := by decide +kernel
theorem dX5_countArrivals_76 : decode cX5_countArrivals 76 = .ok (.getfield 18, 3) := by decide +kernel
theorem dX5_countArrivals_79 : decode cX5_countArrivals 79 = .ok (.iload_n 3, 1) := by decide +kernel
theorem dX5_countArrivals_80 : decode cX5_countArrivals 80 = .ok (.dup2, 1) := by decide +kernel
theorem dX5_countArrivals_81 : decode cX5_countArrivals 81 = .ok (.iaload, 1) := by decide +kernel
theorem dX5_countArrivals_82 : decode cX5_countArrivals 82 = .ok (.iconst 1, 1) := by decide +kernel
theorem dX5_countArrivals_83 : decode cX5_countArrivals 83 = .ok (.iadd, 1) := by decide +kernel
theorem dX5_countArrivals_84 : decode cX5_countArrivals 84 = .ok (.iastore, 1) := by decide +kernel
theorem dX5_countArrivals_85 : decode cX5_countArrivals 85 = .ok (.iinc 2 1, 3) := by decide +kernel
theorem dX5_countArrivals_88 : decode cX5_countArrivals 88 = .ok (.goto (-70), 3) := by decide +kernel
theorem dX5_countArrivals_91 : decode cX5_countArrivals 91 = .ok (.return_, 1) := by decide +kernel
theorem dX5_greatestRest_0 : decode cX5_greatestRest 0 = .ok (.iconst (-1), 1) := by decide +kernel
theorem dX5_greatestRest_1 : decode cX5_greatestRest 1 = .ok (.istore_n 1, 1) := by decide +kernel
theorem dX5_greatestRest_2 : decode cX5_greatestRest 2 = .ok (.iconst 0, 1) := by decide +kernel
theorem dX5_greatestRest_3 : decode cX5_greatestRest 3 = .ok (.istore_n 2, 1) := by decide +kernel
theorem dX5_greatestRest_4 : decode cX5_greatestRest 4 = .ok (.iload_n 2, 1) := by decide +kernel
theorem dX5_greatestRest_5 : decode cX5_greatestRest 5 = .ok (.aload_n 0, 1) := by decide +kernel
theorem dX5_greatestRest_6 : decode cX5_greatestRest 6 = .ok (.getfield 24, 3) := by decide +kernel
theorem dX5_greatestRest_9 : decode cX5_greatestRest 9 = .ok (.getfield 52, 3) := by decide +kernel
theorem dX5_greatestRest_12 : decode cX5_greatestRest 12 = .ok (.if_icmp .ge 41, 3) := by decide +kernel
theorem dX5_greatestRest_15 : decode cX5_greatestRest 15 = .ok (.aload_n 0, 1) := by decide +kernel
theorem dX5_greatestRest_16 : decode cX5_greatestRest 16 = .ok (.getfield 21, 3) := by decide +kernel
theorem dX5_greatestRest_19 : decode cX5_greatestRest 19 = .ok (.iload_n 2, 1) := by decide +kernel
theorem dX5_greatestRest_20 : decode cX5_greatestRest 20 = .ok (.iaload, 1) := by decide +kernel
theorem dX5_greatestRest_21 : decode cX5_greatestRest 21 = .ok (.iconst (-1), 1) := by decide +kernel
theorem dX5_greatestRest_22 : decode cX5_greatestRest 22 = .ok (.if_icmp .eq 25, 3) := by decide +kernel
theorem dX5_greatestRest_25 : decode cX5_greatestRest 25 = .ok (.iload_n 1, 1) := by decide +kernel
theorem dX5_greatestRest_26 : decode cX5_greatestRest 26 = .ok (.iconst (-1), 1) := by decide +kernel
theorem dX5_greatestRest_27 : decode cX5_greatestRest 27 = .ok (.if_icmp .eq 18, 3) := by decide +kernel
theorem dX5_greatestRest_30 : decode cX5_greatestRest 30 = .ok (.aload_n 0, 1) := by decide +kernel
theorem dX5_greatestRest_31 : decode cX5_greatestRest 31 = .ok (.getfield 21, 3) := by decide +kernel
theorem dX5_greatestRest_34 : decode cX5_greatestRest 34 = .ok (.iload_n 2, 1) := by decide +kernel
theorem dX5_greatestRest_35 : decode cX5_greatestRest 35 = .ok (.iaload, 1) := by decide +kernel
theorem dX5_greatestRest_36 : decode cX5_greatestRest 36 = .ok (.aload_n 0, 1) := by decide +kernel
theorem dX5_greatestRest_37 : decode cX5_greatestRest 37 = .ok (.getfield 21, 3) := by decide +kernel
theorem dX5_greatestRest_40 : decode cX5_greatestRest 40 = .ok (.iload_n 1, 1) := by decide +kernel
theorem dX5_greatestRest_41 : decode cX5_greatestRest 41 = .ok (.iaload, 1) := by decide +kernel
theorem dX5_greatestRest_42 : decode cX5_greatestRest 42 = .ok (.if_icmp .le 5, 3) := by decide +kernel
theorem dX5_greatestRest_45 : decode cX5_greatestRest 45 = .ok (.iload_n 2, 1) := by decide +kernel
theorem dX5_greatestRest_46 : decode cX5_greatestRest 46 = .ok (.istore_n 1, 1) := by decide +kernel
theorem dX5_greatestRest_47 : decode cX5_greatestRest 47 = .ok (.iinc 2 1, 3) := by decide +kernel
theorem dX5_greatestRest_50 : decode cX5_greatestRest 50 = .ok (.goto (-46), 3) := by decide +kernel
theorem dX5_greatestRest_53 : decode cX5_greatestRest 53 = .ok (.iload_n 1, 1) := by decide +kernel
theorem dX5_greatestRest_54 : decode cX5_greatestRest 54 = .ok (.ireturn, 1) := by decide +kernel
theorem dX5_sendOn_0 : decode cX5_sendOn 0 = .ok (.iconst 0, 1) := by decide +kernel
theorem dX5_sendOn_1 : decode cX5_sendOn 1 = .ok (.istore_n 3, 1) := by decide +kernel
theorem dX5_sendOn_2 : decode cX5_sendOn 2 = .ok (.iconst 0, 1) := by decide +kernel
theorem dX5_sendOn_3 : decode cX5_sendOn 3 = .ok (.istore 4, 2) := by decide +kernel
theorem dX5_sendOn_5 : decode cX5_sendOn 5 = .ok (.iload 4, 2) := by decide +kernel
theorem dX5_sendOn_7 : decode cX5_sendOn 7 = .ok (.aload_n 0, 1) := by decide +kernel
theorem dX5_sendOn_8 : decode cX5_sendOn 8 = .ok (.getfield 24, 3) := by decide +kernel
theorem dX5_sendOn_11 : decode cX5_sendOn 11 = .ok (.getfield 52, 3) := by decide +kernel
theorem dX5_sendOn_14 : decode cX5_sendOn 14 = .ok (.if_icmp .ge 59, 3) := by decide +kernel
theorem dX5_sendOn_17 : decode cX5_sendOn 17 = .ok (.aload_n 0, 1) := by decide +kernel
theorem dX5_sendOn_18 : decode cX5_sendOn 18 = .ok (.getfield 21, 3) := by decide +kernel
theorem dX5_sendOn_21 : decode cX5_sendOn 21 = .ok (.iload 4, 2) := by decide +kernel
theorem dX5_sendOn_23 : decode cX5_sendOn 23 = .ok (.iconst (-1), 1) := by decide +kernel
theorem dX5_sendOn_24 : decode cX5_sendOn 24 = .ok (.iastore, 1) := by decide +kernel
theorem dX5_sendOn_25 : decode cX5_sendOn 25 = .ok (.aload_n 2, 1) := by decide +kernel
theorem dX5_sendOn_26 : decode cX5_sendOn 26 = .ok (.iload 4, 2) := by decide +kernel
theorem dX5_sendOn_28 : decode cX5_sendOn 28 = .ok (.iaload, 1) := by decide +kernel
theorem dX5_sendOn_29 : decode cX5_sendOn 29 = .ok (.ifCond .eq 38, 3) := by decide +kernel
theorem dX5_sendOn_32 : decode cX5_sendOn 32 = .ok (.aload_n 0, 1) := by decide +kernel
theorem dX5_sendOn_33 : decode cX5_sendOn 33 = .ok (.getfield 24, 3) := by decide +kernel
theorem dX5_sendOn_36 : decode cX5_sendOn 36 = .ok (.iload 4, 2) := by decide +kernel
theorem dX5_sendOn_38 : decode cX5_sendOn 38 = .ok (.aload_n 2, 1) := by decide +kernel
theorem dX5_sendOn_39 : decode cX5_sendOn 39 = .ok (.iload 4, 2) := by decide +kernel
theorem dX5_sendOn_41 : decode cX5_sendOn 41 = .ok (.iaload, 1) := by decide +kernel
theorem dX5_sendOn_42 : decode cX5_sendOn 42 = .ok (.invokevirtual 66, 3) := by decide +kernel
theorem dX5_sendOn_45 : decode cX5_sendOn 45 = .ok (.iload_n 1, 1) := by decide +kernel
theorem dX5_sendOn_46 : decode cX5_sendOn 46 = .ok (.if_icmp .ne 21, 3) := by decide +kernel
theorem dX5_sendOn_49 : decode cX5_sendOn 49 = .ok (.aload_n 0, 1) := by decide +kernel
theorem dX5_sendOn_50 : decode cX5_sendOn 50 = .ok (.getfield 21, 3) := by decide +kernel
theorem dX5_sendOn_53 : decode cX5_sendOn 53 = .ok (.iload 4, 2) := by decide +kernel
theorem dX5_sendOn_55 : decode cX5_sendOn 55 = .ok (.iconst 0, 1) := by decide +kernel
theorem dX5_sendOn_56 : decode cX5_sendOn 56 = .ok (.iastore, 1) := by decide +kernel
theorem dX5_sendOn_57 : decode cX5_sendOn 57 = .ok (.iload_n 3, 1) := by decide +kernel
theorem dX5_sendOn_58 : decode cX5_sendOn 58 = .ok (.aload_n 2, 1) := by decide +kernel
theorem dX5_sendOn_59 : decode cX5_sendOn 59 = .ok (.iload 4, 2) := by decide +kernel
theorem dX5_sendOn_61 : decode cX5_sendOn 61 = .ok (.iaload, 1) := by decide +kernel
theorem dX5_sendOn_62 : decode cX5_sendOn 62 = .ok (.invokestatic 69, 3) := by decide +kernel
theorem dX5_sendOn_65 : decode cX5_sendOn 65 = .ok (.iadd, 1) := by decide +kernel
theorem dX5_sendOn_66 : decode cX5_sendOn 66 = .ok (.istore_n 3, 1) := by decide +kernel
theorem dX5_sendOn_67 : decode cX5_sendOn 67 = .ok (.iinc 4 1, 3) := by decide +kernel
theorem dX5_sendOn_70 : decode cX5_sendOn 70 = .ok (.goto (-65), 3) := by decide +kernel
theorem dX5_sendOn_73 : decode cX5_sendOn 73 = .ok (.iload_n 3, 1) := by decide +kernel
theorem dX5_sendOn_74 : decode cX5_sendOn 74 = .ok (.ifCond .ne 4, 3) := by decide +kernel
theorem dX5_sendOn_77 : decode cX5_sendOn 77 = .ok (.return_, 1) := by decide +kernel
theorem dX5_sendOn_78 : decode cX5_sendOn 78 = .ok (.aload_n 0, 1) := by decide +kernel
theorem dX5_sendOn_79 : decode cX5_sendOn 79 = .ok (.iload_n 1, 1) := by decide +kernel
theorem dX5_sendOn_80 : decode cX5_sendOn 80 = .ok (.aload_n 2, 1) := by decide +kernel
theorem dX5_sendOn_81 : decode cX5_sendOn 81 = .ok (.iload_n 3, 1) := by decide +kernel
theorem dX5_sendOn_82 : decode cX5_sendOn 82 = .ok (.invokevirtual 74, 3) := by decide +kernel
theorem dX5_sendOn_85 : decode cX5_sendOn 85 = .ok (.iconst 0, 1) := by decide +kernel
theorem dX5_sendOn_86 : decode cX5_sendOn 86 = .ok (.istore 4, 2) := by decide +kernel
theorem dX5_sendOn_88 : decode cX5_sendOn 88 = .ok (.iload 4, 2) := by decide +kernel
theorem dX5_sendOn_90 : decode cX5_sendOn 90 = .ok (.aload_n 0, 1) := by decide +kernel
theorem dX5_sendOn_91 : decode cX5_sendOn 91 = .ok (.getfield 24, 3) := by decide +kernel
theorem dX5_sendOn_94 : decode cX5_sendOn 94 = .ok (.getfield 52, 3) := by decide +kernel
theorem dX5_sendOn_97 : decode cX5_sendOn 97 = .ok (.if_icmp .ge 94, 3) := by decide +kernel
theorem dX5_sendOn_100 : decode cX5_sendOn 100 = .ok (.aload_n 2, 1) := by decide +kernel
theorem dX5_sendOn_101 : decode cX5_sendOn 101 = .ok (.iload 4, 2) := by decide +kernel
theorem dX5_sendOn_103 : decode cX5_sendOn 103 = .ok (.iaload, 1) := by decide +kernel
theorem dX5_sendOn_104 : decode cX5_sendOn 104 = .ok (.ifCond .eq 81, 3) := by decide +kernel
theorem dX5_sendOn_107 : decode cX5_sendOn 107 = .ok (.aload_n 0, 1) := by decide +kernel
theorem dX5_sendOn_108 : decode cX5_sendOn 108 = .ok (.getfield 24, 3) := by decide +kernel
theorem dX5_sendOn_111 : decode cX5_sendOn 111 = .ok (.iload 4, 2) := by decide +kernel
theorem dX5_sendOn_113 : decode cX5_sendOn 113 = .ok (.aload_n 2, 1) := by decide +kernel
theorem dX5_sendOn_114 : decode cX5_sendOn 114 = .ok (.iload 4, 2) := by decide +kernel
theorem dX5_sendOn_116 : decode cX5_sendOn 116 = .ok (.iaload, 1) := by decide +kernel
theorem dX5_sendOn_117 : decode cX5_sendOn 117 = .ok (.invokevirtual 66, 3) := by decide +kernel
theorem dX5_sendOn_120 : decode cX5_sendOn 120 = .ok (.iload_n 1, 1) := by decide +kernel
theorem dX5_sendOn_121 : decode cX5_sendOn 121 = .ok (.if_icmp .eq 6, 3) := by decide +kernel
theorem dX5_sendOn_124 : decode cX5_sendOn 124 = .ok (.goto 61, 3) := by decide +kernel
theorem dX5_sendOn_127 : decode cX5_sendOn 127 = .ok (.aload_n 0, 1) := by decide +kernel
theorem dX5_sendOn_128 : decode cX5_sendOn 128 = .ok (.getfield 24, 3) := by decide +kernel
theorem dX5_sendOn_131 : decode cX5_sendOn 131 = .ok (.iload 4, 2) := by decide +kernel
theorem dX5_sendOn_133 : decode cX5_sendOn 133 = .ok (.aload_n 2, 1) := by decide +kernel
theorem dX5_sendOn_134 : decode cX5_sendOn 134 = .ok (.iload 4, 2) := by decide +kernel
theorem dX5_sendOn_136 : decode cX5_sendOn 136 = .ok (.iaload, 1) := by decide +kernel
theorem dX5_sendOn_137 : decode cX5_sendOn 137 = .ok (.invokevirtual 59, 3) := by decide +kernel
theorem dX5_sendOn_140 : decode cX5_sendOn 140 = .ok (.istore 5, 2) := by decide +kernel
theorem dX5_sendOn_142 : decode cX5_sendOn 142 = .ok (.iload 5, 2) := by decide +kernel
theorem dX5_sendOn_144 : decode cX5_sendOn 144 = .ok (.aload_n 0, 1) := by decide +kernel
theorem dX5_sendOn_145 : decode cX5_sendOn 145 = .ok (.getfield 24, 3) := by decide +kernel
theorem dX5_sendOn_148 : decode cX5_sendOn 148 = .ok (.getfield 63, 3) := by decide +kernel
theorem dX5_sendOn_151 : decode cX5_sendOn 151 = .ok (.if_icmp .ne 6, 3) := by decide +kernel
theorem dX5_sendOn_154 : decode cX5_sendOn 154 = .ok (.goto 31, 3) := by decide +kernel
theorem dX5_sendOn_157 : decode cX5_sendOn 157 = .ok (.aload_n 0, 1) := by decide +kernel
theorem dX5_sendOn_158 : decode cX5_sendOn 158 = .ok (.getfield 15, 3) := by decide +kernel
theorem dX5_sendOn_161 : decode cX5_sendOn 161 = .ok (.iload 5, 2) := by decide +kernel
theorem dX5_sendOn_163 : decode cX5_sendOn 163 = .ok (.dup2, 1) := by decide +kernel
theorem dX5_sendOn_164 : decode cX5_sendOn 164 = .ok (.iaload, 1) := by decide +kernel
theorem dX5_sendOn_165 : decode cX5_sendOn 165 = .ok (.aload_n 0, 1) := by decide +kernel
theorem dX5_sendOn_166 : decode cX5_sendOn 166 = .ok (.getfield 9, 3) := by decide +kernel
theorem dX5_sendOn_169 : decode cX5_sendOn 169 = .ok (.iload 4, 2) := by decide +kernel
theorem dX5_sendOn_171 : decode cX5_sendOn 171 = .ok (.iaload, 1) := by decide +kernel
theorem dX5_sendOn_172 : decode cX5_sendOn 172 = .ok (.iadd, 1) := by decide +kernel
theorem dX5_sendOn_173 : decode cX5_sendOn 173 = .ok (.iastore, 1) := by decide +kernel
theorem dX5_sendOn_174 : decode cX5_sendOn 174 = .ok (.aload_n 0, 1) := by decide +kernel
theorem dX5_sendOn_175 : decode cX5_sendOn 175 = .ok (.getfield 18, 3) := by decide +kernel
theorem dX5_sendOn_178 : decode cX5_sendOn 178 = .ok (.iload 5, 2) := by decide +kernel
theorem dX5_sendOn_180 : decode cX5_sendOn 180 = .ok (.dup2, 1) := by decide +kernel
theorem dX5_sendOn_181 : decode cX5_sendOn 181 = .ok (.iaload, 1) := by decide +kernel
theorem dX5_sendOn_182 : decode cX5_sendOn 182 = .ok (.iconst 1, 1) := by decide +kernel
theorem dX5_sendOn_183 : decode cX5_sendOn 183 = .ok (.isub, 1) := by decide +kernel
theorem dX5_sendOn_184 : decode cX5_sendOn 184 = .ok (.iastore, 1) := by decide +kernel
theorem dX5_sendOn_185 : decode cX5_sendOn 185 = .ok (.iinc 4 1, 3) := by decide +kernel
theorem dX5_sendOn_188 : decode cX5_sendOn 188 = .ok (.goto (-100), 3) := by decide +kernel
theorem dX5_sendOn_191 : decode cX5_sendOn 191 = .ok (.return_, 1) := by decide +kernel
theorem dX5_share_0 : decode cX5_share 0 = .ok (.aload_n 0, 1) := by decide +kernel
theorem dX5_share_1 : decode cX5_share 1 = .ok (.getfield 15, 3) := by decide +kernel
theorem dX5_share_4 : decode cX5_share 4 = .ok (.iload_n 1, 1) := by decide +kernel
theorem dX5_share_5 : decode cX5_share 5 = .ok (.iaload, 1) := by decide +kernel
theorem dX5_share_6 : decode cX5_share 6 = .ok (.istore 4, 2) := by decide +kernel
theorem dX5_share_8 : decode cX5_share 8 = .ok (.iload 4, 2) := by decide +kernel
theorem dX5_share_10 : decode cX5_share 10 = .ok (.ifCond .eq 7, 3) := by decide +kernel
theorem dX5_share_13 : decode cX5_share 13 = .ok (.iload_n 3, 1) := by decide +kernel
theorem dX5_share_14 : decode cX5_share 14 = .ok (.ifCond .ne 4, 3) := by decide +kernel
theorem dX5_share_17 : decode cX5_share 17 = .ok (.return_, 1) := by decide +kernel
theorem dX5_share_18 : decode cX5_share 18 = .ok (.iload 4, 2) := by decide +kernel
theorem dX5_share_20 : decode cX5_share 20 = .ok (.istore 5, 2) := by decide +kernel
theorem dX5_share_22 : decode cX5_share 22 = .ok (.iconst 0, 1) := by decide +kernel
theorem dX5_share_23 : decode cX5_share 23 = .ok (.istore 6, 2) := by decide +kernel
theorem dX5_share_25 : decode cX5_share 25 = .ok (.iload 6, 2) := by decide +kernel
theorem dX5_share_27 : decode cX5_share 27 = .ok (.aload_n 0, 1) := by decide +kernel
theorem dX5_share_28 : decode cX5_share 28 = .ok (.getfield 24, 3) := by decide +kernel
theorem dX5_share_31 : decode cX5_share 31 = .ok (.getfield 52, 3) := by decide +kernel
theorem dX5_share_34 : decode cX5_share 34 = .ok (.if_icmp .ge 69, 3) := by decide +kernel
theorem dX5_share_37 : decode cX5_share 37 = .ok (.aload_n 0, 1) := by decide +kernel
theorem dX5_share_38 : decode cX5_share 38 = .ok (.getfield 21, 3) := by decide +kernel
theorem dX5_share_41 : decode cX5_share 41 = .ok (.iload 6, 2) := by decide +kernel
theorem dX5_share_43 : decode cX5_share 43 = .ok (.iaload, 1) := by decide +kernel
theorem dX5_share_44 : decode cX5_share 44 = .ok (.iconst (-1), 1) := by decide +kernel
theorem dX5_share_45 : decode cX5_share 45 = .ok (.if_icmp .ne 6, 3) := by decide +kernel
theorem dX5_share_48 : decode cX5_share 48 = .ok (.goto 49, 3) := by decide +kernel
theorem dX5_share_51 : decode cX5_share 51 = .ok (.iload 4, 2) := by decide +kernel
theorem dX5_share_53 : decode cX5_share 53 = .ok (.aload_n 2, 1) := by decide +kernel
theorem dX5_share_54 : decode cX5_share 54 = .ok (.iload 6, 2) := by decide +kernel
theorem dX5_share_56 : decode cX5_share 56 = .ok (.iaload, 1) := by decide +kernel
theorem dX5_share_57 : decode cX5_share 57 = .ok (.invokestatic 69, 3) := by decide +kernel
theorem dX5_share_60 : decode cX5_share 60 = .ok (.imul, 1) := by decide +kernel
theorem dX5_share_61 : decode cX5_share 61 = .ok (.istore 7, 2) := by decide +kernel
theorem dX5_share_63 : decode cX5_share 63 = .ok (.aload_n 0, 1) := by decide +kernel
theorem dX5_share_64 : decode cX5_share 64 = .ok (.getfield 9, 3) := by decide +kernel
theorem dX5_share_67 : decode cX5_share 67 = .ok (.iload 6, 2) := by decide +kernel
theorem dX5_share_69 : decode cX5_share 69 = .ok (.dup2, 1) := by decide +kernel
theorem dX5_share_70 : decode cX5_share 70 = .ok (.iaload, 1) := by decide +kernel
theorem dX5_share_71 : decode cX5_share 71 = .ok (.iload 7, 2) := by decide +kernel
theorem dX5_share_73 : decode cX5_share 73 = .ok (.iload_n 3, 1) := by decide +kernel
theorem dX5_share_74 : decode cX5_share 74 = .ok (.idiv, 1) := by decide +kernel
theorem dX5_share_75 : decode cX5_share 75 = .ok (.iadd, 1) := by decide +kernel
theorem dX5_share_76 : decode cX5_share 76 = .ok (.iastore, 1) := by decide +kernel
theorem dX5_share_77 : decode cX5_share 77 = .ok (.iload 5, 2) := by decide +kernel
theorem dX5_share_79 : decode cX5_share 79 = .ok (.iload 7, 2) := by decide +kernel
theorem dX5_share_81 : decode cX5_share 81 = .ok (.iload_n 3, 1) := by decide +kernel
theorem dX5_share_82 : decode cX5_share 82 = .ok (.idiv, 1) := by decide +kernel
theorem dX5_share_83 : decode cX5_share 83 = .ok (.isub, 1) := by decide +kernel
theorem dX5_share_84 : decode cX5_share 84 = .ok (.istore 5, 2) := by decide +kernel
theorem dX5_share_86 : decode cX5_share 86 = .ok (.aload_n 0, 1) := by decide +kernel
theorem dX5_share_87 : decode cX5_share 87 = .ok (.getfield 21, 3) := by decide +kernel
theorem dX5_share_90 : decode cX5_share 90 = .ok (.iload 6, 2) := by decide +kernel
theorem dX5_share_92 : decode cX5_share 92 = .ok (.iload 7, 2) := by decide +kernel
theorem dX5_share_94 : decode cX5_share 94 = .ok (.iload_n 3, 1) := by decide +kernel
theorem dX5_share_95 : decode cX5_share 95 = .ok (.irem, 1) := by decide +kernel
theorem dX5_share_96 : decode cX5_share 96 = .ok (.iastore, 1) := by decide +kernel
theorem dX5_share_97 : decode cX5_share 97 = .ok (.iinc 6 1, 3) := by decide +kernel
theorem dX5_share_100 : decode cX5_share 100 = .ok (.goto (-75), 3) := by decide +kernel
theorem dX5_share_103 : decode cX5_share 103 = .ok (.iconst 0, 1) := by decide +kernel
theorem dX5_share_104 : decode cX5_share 104 = .ok (.istore 6, 2) := by decide +kernel
theorem dX5_share_106 : decode cX5_share 106 = .ok (.iload 6, 2) := by decide +kernel
theorem dX5_share_108 : decode cX5_share 108 = .ok (.bipush 14, 2) := by decide +kernel
theorem dX5_share_110 : decode cX5_share 110 = .ok (.if_icmp .ge 49, 3) := by decide +kernel
theorem dX5_share_113 : decode cX5_share 113 = .ok (.iload 5, 2) := by decide +kernel
theorem dX5_share_115 : decode cX5_share 115 = .ok (.ifCond .le 44, 3) := by decide +kernel
theorem dX5_share_118 : decode cX5_share 118 = .ok (.aload_n 0, 1) := by decide +kernel
theorem dX5_share_119 : decode cX5_share 119 = .ok (.invokevirtual 78, 3) := by decide +kernel
theorem dX5_share_122 : decode cX5_share 122 = .ok (.istore 7, 2) := by decide +kernel
theorem dX5_share_124 : decode cX5_share 124 = .ok (.iload 7, 2) := by decide +kernel
theorem dX5_share_126 : decode cX5_share 126 = .ok (.iconst (-1), 1) := by decide +kernel
theorem dX5_share_127 : decode cX5_share 127 = .ok (.if_icmp .ne 4, 3) := by decide +kernel
theorem dX5_share_130 : decode cX5_share 130 = .ok (.return_, 1) := by decide +kernel
theorem dX5_share_131 : decode cX5_share 131 = .ok (.aload_n 0, 1) := by decide +kernel
theorem dX5_share_132 : decode cX5_share 132 = .ok (.getfield 9, 3) := by decide +kernel
theorem dX5_share_135 : decode cX5_share 135 = .ok (.iload 7, 2) := by decide +kernel
theorem dX5_share_137 : decode cX5_share 137 = .ok (.dup2, 1) := by decide +kernel
theorem dX5_share_138 : decode cX5_share 138 = .ok (.iaload, 1) := by decide +kernel
theorem dX5_share_139 : decode cX5_share 139 = .ok (.iconst 1, 1) := by decide +kernel
theorem dX5_share_140 : decode cX5_share 140 = .ok (.iadd, 1) := by decide +kernel
theorem dX5_share_141 : decode cX5_share 141 = .ok (.iastore, 1) := by decide +kernel
theorem dX5_share_142 : decode cX5_share 142 = .ok (.aload_n 0, 1) := by decide +kernel
theorem dX5_share_143 : decode cX5_share 143 = .ok (.getfield 21, 3) := by decide +kernel
theorem dX5_share_146 : decode cX5_share 146 = .ok (.iload 7, 2) := by decide +kernel
theorem dX5_share_148 : decode cX5_share 148 = .ok (.iconst (-1), 1) := by decide +kernel
theorem dX5_share_149 : decode cX5_share 149 = .ok (.iastore, 1) := by decide +kernel
theorem dX5_share_150 : decode cX5_share 150 = .ok (.iinc 5 (-1), 3) := by decide +kernel
theorem dX5_share_153 : decode cX5_share 153 = .ok (.iinc 6 1, 3) := by decide +kernel
theorem dX5_share_156 : decode cX5_share 156 = .ok (.goto (-50), 3) := by decide +kernel
theorem dX5_share_159 : decode cX5_share 159 = .ok (.return_, 1) := by decide +kernel
set_option maxHeartbeats 4000000 in
set_option maxRecDepth 100000 in
theorem c0_startOf (l : Launch) (dC : Nat → ClassId) (dI : Nat → Nat → Nat) (n0 : Nat) (atx : Nat → Nat × Nat) (sz : Nat) (bk : Nat) (bw : Nat) (bk_tail : Nat) (bk_head : Nat) (bk_hinder : Nat) (bk_size : Nat) (bk_walk : Nat) (bk_draught : Nat) (bk_doorIn : Nat) (bk_fanIn : Nat) (bk_faceIn : Nat) (bn : Nat) (bk_day : Int32) (gr : Nat) (k_bk_tail : ClassId) (f_bk_tail : Nat → Int32) (k_bk_head : ClassId) (f_bk_head : Nat → Int32) (w : Int32) (av : Int32) (hbw : bw ≤ 14) (hbn : bn ≤ 10) (q_day : -1 ≤ bk_day.toInt ∧ bk_day.toInt < 10) (q_tail : rg f_bk_tail 14 0 10) (q_head : rg f_bk_head 14 0 10) (hw : vp_in w 14) : Met l yX0_startOf (wM yX0_startOf cX0_startOf 3 (some .int)) ({ frames := 0, cells := 0, slots := 0, locals := 0 }) (va_Pc [.ref bk, .int w, .int av] (fun U => U.heap.size = sz ∧ n0 ≤ sz ∧ GW n0 atx U ∧ va_P (dC, dI) classes [(bk, .inr (0, [.int (nI bw), .ref bk_tail, .ref bk_head, .ref bk_hinder, .ref bk_size, .ref bk_walk, .ref bk_draught, .ref bk_doorIn, .ref bk_fanIn, .ref bk_faceIn, .int (nI bn), .int bk_day, .ref gr])), (bk_tail, .inl (k_bk_tail, 14, .inl f_bk_tail)), (bk_head, .inl (k_bk_head, 14, .inl f_bk_head))] U.heap ∧ va_K (dC, dI) classes [(k_bk_tail, .int), (k_bk_head, .int)] U ∧ va_D (fun q => n0 ≤ q) [(bk, .inr (0, [.int (nI bw), .ref bk_tail, .ref bk_head, .ref bk_hinder, .ref bk_size, .ref bk_walk, .ref bk_draught, .ref bk_doorIn, .ref bk_fanIn, .ref bk_faceIn, .int (nI bn), .int bk_day, .ref gr])), (bk_tail, .inl (k_bk_tail, 14, .inl f_bk_tail)), (bk_head, .inl (k_bk_head, 14, .inl f_bk_head))])) (va_Qi (fun (r : Int32) (_ : Unit) => 0 ≤ r.toInt ∧ r.toInt < 10) (fun (_ : Unit) (t : State) => va_P (dC, dI) classes [(bk, .inr (0, [.int (nI bw), .ref bk_tail, .ref bk_head, .ref bk_hinder, .ref bk_size, .ref bk_walk, .ref bk_draught, .ref bk_doorIn, .ref bk_fanIn, .ref bk_faceIn, .int (nI bn), .int bk_day, .ref gr])), (bk_tail, .inl (k_bk_tail, 14, .inl f_bk_tail)), (bk_head, .inl (k_bk_head, 14, .inl f_bk_head))] t.heap ∧ va_K (dC, dI) classes [(k_bk_tail, .int), (k_bk_head, .int)] t ∧ va_D (va_A [(bk, .inr (0, [.int (nI bw), .ref bk_tail, .ref bk_head, .ref bk_hinder, .ref bk_size, .ref bk_walk, .ref bk_draught, .ref bk_doorIn, .ref bk_fanIn, .ref bk_faceIn, .int (nI bn), .int bk_day, .ref gr])), (bk_tail, .inl (k_bk_tail, 14, .inl f_bk_tail)), (bk_head, .inl (k_bk_head, 14, .inl f_bk_head))] sz) [(bk, .inr (0, [.int (nI bw), .ref bk_tail, .ref bk_head, .ref bk_hinder, .ref bk_size, .ref bk_walk, .ref bk_draught, .ref bk_doorIn, .ref bk_fanIn, .ref bk_faceIn, .int (nI bn), .int bk_day, .ref gr])), (bk_tail, .inl (k_bk_tail, 14, .inl f_bk_tail)), (bk_head, .inl (k_bk_head, 14, .inl f_bk_head))]) (va_A [(bk, .inr (0, [.int (nI bw), .ref bk_tail, .ref bk_head, .ref bk_hinder, .ref bk_size, .ref bk_walk, .ref bk_draught, .ref bk_doorIn, .ref bk_fanIn, .ref bk_faceIn, .int (nI bn), .int bk_day, .ref gr])), (bk_tail, .inl (k_bk_tail, 14, .inl f_bk_tail)), (bk_head, .inl (k_bk_head, 14, .inl f_bk_head))] sz)) 0 0 (va_A [(bk, .inr (0, [.int (nI bw), .ref bk_tail, .ref bk_head, .ref bk_hinder, .ref bk_size, .ref bk_walk, .ref bk_draught, .ref bk_doorIn, .ref bk_fanIn, .ref bk_faceIn, .int (nI bn), .int bk_day, .ref gr])), (bk_tail, .inl (k_bk_tail, 14, .inl f_bk_tail)), (bk_head, .inl (k_bk_head, 14, .inl f_bk_head))] sz) := by
  refine Met.ofW (cc := cX0_startOf) (maxL := 3) (ret := (some .int)) (by decide) rfl ?_
  intro p e s m args below meth c s₁ B hml hv
  obtain ⟨rfl, hsz, hn0, hG, hP, hK, hD0⟩ := hv
  have hx := B.exec
  have hb := B.bytes
  have hr := B.returns
  have hts := atoms_spec (ws := wM yX0_startOf cX0_startOf 3 (some .int)) B.pre
  have hown : s.vm.findClass RX0 = some m.cls := findClass_of_methodNamed B.named
  have hlocks := B.notSynchronized
  subst hsz
  have hD := hD0.self (sz := s.heap.size)
  have hA0 := vA_n0 hD0 hn0
  generalize hAe : va_A [(bk, .inr (0, [.int (nI bw), .ref bk_tail, .ref bk_head, .ref bk_hinder, .ref bk_size, .ref bk_walk, .ref bk_draught, .ref bk_doorIn, .ref bk_fanIn, .ref bk_faceIn, .int (nI bn), .int bk_day, .ref gr])), (bk_tail, .inl (k_bk_tail, 14, .inl f_bk_tail)), (bk_head, .inl (k_bk_head, 14, .inl f_bk_head))] s.heap.size = A at hD hA0 ⊢
  have hA : ∀ q : Nat, s.heap.size ≤ q → A q := fun q h => by rw [← hAe]; exact Or.inr h
  have hS : va_S A s.heap s.heap [] := va_S.rf
  have hl := lv_entry ([.ref bk, .int w, .int av]) (n := 3) (Nat.le_of_ble_eq_true rfl)
  rw [lg_entry_eq]
  generalize (lg_sl ([.ref bk, .int w, .int av]) ++ List.replicate (3 - (lg_sl ([.ref bk, .int w, .int av])).length) Slot.unset).toArray = ls at hl ⊢
  have hl : lv_has ls 3 [(0, .ref bk), (1, .int w), (2, .int av)] := hl
  refine lv_iload_n hx hb dX0_startOf_0 rfl (lv_at hl 2 rfl) ?_
  refine lv_if_le (tgt := 13) hx hb dX0_startOf_1 (by decide) (fun c_1 => ?_) (fun c_1 => ?_)
  · skip
    have g_2 : av.toInt ≤ (0 : Int) := i_le c_1
    refine lv_aload_n hx hb dX0_startOf_13 rfl (lv_at hl 0 rfl) ?_
    refine va_get (D := (dC, dI)) (ci := 0) (v := .ref bk_head) (C := RX0) (T := TX0) (N := 13) hx hb hts (fun w h => wM_c (iX0 w h)) hown hK hP 0 rfl rfl 2 (by decide) (hts _ (wM_c wd_251)) (fun _ h9 => h9) rfl dX0_startOf_14 ?_
    refine lv_iload_n hx hb dX0_startOf_17 rfl (lv_at hl 1 rfl) ?_
    refine va_iald hx hb hK hP 2 1 rfl rfl (by first | with_reducible assumption | exact vp_in_iff.mpr (by omega)) dX0_startOf_18 ?_
    refine lv_topi (fun v_3 ev_3 => ?_)
    have g_4 : 0 ≤ v_3.toInt ∧ v_3.toInt < 10 := by rw [ev_3]; exact rg_inx q_head (by first | with_reducible assumption | exact vp_in_iff.mpr (by omega))
    have hK9 := hK.sub (tys' := [(k_bk_tail, .int), (k_bk_head, .int)]) [0, 1] rfl
    exact W.iret (v := v_3) hx hb hr (fun t ht hW => ⟨⟨v_3, (), rfl, (by omega), by rw [ht]; exact hP.sub [0, 1, 2] rfl, va_K.moved hW.alike hK9, hD.sub [0, 1, 2] (by decide) rfl⟩, hS.F ht⟩) hS.2.2 dX0_startOf_19
  · skip
    have g_5 : (0 : Int) < av.toInt := i_nle c_1
    refine lv_aload_n hx hb dX0_startOf_4 rfl (lv_at hl 0 rfl) ?_
    refine va_get (D := (dC, dI)) (ci := 0) (v := .ref bk_tail) (C := RX0) (T := TX0) (N := 13) hx hb hts (fun w h => wM_c (iX0 w h)) hown hK hP 0 rfl rfl 1 (by decide) (hts _ (wM_c wd_246)) (fun _ h9 => h9) rfl dX0_startOf_5 ?_
    refine lv_iload_n hx hb dX0_startOf_8 rfl (lv_at hl 1 rfl) ?_
    refine va_iald hx hb hK hP 1 0 rfl rfl (by first | with_reducible assumption | exact vp_in_iff.mpr (by omega)) dX0_startOf_9 ?_
    refine lv_topi (fun v_6 ev_6 => ?_)
    have g_7 : 0 ≤ v_6.toInt ∧ v_6.toInt < 10 := by rw [ev_6]; exact rg_inx q_tail (by first | with_reducible assumption | exact vp_in_iff.mpr (by omega))
    refine lv_goto (tgt := 19) hx hb dX0_startOf_10 (by decide) ?_
    have hK9 := hK.sub (tys' := [(k_bk_tail, .int), (k_bk_head, .int)]) [0, 1] rfl
    exact W.iret (v := v_6) hx hb hr (fun t ht hW => ⟨⟨v_6, (), rfl, (by omega), by rw [ht]; exact hP.sub [0, 1, 2] rfl, va_K.moved hW.alike hK9, hD.sub [0, 1, 2] (by decide) rfl⟩, hS.F ht⟩) hS.2.2 dX0_startOf_19
set_option maxHeartbeats 4000000 in
set_option maxRecDepth 100000 in
theorem c0_endOf (l : Launch) (dC : Nat → ClassId) (dI : Nat → Nat → Nat) (n0 : Nat) (atx : Nat → Nat × Nat) (sz : Nat) (bk : Nat) (bw : Nat) (bk_tail : Nat) (bk_head : Nat) (bk_hinder : Nat) (bk_size : Nat) (bk_walk : Nat) (bk_draught : Nat) (bk_doorIn : Nat) (bk_fanIn : Nat) (bk_faceIn : Nat) (bn : Nat) (bk_day : Int32) (gr : Nat) (k_bk_tail : ClassId) (f_bk_tail : Nat → Int32) (k_bk_head : ClassId) (f_bk_head : Nat → Int32) (w : Int32) (av : Int32) (hbw : bw ≤ 14) (hbn : bn ≤ 10) (q_day : -1 ≤ bk_day.toInt ∧ bk_day.toInt < 10) (q_tail : rg f_bk_tail 14 0 10) (q_head : rg f_bk_head 14 0 10) (hw : vp_in w 14) : Met l yX0_endOf (wM yX0_endOf cX0_endOf 3 (some .int)) ({ frames := 0, cells := 0, slots := 0, locals := 0 }) (va_Pc [.ref bk, .int w, .int av] (fun U => U.heap.size = sz ∧ n0 ≤ sz ∧ GW n0 atx U ∧ va_P (dC, dI) classes [(bk, .inr (0, [.int (nI bw), .ref bk_tail, .ref bk_head, .ref bk_hinder, .ref bk_size, .ref bk_walk, .ref bk_draught, .ref bk_doorIn, .ref bk_fanIn, .ref bk_faceIn, .int (nI bn), .int bk_day, .ref gr])), (bk_tail, .inl (k_bk_tail, 14, .inl f_bk_tail)), (bk_head, .inl (k_bk_head, 14, .inl f_bk_head))] U.heap ∧ va_K (dC, dI) classes [(k_bk_tail, .int), (k_bk_head, .int)] U ∧ va_D (fun q => n0 ≤ q) [(bk, .inr (0, [.int (nI bw), .ref bk_tail, .ref bk_head, .ref bk_hinder, .ref bk_size, .ref bk_walk, .ref bk_draught, .ref bk_doorIn, .ref bk_fanIn, .ref bk_faceIn, .int (nI bn), .int bk_day, .ref gr])), (bk_tail, .inl (k_bk_tail, 14, .inl f_bk_tail)), (bk_head, .inl (k_bk_head, 14, .inl f_bk_head))])) (va_Qi (fun (r : Int32) (_ : Unit) => 0 ≤ r.toInt ∧ r.toInt < 10) (fun (_ : Unit) (t : State) => va_P (dC, dI) classes [(bk, .inr (0, [.int (nI bw), .ref bk_tail, .ref bk_head, .ref bk_hinder, .ref bk_size, .ref bk_walk, .ref bk_draught, .ref bk_doorIn, .ref bk_fanIn, .ref bk_faceIn, .int (nI bn), .int bk_day, .ref gr])), (bk_tail, .inl (k_bk_tail, 14, .inl f_bk_tail)), (bk_head, .inl (k_bk_head, 14, .inl f_bk_head))] t.heap ∧ va_K (dC, dI) classes [(k_bk_tail, .int), (k_bk_head, .int)] t ∧ va_D (va_A [(bk, .inr (0, [.int (nI bw), .ref bk_tail, .ref bk_head, .ref bk_hinder, .ref bk_size, .ref bk_walk, .ref bk_draught, .ref bk_doorIn, .ref bk_fanIn, .ref bk_faceIn, .int (nI bn), .int bk_day, .ref gr])), (bk_tail, .inl (k_bk_tail, 14, .inl f_bk_tail)), (bk_head, .inl (k_bk_head, 14, .inl f_bk_head))] sz) [(bk, .inr (0, [.int (nI bw), .ref bk_tail, .ref bk_head, .ref bk_hinder, .ref bk_size, .ref bk_walk, .ref bk_draught, .ref bk_doorIn, .ref bk_fanIn, .ref bk_faceIn, .int (nI bn), .int bk_day, .ref gr])), (bk_tail, .inl (k_bk_tail, 14, .inl f_bk_tail)), (bk_head, .inl (k_bk_head, 14, .inl f_bk_head))]) (va_A [(bk, .inr (0, [.int (nI bw), .ref bk_tail, .ref bk_head, .ref bk_hinder, .ref bk_size, .ref bk_walk, .ref bk_draught, .ref bk_doorIn, .ref bk_fanIn, .ref bk_faceIn, .int (nI bn), .int bk_day, .ref gr])), (bk_tail, .inl (k_bk_tail, 14, .inl f_bk_tail)), (bk_head, .inl (k_bk_head, 14, .inl f_bk_head))] sz)) 0 0 (va_A [(bk, .inr (0, [.int (nI bw), .ref bk_tail, .ref bk_head, .ref bk_hinder, .ref bk_size, .ref bk_walk, .ref bk_draught, .ref bk_doorIn, .ref bk_fanIn, .ref bk_faceIn, .int (nI bn), .int bk_day, .ref gr])), (bk_tail, .inl (k_bk_tail, 14, .inl f_bk_tail)), (bk_head, .inl (k_bk_head, 14, .inl f_bk_head))] sz) := by
  refine Met.ofW (cc := cX0_endOf) (maxL := 3) (ret := (some .int)) (by decide) rfl ?_
  intro p e s m args below meth c s₁ B hml hv
  obtain ⟨rfl, hsz, hn0, hG, hP, hK, hD0⟩ := hv
  have hx := B.exec
  have hb := B.bytes
  have hr := B.returns
  have hts := atoms_spec (ws := wM yX0_endOf cX0_endOf 3 (some .int)) B.pre
  have hown : s.vm.findClass RX0 = some m.cls := findClass_of_methodNamed B.named
  have hlocks := B.notSynchronized
  subst hsz
  have hD := hD0.self (sz := s.heap.size)
  have hA0 := vA_n0 hD0 hn0
  generalize hAe : va_A [(bk, .inr (0, [.int (nI bw), .ref bk_tail, .ref bk_head, .ref bk_hinder, .ref bk_size, .ref bk_walk, .ref bk_draught, .ref bk_doorIn, .ref bk_fanIn, .ref bk_faceIn, .int (nI bn), .int bk_day, .ref gr])), (bk_tail, .inl (k_bk_tail, 14, .inl f_bk_tail)), (bk_head, .inl (k_bk_head, 14, .inl f_bk_head))] s.heap.size = A at hD hA0 ⊢
  have hA : ∀ q : Nat, s.heap.size ≤ q → A q := fun q h => by rw [← hAe]; exact Or.inr h
  have hS : va_S A s.heap s.heap [] := va_S.rf
  have hl := lv_entry ([.ref bk, .int w, .int av]) (n := 3) (Nat.le_of_ble_eq_true rfl)
  rw [lg_entry_eq]
  generalize (lg_sl ([.ref bk, .int w, .int av]) ++ List.replicate (3 - (lg_sl ([.ref bk, .int w, .int av])).length) Slot.unset).toArray = ls at hl ⊢
  have hl : lv_has ls 3 [(0, .ref bk), (1, .int w), (2, .int av)] := hl
  refine lv_iload_n hx hb dX0_endOf_0 rfl (lv_at hl 2 rfl) ?_
  refine lv_if_le (tgt := 13) hx hb dX0_endOf_1 (by decide) (fun c_1 => ?_) (fun c_1 => ?_)
  · skip
    have g_2 : av.toInt ≤ (0 : Int) := i_le c_1
    refine lv_aload_n hx hb dX0_endOf_13 rfl (lv_at hl 0 rfl) ?_
    refine va_get (D := (dC, dI)) (ci := 0) (v := .ref bk_tail) (C := RX0) (T := TX0) (N := 13) hx hb hts (fun w h => wM_c (iX0 w h)) hown hK hP 0 rfl rfl 1 (by decide) (hts _ (wM_c wd_246)) (fun _ h9 => h9) rfl dX0_endOf_14 ?_
    refine lv_iload_n hx hb dX0_endOf_17 rfl (lv_at hl 1 rfl) ?_
    refine va_iald hx hb hK hP 1 0 rfl rfl (by first | with_reducible assumption | exact vp_in_iff.mpr (by omega)) dX0_endOf_18 ?_
    refine lv_topi (fun v_3 ev_3 => ?_)
    have g_4 : 0 ≤ v_3.toInt ∧ v_3.toInt < 10 := by rw [ev_3]; exact rg_inx q_tail (by first | with_reducible assumption | exact vp_in_iff.mpr (by omega))
    have hK9 := hK.sub (tys' := [(k_bk_tail, .int), (k_bk_head, .int)]) [0, 1] rfl
    exact W.iret (v := v_3) hx hb hr (fun t ht hW => ⟨⟨v_3, (), rfl, (by omega), by rw [ht]; exact hP.sub [0, 1, 2] rfl, va_K.moved hW.alike hK9, hD.sub [0, 1, 2] (by decide) rfl⟩, hS.F ht⟩) hS.2.2 dX0_endOf_19
  · skip
    have g_5 : (0 : Int) < av.toInt := i_nle c_1
    refine lv_aload_n hx hb dX0_endOf_4 rfl (lv_at hl 0 rfl) ?_
    refine va_get (D := (dC, dI)) (ci := 0) (v := .ref bk_head) (C := RX0) (T := TX0) (N := 13) hx hb hts (fun w h => wM_c (iX0 w h)) hown hK hP 0 rfl rfl 2 (by decide) (hts _ (wM_c wd_251)) (fun _ h9 => h9) rfl dX0_endOf_5 ?_
    refine lv_iload_n hx hb dX0_endOf_8 rfl (lv_at hl 1 rfl) ?_
    refine va_iald hx hb hK hP 2 1 rfl rfl (by first | with_reducible assumption | exact vp_in_iff.mpr (by omega)) dX0_endOf_9 ?_
    refine lv_topi (fun v_6 ev_6 => ?_)
    have g_7 : 0 ≤ v_6.toInt ∧ v_6.toInt < 10 := by rw [ev_6]; exact rg_inx q_head (by first | with_reducible assumption | exact vp_in_iff.mpr (by omega))
    refine lv_goto (tgt := 19) hx hb dX0_endOf_10 (by decide) ?_
    have hK9 := hK.sub (tys' := [(k_bk_tail, .int), (k_bk_head, .int)]) [0, 1] rfl
    exact W.iret (v := v_6) hx hb hr (fun t ht hW => ⟨⟨v_6, (), rfl, (by omega), by rw [ht]; exact hP.sub [0, 1, 2] rfl, va_K.moved hW.alike hK9, hD.sub [0, 1, 2] (by decide) rfl⟩, hS.F ht⟩) hS.2.2 dX0_endOf_19
set_option maxHeartbeats 4000000 in
set_option maxRecDepth 100000 in
theorem c0_faceGasIn (l : Launch) (dC : Nat → ClassId) (dI : Nat → Nat → Nat) (n0 : Nat) (atx : Nat → Nat × Nat) (sz : Nat) (bk : Nat) (bw : Nat) (bk_tail : Nat) (bk_head : Nat) (bk_hinder : Nat) (bk_size : Nat) (bk_walk : Nat) (bk_draught : Nat) (bk_doorIn : Nat) (bk_fanIn : Nat) (bk_faceIn : Nat) (bn : Nat) (bk_day : Int32) (gr : Nat) (gd : Nat) (gr_doorBy : Nat) (gp : Nat) (gr_pairFirst : Nat) (gr_pairSecond : Nat) (gf : Nat) (gr_fanPush : Nat) (gr_fanFall : Nat) (gr_fanCost : Nat) (ge : Nat) (gr_faceWay : Nat) (gr_faceGas : Nat) (gr_faceNeed : Nat) (k_bk_faceIn : ClassId) (f_bk_faceIn : Nat → Int32) (k_gr_faceGas : ClassId) (f_gr_faceGas : Nat → Int32) (w : Int32) (hbw : bw ≤ 14) (hbn : bn ≤ 10) (hgd : gd ≤ 6) (hgp : gp ≤ 3) (hgf : gf ≤ 4) (hge : ge ≤ 4) (q_day : -1 ≤ bk_day.toInt ∧ bk_day.toInt < 10) (q_faceIn : rg f_bk_faceIn 14 (-1) 4) (hw : vp_in w 14) : Met l yX0_faceGasIn (wM yX0_faceGasIn cX0_faceGasIn 3 (some .int)) ({ frames := 0, cells := 0, slots := 0, locals := 0 }) (va_Pc [.ref bk, .int w] (fun U => U.heap.size = sz ∧ n0 ≤ sz ∧ GW n0 atx U ∧ va_P (dC, dI) classes [(bk, .inr (0, [.int (nI bw), .ref bk_tail, .ref bk_head, .ref bk_hinder, .ref bk_size, .ref bk_walk, .ref bk_draught, .ref bk_doorIn, .ref bk_fanIn, .ref bk_faceIn, .int (nI bn), .int bk_day, .ref gr])), (gr, .inr (3, [.int (nI gd), .ref gr_doorBy, .int (nI gp), .ref gr_pairFirst, .ref gr_pairSecond, .int (nI gf), .ref gr_fanPush, .ref gr_fanFall, .ref gr_fanCost, .int (nI ge), .ref gr_faceWay, .ref gr_faceGas, .ref gr_faceNeed])), (bk_faceIn, .inl (k_bk_faceIn, 14, .inl f_bk_faceIn)), (gr_faceGas, .inl (k_gr_faceGas, 4, .inl f_gr_faceGas))] U.heap ∧ va_K (dC, dI) classes [(k_bk_faceIn, .int), (k_gr_faceGas, .int)] U ∧ va_D (fun q => n0 ≤ q) [(bk, .inr (0, [.int (nI bw), .ref bk_tail, .ref bk_head, .ref bk_hinder, .ref bk_size, .ref bk_walk, .ref bk_draught, .ref bk_doorIn, .ref bk_fanIn, .ref bk_faceIn, .int (nI bn), .int bk_day, .ref gr])), (gr, .inr (3, [.int (nI gd), .ref gr_doorBy, .int (nI gp), .ref gr_pairFirst, .ref gr_pairSecond, .int (nI gf), .ref gr_fanPush, .ref gr_fanFall, .ref gr_fanCost, .int (nI ge), .ref gr_faceWay, .ref gr_faceGas, .ref gr_faceNeed])), (bk_faceIn, .inl (k_bk_faceIn, 14, .inl f_bk_faceIn)), (gr_faceGas, .inl (k_gr_faceGas, 4, .inl f_gr_faceGas))])) (va_Qi (fun (r : Int32) (_ : Unit) => True) (fun (_ : Unit) (t : State) => va_P (dC, dI) classes [(bk, .inr (0, [.int (nI bw), .ref bk_tail, .ref bk_head, .ref bk_hinder, .ref bk_size, .ref bk_walk, .ref bk_draught, .ref bk_doorIn, .ref bk_fanIn, .ref bk_faceIn, .int (nI bn), .int bk_day, .ref gr])), (gr, .inr (3, [.int (nI gd), .ref gr_doorBy, .int (nI gp), .ref gr_pairFirst, .ref gr_pairSecond, .int (nI gf), .ref gr_fanPush, .ref gr_fanFall, .ref gr_fanCost, .int (nI ge), .ref gr_faceWay, .ref gr_faceGas, .ref gr_faceNeed])), (bk_faceIn, .inl (k_bk_faceIn, 14, .inl f_bk_faceIn)), (gr_faceGas, .inl (k_gr_faceGas, 4, .inl f_gr_faceGas))] t.heap ∧ va_K (dC, dI) classes [(k_bk_faceIn, .int), (k_gr_faceGas, .int)] t ∧ va_D (va_A [(bk, .inr (0, [.int (nI bw), .ref bk_tail, .ref bk_head, .ref bk_hinder, .ref bk_size, .ref bk_walk, .ref bk_draught, .ref bk_doorIn, .ref bk_fanIn, .ref bk_faceIn, .int (nI bn), .int bk_day, .ref gr])), (gr, .inr (3, [.int (nI gd), .ref gr_doorBy, .int (nI gp), .ref gr_pairFirst, .ref gr_pairSecond, .int (nI gf), .ref gr_fanPush, .ref gr_fanFall, .ref gr_fanCost, .int (nI ge), .ref gr_faceWay, .ref gr_faceGas, .ref gr_faceNeed])), (bk_faceIn, .inl (k_bk_faceIn, 14, .inl f_bk_faceIn)), (gr_faceGas, .inl (k_gr_faceGas, 4, .inl f_gr_faceGas))] sz) [(bk, .inr (0, [.int (nI bw), .ref bk_tail, .ref bk_head, .ref bk_hinder, .ref bk_size, .ref bk_walk, .ref bk_draught, .ref bk_doorIn, .ref bk_fanIn, .ref bk_faceIn, .int (nI bn), .int bk_day, .ref gr])), (gr, .inr (3, [.int (nI gd), .ref gr_doorBy, .int (nI gp), .ref gr_pairFirst, .ref gr_pairSecond, .int (nI gf), .ref gr_fanPush, .ref gr_fanFall, .ref gr_fanCost, .int (nI ge), .ref gr_faceWay, .ref gr_faceGas, .ref gr_faceNeed])), (bk_faceIn, .inl (k_bk_faceIn, 14, .inl f_bk_faceIn)), (gr_faceGas, .inl (k_gr_faceGas, 4, .inl f_gr_faceGas))]) (va_A [(bk, .inr (0, [.int (nI bw), .ref bk_tail, .ref bk_head, .ref bk_hinder, .ref bk_size, .ref bk_walk, .ref bk_draught, .ref bk_doorIn, .ref bk_fanIn, .ref bk_faceIn, .int (nI bn), .int bk_day, .ref gr])), (gr, .inr (3, [.int (nI gd), .ref gr_doorBy, .int (nI gp), .ref gr_pairFirst, .ref gr_pairSecond, .int (nI gf), .ref gr_fanPush, .ref gr_fanFall, .ref gr_fanCost, .int (nI ge), .ref gr_faceWay, .ref gr_faceGas, .ref gr_faceNeed])), (bk_faceIn, .inl (k_bk_faceIn, 14, .inl f_bk_faceIn)), (gr_faceGas, .inl (k_gr_faceGas, 4, .inl f_gr_faceGas))] sz)) 0 0 (va_A [(bk, .inr (0, [.int (nI bw), .ref bk_tail, .ref bk_head, .ref bk_hinder, .ref bk_size, .ref bk_walk, .ref bk_draught, .ref bk_doorIn, .ref bk_fanIn, .ref bk_faceIn, .int (nI bn), .int bk_day, .ref gr])), (gr, .inr (3, [.int (nI gd), .ref gr_doorBy, .int (nI gp), .ref gr_pairFirst, .ref gr_pairSecond, .int (nI gf), .ref gr_fanPush, .ref gr_fanFall, .ref gr_fanCost, .int (nI ge), .ref gr_faceWay, .ref gr_faceGas, .ref gr_faceNeed])), (bk_faceIn, .inl (k_bk_faceIn, 14, .inl f_bk_faceIn)), (gr_faceGas, .inl (k_gr_faceGas, 4, .inl f_gr_faceGas))] sz) := by
  refine Met.ofW (cc := cX0_faceGasIn) (maxL := 3) (ret := (some .int)) (by decide) rfl ?_
  intro p e s m args below meth c s₁ B hml hv
  obtain ⟨rfl, hsz, hn0, hG, hP, hK, hD0⟩ := hv
  have hx := B.exec
  have hb := B.bytes
  have hr := B.returns
  have hts := atoms_spec (ws := wM yX0_faceGasIn cX0_faceGasIn 3 (some .int)) B.pre
  have hown : s.vm.findClass RX0 = some m.cls := findClass_of_methodNamed B.named
  have hlocks := B.notSynchronized
  subst hsz
  have hD := hD0.self (sz := s.heap.size)
  have hA0 := vA_n0 hD0 hn0
  generalize hAe : va_A [(bk, .inr (0, [.int (nI bw), .ref bk_tail, .ref bk_head, .ref bk_hinder, .ref bk_size, .ref bk_walk, .ref bk_draught, .ref bk_doorIn, .ref bk_fanIn, .ref bk_faceIn, .int (nI bn), .int bk_day, .ref gr])), (gr, .inr (3, [.int (nI gd), .ref gr_doorBy, .int (nI gp), .ref gr_pairFirst, .ref gr_pairSecond, .int (nI gf), .ref gr_fanPush, .ref gr_fanFall, .ref gr_fanCost, .int (nI ge), .ref gr_faceWay, .ref gr_faceGas, .ref gr_faceNeed])), (bk_faceIn, .inl (k_bk_faceIn, 14, .inl f_bk_faceIn)), (gr_faceGas, .inl (k_gr_faceGas, 4, .inl f_gr_faceGas))] s.heap.size = A at hD hA0 ⊢
  have hA : ∀ q : Nat, s.heap.size ≤ q → A q := fun q h => by rw [← hAe]; exact Or.inr h
  have hS : va_S A s.heap s.heap [] := va_S.rf
  have hl := lv_entry ([.ref bk, .int w]) (n := 3) (Nat.le_of_ble_eq_true rfl)
  rw [lg_entry_eq]
  generalize (lg_sl ([.ref bk, .int w]) ++ List.replicate (3 - (lg_sl ([.ref bk, .int w])).length) Slot.unset).toArray = ls at hl ⊢
  have hl : lv_has ls 3 [(0, .ref bk), (1, .int w)] := hl
  refine lv_aload_n hx hb dX0_faceGasIn_0 rfl (lv_at hl 0 rfl) ?_
  refine va_get (D := (dC, dI)) (ci := 0) (v := .ref bk_faceIn) (C := RX0) (T := TX0) (N := 13) hx hb hts (fun w h => wM_c (iX0 w h)) hown hK hP 0 rfl rfl 9 (by decide) (hts _ (wM_c wd_280)) (fun _ h9 => h9) rfl dX0_faceGasIn_1 ?_
  refine lv_iload_n hx hb dX0_faceGasIn_4 rfl (lv_at hl 1 rfl) ?_
  refine va_iald hx hb hK hP 2 0 rfl rfl (by first | with_reducible assumption | exact vp_in_iff.mpr (by omega)) dX0_faceGasIn_5 ?_
  refine lv_topi (fun v_1 ev_1 => ?_)
  have g_2 : (-1) ≤ v_1.toInt ∧ v_1.toInt < 4 := by rw [ev_1]; exact rg_inx q_faceIn (by first | with_reducible assumption | exact vp_in_iff.mpr (by omega))
  refine lv_istore_n (lv' := [(2, .int v_1), (0, .ref bk), (1, .int w)]) hx hb dX0_faceGasIn_6 rfl hl (by decide) rfl (fun ls hl => ?_)
  refine lv_iload_n hx hb dX0_faceGasIn_7 rfl (lv_at hl 0 rfl) ?_
  refine lv_iconst (v := (-1)) hx hb dX0_faceGasIn_8 (by decide) ?_
  refine lv_icmp_ne (tgt := 16) hx hb dX0_faceGasIn_9 (by decide) (fun c_3 => ?_) (fun c_3 => ?_)
  · skip
    have g_4 : v_1.toInt ≠ (-1 : Int) := i_ne c_3
    refine lv_aload_n hx hb dX0_faceGasIn_16 rfl (lv_at hl 1 rfl) ?_
    refine va_get (D := (dC, dI)) (ci := 0) (v := .ref gr) (C := RX0) (T := TX0) (N := 13) hx hb hts (fun w h => wM_c (iX0 w h)) hown hK hP 0 rfl rfl 12 (by decide) (hts _ (wM_c wd_293)) (fun _ h9 => h9) rfl dX0_faceGasIn_17 ?_
    refine va_get (D := (dC, dI)) (ci := 3) (v := .ref gr_faceGas) (C := RX3) (T := TX3) (N := 13) hx hb hts (fun w h => wM_c (iX3 w h)) hown hK hP 1 rfl rfl 11 (by decide) (hts _ (wM_c wd_204)) (fun _ h9 => h9) rfl dX0_faceGasIn_20 ?_
    refine lv_iload_n hx hb dX0_faceGasIn_23 rfl (lv_at hl 0 rfl) ?_
    refine va_iald hx hb hK hP 3 1 rfl rfl (by first | with_reducible assumption | exact vp_in_iff.mpr (by omega)) dX0_faceGasIn_24 ?_
    refine lv_topi (fun v_5 ev_5 => ?_)
    have hK9 := hK.sub (tys' := [(k_bk_faceIn, .int), (k_gr_faceGas, .int)]) [0, 1] rfl
    exact W.iret (v := v_5) hx hb hr (fun t ht hW => ⟨⟨v_5, (), rfl, trivial, by rw [ht]; exact hP.sub [0, 1, 2, 3] rfl, va_K.moved hW.alike hK9, hD.sub [0, 1, 2, 3] (by decide) rfl⟩, hS.F ht⟩) hS.2.2 dX0_faceGasIn_25
  · skip
    have g_6 : v_1.toInt = (-1 : Int) := i_eq c_3
    refine lv_iconst (v := 0) hx hb dX0_faceGasIn_12 (by decide) ?_
    refine lv_goto (tgt := 25) hx hb dX0_faceGasIn_13 (by decide) ?_
    have hK9 := hK.sub (tys' := [(k_bk_faceIn, .int), (k_gr_faceGas, .int)]) [0, 1] rfl
    exact W.iret (v := 0) hx hb hr (fun t ht hW => ⟨⟨0, (), rfl, trivial, by rw [ht]; exact hP.sub [0, 1, 2, 3] rfl, va_K.moved hW.alike hK9, hD.sub [0, 1, 2, 3] (by decide) rfl⟩, hS.F ht⟩) hS.2.2 dX0_faceGasIn_25
set_option maxHeartbeats 4000000 in
set_option maxRecDepth 100000 in
theorem c5_countArrivals (l : Launch) (dC : Nat → ClassId) (dI : Nat → Nat → Nat) (n0 : Nat) (atx : Nat → Nat × Nat) (sz : Nat) (ld : Nat) (ld_gas : Nat) (ld_ringed : Int32) (bk : Nat) (ld_coming : Nat) (ld_waiting : Nat) (ld_rest : Nat) (bw : Nat) (bk_tail : Nat) (bk_head : Nat) (bk_hinder : Nat) (bk_size : Nat) (bk_walk : Nat) (bk_draught : Nat) (bk_doorIn : Nat) (bk_fanIn : Nat) (bk_faceIn : Nat) (bn : Nat) (bk_day : Int32) (gr : Nat) (gd : Nat) (gr_doorBy : Nat) (gp : Nat) (gr_pairFirst : Nat) (gr_pairSecond : Nat) (gf : Nat) (gr_fanPush : Nat) (gr_fanFall : Nat) (gr_fanCost : Nat) (ge : Nat) (gr_faceWay : Nat) (gr_faceGas : Nat) (gr_faceNeed : Nat) (k_bk_tail : ClassId) (f_bk_tail : Nat → Int32) (k_bk_head : ClassId) (f_bk_head : Nat → Int32) (k_bk_faceIn : ClassId) (f_bk_faceIn : Nat → Int32) (k_gr_faceGas : ClassId) (f_gr_faceGas : Nat → Int32) (ai : Nat) (k_ai : ClassId) (f_ai : Nat → Int32) (k_ld_gas : ClassId) (f_ld_gas : Nat → Int32) (k_ld_coming : ClassId) (f_ld_coming : Nat → Int32) (k_ld_waiting : ClassId) (f_ld_waiting : Nat → Int32) (hbw : bw ≤ 14) (hbn : bn ≤ 10) (hgd : gd ≤ 6) (hgp : gp ≤ 3) (hgf : gf ≤ 4) (hge : ge ≤ 4) (q_day : -1 ≤ bk_day.toInt ∧ bk_day.toInt < 10) (q_tail : rg f_bk_tail 14 0 10) (q_head : rg f_bk_head 14 0 10) (q_faceIn : rg f_bk_faceIn 14 (-1) 4) : Met l yX5_countArrivals (wM yX5_countArrivals cX5_countArrivals 4 none) ({ frames := 1, cells := 0, slots := 0, locals := 23 }) (va_Pc [.ref ld, .ref ai] (fun U => U.heap.size = sz ∧ n0 ≤ sz ∧ GW n0 atx U ∧ va_P (dC, dI) classes [(ld, .inr (5, [.ref ld_gas, .int ld_ringed, .ref bk, .ref ld_coming, .ref ld_waiting, .ref ld_rest])), (bk, .inr (0, [.int (nI bw), .ref bk_tail, .ref bk_head, .ref bk_hinder, .ref bk_size, .ref bk_walk, .ref bk_draught, .ref bk_doorIn, .ref bk_fanIn, .ref bk_faceIn, .int (nI bn), .int bk_day, .ref gr])), (gr, .inr (3, [.int (nI gd), .ref gr_doorBy, .int (nI gp), .ref gr_pairFirst, .ref gr_pairSecond, .int (nI gf), .ref gr_fanPush, .ref gr_fanFall, .ref gr_fanCost, .int (nI ge), .ref gr_faceWay, .ref gr_faceGas, .ref gr_faceNeed])), (bk_tail, .inl (k_bk_tail, 14, .inl f_bk_tail)), (bk_head, .inl (k_bk_head, 14, .inl f_bk_head)), (bk_faceIn, .inl (k_bk_faceIn, 14, .inl f_bk_faceIn)), (gr_faceGas, .inl (k_gr_faceGas, 4, .inl f_gr_faceGas)), (ai, .inl (k_ai, 14, .inl f_ai)), (ld_gas, .inl (k_ld_gas, 14, .inl f_ld_gas)), (ld_coming, .inl (k_ld_coming, 10, .inl f_ld_coming)), (ld_waiting, .inl (k_ld_waiting, 10, .inl f_ld_waiting))] U.heap ∧ va_K (dC, dI) classes [(k_bk_tail, .int), (k_bk_head, .int), (k_bk_faceIn, .int), (k_gr_faceGas, .int), (k_ai, .int), (k_ld_gas, .int), (k_ld_coming, .int), (k_ld_waiting, .int)] U ∧ va_D (fun q => n0 ≤ q) [(ld, .inr (5, [.ref ld_gas, .int ld_ringed, .ref bk, .ref ld_coming, .ref ld_waiting, .ref ld_rest])), (bk, .inr (0, [.int (nI bw), .ref bk_tail, .ref bk_head, .ref bk_hinder, .ref bk_size, .ref bk_walk, .ref bk_draught, .ref bk_doorIn, .ref bk_fanIn, .ref bk_faceIn, .int (nI bn), .int bk_day, .ref gr])), (gr, .inr (3, [.int (nI gd), .ref gr_doorBy, .int (nI gp), .ref gr_pairFirst, .ref gr_pairSecond, .int (nI gf), .ref gr_fanPush, .ref gr_fanFall, .ref gr_fanCost, .int (nI ge), .ref gr_faceWay, .ref gr_faceGas, .ref gr_faceNeed])), (bk_tail, .inl (k_bk_tail, 14, .inl f_bk_tail)), (bk_head, .inl (k_bk_head, 14, .inl f_bk_head)), (bk_faceIn, .inl (k_bk_faceIn, 14, .inl f_bk_faceIn)), (gr_faceGas, .inl (k_gr_faceGas, 4, .inl f_gr_faceGas)), (ai, .inl (k_ai, 14, .inl f_ai)), (ld_gas, .inl (k_ld_gas, 14, .inl f_ld_gas)), (ld_coming, .inl (k_ld_coming, 10, .inl f_ld_coming)), (ld_waiting, .inl (k_ld_waiting, 10, .inl f_ld_waiting))])) (va_Qv (fun _ : Unit => True) (fun (_ : Unit) (t : State) => ∃ (ga9 : Nat → Int32), ∃ (co9 : Nat → Int32), ∃ (wa9 : Nat → Int32), va_P (dC, dI) classes [(ld, .inr (5, [.ref ld_gas, .int ld_ringed, .ref bk, .ref ld_coming, .ref ld_waiting, .ref ld_rest])), (bk, .inr (0, [.int (nI bw), .ref bk_tail, .ref bk_head, .ref bk_hinder, .ref bk_size, .ref bk_walk, .ref bk_draught, .ref bk_doorIn, .ref bk_fanIn, .ref bk_faceIn, .int (nI bn), .int bk_day, .ref gr])), (gr, .inr (3, [.int (nI gd), .ref gr_doorBy, .int (nI gp), .ref gr_pairFirst, .ref gr_pairSecond, .int (nI gf), .ref gr_fanPush, .ref gr_fanFall, .ref gr_fanCost, .int (nI ge), .ref gr_faceWay, .ref gr_faceGas, .ref gr_faceNeed])), (bk_tail, .inl (k_bk_tail, 14, .inl f_bk_tail)), (bk_head, .inl (k_bk_head, 14, .inl f_bk_head)), (bk_faceIn, .inl (k_bk_faceIn, 14, .inl f_bk_faceIn)), (gr_faceGas, .inl (k_gr_faceGas, 4, .inl f_gr_faceGas)), (ai, .inl (k_ai, 14, .inl f_ai)), (ld_gas, .inl (k_ld_gas, 14, .inl ga9)), (ld_coming, .inl (k_ld_coming, 10, .inl co9)), (ld_waiting, .inl (k_ld_waiting, 10, .inl wa9))] t.heap ∧ va_K (dC, dI) classes [(k_bk_tail, .int), (k_bk_head, .int), (k_bk_faceIn, .int), (k_gr_faceGas, .int), (k_ai, .int), (k_ld_gas, .int), (k_ld_coming, .int), (k_ld_waiting, .int)] t ∧ va_D (va_A [(ld, .inr (5, [.ref ld_gas, .int ld_ringed, .ref bk, .ref ld_coming, .ref ld_waiting, .ref ld_rest])), (bk, .inr (0, [.int (nI bw), .ref bk_tail, .ref bk_head, .ref bk_hinder, .ref bk_size, .ref bk_walk, .ref bk_draught, .ref bk_doorIn, .ref bk_fanIn, .ref bk_faceIn, .int (nI bn), .int bk_day, .ref gr])), (gr, .inr (3, [.int (nI gd), .ref gr_doorBy, .int (nI gp), .ref gr_pairFirst, .ref gr_pairSecond, .int (nI gf), .ref gr_fanPush, .ref gr_fanFall, .ref gr_fanCost, .int (nI ge), .ref gr_faceWay, .ref gr_faceGas, .ref gr_faceNeed])), (bk_tail, .inl (k_bk_tail, 14, .inl f_bk_tail)), (bk_head, .inl (k_bk_head, 14, .inl f_bk_head)), (bk_faceIn, .inl (k_bk_faceIn, 14, .inl f_bk_faceIn)), (gr_faceGas, .inl (k_gr_faceGas, 4, .inl f_gr_faceGas)), (ai, .inl (k_ai, 14, .inl f_ai)), (ld_gas, .inl (k_ld_gas, 14, .inl f_ld_gas)), (ld_coming, .inl (k_ld_coming, 10, .inl f_ld_coming)), (ld_waiting, .inl (k_ld_waiting, 10, .inl f_ld_waiting))] sz) [(ld, .inr (5, [.ref ld_gas, .int ld_ringed, .ref bk, .ref ld_coming, .ref ld_waiting, .ref ld_rest])), (bk, .inr (0, [.int (nI bw), .ref bk_tail, .ref bk_head, .ref bk_hinder, .ref bk_size, .ref bk_walk, .ref bk_draught, .ref bk_doorIn, .ref bk_fanIn, .ref bk_faceIn, .int (nI bn), .int bk_day, .ref gr])), (gr, .inr (3, [.int (nI gd), .ref gr_doorBy, .int (nI gp), .ref gr_pairFirst, .ref gr_pairSecond, .int (nI gf), .ref gr_fanPush, .ref gr_fanFall, .ref gr_fanCost, .int (nI ge), .ref gr_faceWay, .ref gr_faceGas, .ref gr_faceNeed])), (bk_tail, .inl (k_bk_tail, 14, .inl f_bk_tail)), (bk_head, .inl (k_bk_head, 14, .inl f_bk_head)), (bk_faceIn, .inl (k_bk_faceIn, 14, .inl f_bk_faceIn)), (gr_faceGas, .inl (k_gr_faceGas, 4, .inl f_gr_faceGas)), (ai, .inl (k_ai, 14, .inl f_ai)), (ld_gas, .inl (k_ld_gas, 14, .inl ga9)), (ld_coming, .inl (k_ld_coming, 10, .inl co9)), (ld_waiting, .inl (k_ld_waiting, 10, .inl wa9))]) (va_A [(ld, .inr (5, [.ref ld_gas, .int ld_ringed, .ref bk, .ref ld_coming, .ref ld_waiting, .ref ld_rest])), (bk, .inr (0, [.int (nI bw), .ref bk_tail, .ref bk_head, .ref bk_hinder, .ref bk_size, .ref bk_walk, .ref bk_draught, .ref bk_doorIn, .ref bk_fanIn, .ref bk_faceIn, .int (nI bn), .int bk_day, .ref gr])), (gr, .inr (3, [.int (nI gd), .ref gr_doorBy, .int (nI gp), .ref gr_pairFirst, .ref gr_pairSecond, .int (nI gf), .ref gr_fanPush, .ref gr_fanFall, .ref gr_fanCost, .int (nI ge), .ref gr_faceWay, .ref gr_faceGas, .ref gr_faceNeed])), (bk_tail, .inl (k_bk_tail, 14, .inl f_bk_tail)), (bk_head, .inl (k_bk_head, 14, .inl f_bk_head)), (bk_faceIn, .inl (k_bk_faceIn, 14, .inl f_bk_faceIn)), (gr_faceGas, .inl (k_gr_faceGas, 4, .inl f_gr_faceGas)), (ai, .inl (k_ai, 14, .inl f_ai)), (ld_gas, .inl (k_ld_gas, 14, .inl f_ld_gas)), (ld_coming, .inl (k_ld_coming, 10, .inl f_ld_coming)), (ld_waiting, .inl (k_ld_waiting, 10, .inl f_ld_waiting))] sz)) 0 0 (va_A [(ld, .inr (5, [.ref ld_gas, .int ld_ringed, .ref bk, .ref ld_coming, .ref ld_waiting, .ref ld_rest])), (bk, .inr (0, [.int (nI bw), .ref bk_tail, .ref bk_head, .ref bk_hinder, .ref bk_size, .ref bk_walk, .ref bk_draught, .ref bk_doorIn, .ref bk_fanIn, .ref bk_faceIn, .int (nI bn), .int bk_day, .ref gr])), (gr, .inr (3, [.int (nI gd), .ref gr_doorBy, .int (nI gp), .ref gr_pairFirst, .ref gr_pairSecond, .int (nI gf), .ref gr_fanPush, .ref gr_fanFall, .ref gr_fanCost, .int (nI ge), .ref gr_faceWay, .ref gr_faceGas, .ref gr_faceNeed])), (bk_tail, .inl (k_bk_tail, 14, .inl f_bk_tail)), (bk_head, .inl (k_bk_head, 14, .inl f_bk_head)), (bk_faceIn, .inl (k_bk_faceIn, 14, .inl f_bk_faceIn)), (gr_faceGas, .inl (k_gr_faceGas, 4, .inl f_gr_faceGas)), (ai, .inl (k_ai, 14, .inl f_ai)), (ld_gas, .inl (k_ld_gas, 14, .inl f_ld_gas)), (ld_coming, .inl (k_ld_coming, 10, .inl f_ld_coming)), (ld_waiting, .inl (k_ld_waiting, 10, .inl f_ld_waiting))] sz) := by
  refine Met.ofW (cc := cX5_countArrivals) (maxL := 4) (ret := none) (by decide) rfl ?_
  intro p e s m args below meth c s₁ B hml hv
  obtain ⟨rfl, hsz, hn0, hG, hP, hK, hD0⟩ := hv
  have hx := B.exec
  have hb := B.bytes
  have hr := B.returns
  have hts := atoms_spec (ws := wM yX5_countArrivals cX5_countArrivals 4 none) B.pre
  have hown : s.vm.findClass RX5 = some m.cls := findClass_of_methodNamed B.named
  have hlocks := B.notSynchronized
  subst hsz
  have hD := hD0.self (sz := s.heap.size)
  have hA0 := vA_n0 hD0 hn0
  generalize hAe : va_A [(ld, .inr (5, [.ref ld_gas, .int ld_ringed, .ref bk, .ref ld_coming, .ref ld_waiting, .ref ld_rest])), (bk, .inr (0, [.int (nI bw), .ref bk_tail, .ref bk_head, .ref bk_hinder, .ref bk_size, .ref bk_walk, .ref bk_draught, .ref bk_doorIn, .ref bk_fanIn, .ref bk_faceIn, .int (nI bn), .int bk_day, .ref gr])), (gr, .inr (3, [.int (nI gd), .ref gr_doorBy, .int (nI gp), .ref gr_pairFirst, .ref gr_pairSecond, .int (nI gf), .ref gr_fanPush, .ref gr_fanFall, .ref gr_fanCost, .int (nI ge), .ref gr_faceWay, .ref gr_faceGas, .ref gr_faceNeed])), (bk_tail, .inl (k_bk_tail, 14, .inl f_bk_tail)), (bk_head, .inl (k_bk_head, 14, .inl f_bk_head)), (bk_faceIn, .inl (k_bk_faceIn, 14, .inl f_bk_faceIn)), (gr_faceGas, .inl (k_gr_faceGas, 4, .inl f_gr_faceGas)), (ai, .inl (k_ai, 14, .inl f_ai)), (ld_gas, .inl (k_ld_gas, 14, .inl f_ld_gas)), (ld_coming, .inl (k_ld_coming, 10, .inl f_ld_coming)), (ld_waiting, .inl (k_ld_waiting, 10, .inl f_ld_waiting))] s.heap.size = A at hD hA0 ⊢
  have hA : ∀ q : Nat, s.heap.size ≤ q → A q := fun q h => by rw [← hAe]; exact Or.inr h
  have hS : va_S A s.heap s.heap [] := va_S.rf
  have hl := lv_entry ([.ref ld, .ref ai]) (n := 4) (Nat.le_of_ble_eq_true rfl)
  rw [lg_entry_eq]
  generalize (lg_sl ([.ref ld, .ref ai]) ++ List.replicate (4 - (lg_sl ([.ref ld, .ref ai])).length) Slot.unset).toArray = ls at hl ⊢
  have hl : lv_has ls 4 [(0, .ref ld), (1, .ref ai)] := hl
  refine lv_aload_n hx hb dX5_countArrivals_0 rfl (lv_at hl 0 rfl) ?_
  refine va_get (D := (dC, dI)) (ci := 5) (v := .ref ld_coming) (C := RX5) (T := TX5) (N := 6) hx hb hts (fun w h => wM_c (iX5 w h)) hown hK hP 0 rfl rfl 3 (by decide) (hts _ (wM_c wd_496)) (fun _ h9 => h9) rfl dX5_countArrivals_1 ?_
  refine lv_iconst (v := 0) hx hb dX5_countArrivals_4 (by decide) ?_
  obtain ⟨hPc, hDc, hFc⟩ := s3_c (ws' := [(ld_coming, .inl (k_ld_coming, 10, .inl f_ld_coming))]) [9] hP hD hS hA rfl (by decide)
  have hKc := hK.sub (tys' := [(k_ld_coming, .int)]) [6] rfl
  refine va_callv (va_runS (As := [.ref ld_coming, .int 0]) (rest := []) ⟨hx, hb, hml, hown, hts⟩ (c_fill10 l dC dI n0 atx s.heap.size ld_coming k_ld_coming f_ld_coming 0 ) (va_cwS 2 hts (gS (fun w h => wM_c h) wd_669 wd_1104 wd_668 wd_126) rfl rfl rfl (by decide +kernel) ⟨Nat.le_of_ble_eq_true rfl, Nat.le_of_ble_eq_true rfl⟩) ⟨fun a U g mk q => by obtain ⟨q0, q1, q2, qG, qP, qK, qD⟩ := q; exact ⟨q0, q1, q2, GW.blind qG, qP, va_K.moved (u := U) (U := U.calling g mk a) (Vm.Alike.refl U.vm) qK, qD⟩, fun U hU hW => ⟨rfl, by rw [hU], Nat.le_trans hn0 hS.1, GW.go hW hU hG (fun q hq hA9 => hS.2.1 q hq (fun h => hA9 (hA0 q h))), by rw [hU]; exact hPc, va_K.moved hW.alike hKc, hDc.weaken (fun _ _ _ h => hA0 _ h)⟩⟩ rfl rfl hl.1 rfl (lv_room (Nat.le_of_ble_eq_true rfl)) dX5_countArrivals_5 ⟨Nat.le_of_ble_eq_true rfl, Nat.le_of_ble_eq_true rfl⟩) hS (fun q _ h => hFc q h) hFc (fun u t H1 locs ht hvm hw_2 hB hz1 hk1 hS => ?_)
  obtain ⟨f2_3, hf_4, hP1, hK1, hD1⟩ := hB
  rw [ht] at hP1
  obtain ⟨hP, hD⟩ := s3_j (L := [(ld, .inr (5, [.ref ld_gas, .int ld_ringed, .ref bk, .ref ld_coming, .ref ld_waiting, .ref ld_rest])), (bk, .inr (0, [.int (nI bw), .ref bk_tail, .ref bk_head, .ref bk_hinder, .ref bk_size, .ref bk_walk, .ref bk_draught, .ref bk_doorIn, .ref bk_fanIn, .ref bk_faceIn, .int (nI bn), .int bk_day, .ref gr])), (gr, .inr (3, [.int (nI gd), .ref gr_doorBy, .int (nI gp), .ref gr_pairFirst, .ref gr_pairSecond, .int (nI gf), .ref gr_fanPush, .ref gr_fanFall, .ref gr_fanCost, .int (nI ge), .ref gr_faceWay, .ref gr_faceGas, .ref gr_faceNeed])), (bk_tail, .inl (k_bk_tail, 14, .inl f_bk_tail)), (bk_head, .inl (k_bk_head, 14, .inl f_bk_head)), (bk_faceIn, .inl (k_bk_faceIn, 14, .inl f_bk_faceIn)), (gr_faceGas, .inl (k_gr_faceGas, 4, .inl f_gr_faceGas)), (ai, .inl (k_ai, 14, .inl f_ai)), (ld_gas, .inl (k_ld_gas, 14, .inl f_ld_gas)), (ld_waiting, .inl (k_ld_waiting, 10, .inl f_ld_waiting)), (ld_coming, .inl (k_ld_coming, 10, .inl f2_3))]) 10 hP hD [9] [0, 1, 2, 3, 4, 5, 6, 7, 8, 10] hk1 hFc hP1 hD1 rfl rfl rfl (by decide) (by decide)
  generalize H1 = H at hP hS ⊢
  refine lv_aload_n hx hb dX5_countArrivals_8 rfl (lv_at hl 0 rfl) ?_
  refine va_get (D := (dC, dI)) (ci := 5) (v := .ref ld_waiting) (C := RX5) (T := TX5) (N := 6) hx hb hts (fun w h => wM_c (iX5 w h)) hown hK hP 0 rfl rfl 4 (by decide) (hts _ (wM_c wd_497)) (fun _ h9 => h9) rfl dX5_countArrivals_9 ?_
  refine lv_iconst (v := 0) hx hb dX5_countArrivals_12 (by decide) ?_
  obtain ⟨hPc, hDc, hFc⟩ := s3_c (ws' := [(ld_waiting, .inl (k_ld_waiting, 10, .inl f_ld_waiting))]) [9] hP hD hS hA rfl (by decide)
  have hKc := hK.sub (tys' := [(k_ld_waiting, .int)]) [7] rfl
  refine va_callv (va_runS (As := [.ref ld_waiting, .int 0]) (rest := []) ⟨hx, hb, hml, hown, hts⟩ (c_fill10 l dC dI n0 atx H.size ld_waiting k_ld_waiting f_ld_waiting 0 ) (va_cwS 2 hts (gS (fun w h => wM_c h) wd_669 wd_1104 wd_668 wd_126) rfl rfl rfl (by decide +kernel) ⟨Nat.le_of_ble_eq_true rfl, Nat.le_of_ble_eq_true rfl⟩) ⟨fun a U g mk q => by obtain ⟨q0, q1, q2, qG, qP, qK, qD⟩ := q; exact ⟨q0, q1, q2, GW.blind qG, qP, va_K.moved (u := U) (U := U.calling g mk a) (Vm.Alike.refl U.vm) qK, qD⟩, fun U hU hW => ⟨rfl, by rw [hU], Nat.le_trans hn0 hS.1, GW.go hW hU hG (fun q hq hA9 => hS.2.1 q hq (fun h => hA9 (hA0 q h))), by rw [hU]; exact hPc, va_K.moved hW.alike hKc, hDc.weaken (fun _ _ _ h => hA0 _ h)⟩⟩ rfl rfl hl.1 rfl (lv_room (Nat.le_of_ble_eq_true rfl)) dX5_countArrivals_13 ⟨Nat.le_of_ble_eq_true rfl, Nat.le_of_ble_eq_true rfl⟩) hS (fun q _ h => hFc q h) hFc (fun u t H1 locs ht hvm hw_6 hB hz1 hk1 hS => ?_)
  obtain ⟨f2_7, hf_8, hP1, hK1, hD1⟩ := hB
  rw [ht] at hP1
  obtain ⟨hP, hD⟩ := s3_j (L := [(ld, .inr (5, [.ref ld_gas, .int ld_ringed, .ref bk, .ref ld_coming, .ref ld_waiting, .ref ld_rest])), (bk, .inr (0, [.int (nI bw), .ref bk_tail, .ref bk_head, .ref bk_hinder, .ref bk_size, .ref bk_walk, .ref bk_draught, .ref bk_doorIn, .ref bk_fanIn, .ref bk_faceIn, .int (nI bn), .int bk_day, .ref gr])), (gr, .inr (3, [.int (nI gd), .ref gr_doorBy, .int (nI gp), .ref gr_pairFirst, .ref gr_pairSecond, .int (nI gf), .ref gr_fanPush, .ref gr_fanFall, .ref gr_fanCost, .int (nI ge), .ref gr_faceWay, .ref gr_faceGas, .ref gr_faceNeed])), (bk_tail, .inl (k_bk_tail, 14, .inl f_bk_tail)), (bk_head, .inl (k_bk_head, 14, .inl f_bk_head)), (bk_faceIn, .inl (k_bk_faceIn, 14, .inl f_bk_faceIn)), (gr_faceGas, .inl (k_gr_faceGas, 4, .inl f_gr_faceGas)), (ai, .inl (k_ai, 14, .inl f_ai)), (ld_gas, .inl (k_ld_gas, 14, .inl f_ld_gas)), (ld_coming, .inl (k_ld_coming, 10, .inl f2_3)), (ld_waiting, .inl (k_ld_waiting, 10, .inl f2_7))]) 10 hP hD [9] [0, 1, 2, 3, 4, 5, 6, 7, 8, 10] hk1 hFc hP1 hD1 rfl rfl rfl (by decide) (by decide)
  generalize H1 = H at hP hS ⊢
  refine lv_iconst (v := 0) hx hb dX5_countArrivals_16 (by decide) ?_
  refine lv_istore_n (lv' := [(2, .int 0), (0, .ref ld), (1, .ref ai)]) hx hb dX5_countArrivals_17 rfl hl (by decide) rfl (fun ls hl => ?_)
  refine W_lp3 (I := fun (i : Nat) (ga1 : Nat → Int32) (wa1 : Nat → Int32) H locs ls => (i ≤ bw) ∧ va_P (dC, dI) classes [(ld, .inr (5, [.ref ld_gas, .int ld_ringed, .ref bk, .ref ld_coming, .ref ld_waiting, .ref ld_rest])), (bk, .inr (0, [.int (nI bw), .ref bk_tail, .ref bk_head, .ref bk_hinder, .ref bk_size, .ref bk_walk, .ref bk_draught, .ref bk_doorIn, .ref bk_fanIn, .ref bk_faceIn, .int (nI bn), .int bk_day, .ref gr])), (gr, .inr (3, [.int (nI gd), .ref gr_doorBy, .int (nI gp), .ref gr_pairFirst, .ref gr_pairSecond, .int (nI gf), .ref gr_fanPush, .ref gr_fanFall, .ref gr_fanCost, .int (nI ge), .ref gr_faceWay, .ref gr_faceGas, .ref gr_faceNeed])), (bk_tail, .inl (k_bk_tail, 14, .inl f_bk_tail)), (bk_head, .inl (k_bk_head, 14, .inl f_bk_head)), (bk_faceIn, .inl (k_bk_faceIn, 14, .inl f_bk_faceIn)), (gr_faceGas, .inl (k_gr_faceGas, 4, .inl f_gr_faceGas)), (ai, .inl (k_ai, 14, .inl f_ai)), (ld_gas, .inl (k_ld_gas, 14, .inl ga1)), (ld_coming, .inl (k_ld_coming, 10, .inl f2_3)), (ld_waiting, .inl (k_ld_waiting, 10, .inl wa1))] H ∧ va_D A [(ld, .inr (5, [.ref ld_gas, .int ld_ringed, .ref bk, .ref ld_coming, .ref ld_waiting, .ref ld_rest])), (bk, .inr (0, [.int (nI bw), .ref bk_tail, .ref bk_head, .ref bk_hinder, .ref bk_size, .ref bk_walk, .ref bk_draught, .ref bk_doorIn, .ref bk_fanIn, .ref bk_faceIn, .int (nI bn), .int bk_day, .ref gr])), (gr, .inr (3, [.int (nI gd), .ref gr_doorBy, .int (nI gp), .ref gr_pairFirst, .ref gr_pairSecond, .int (nI gf), .ref gr_fanPush, .ref gr_fanFall, .ref gr_fanCost, .int (nI ge), .ref gr_faceWay, .ref gr_faceGas, .ref gr_faceNeed])), (bk_tail, .inl (k_bk_tail, 14, .inl f_bk_tail)), (bk_head, .inl (k_bk_head, 14, .inl f_bk_head)), (bk_faceIn, .inl (k_bk_faceIn, 14, .inl f_bk_faceIn)), (gr_faceGas, .inl (k_gr_faceGas, 4, .inl f_gr_faceGas)), (ai, .inl (k_ai, 14, .inl f_ai)), (ld_gas, .inl (k_ld_gas, 14, .inl ga1)), (ld_coming, .inl (k_ld_coming, 10, .inl f2_3)), (ld_waiting, .inl (k_ld_waiting, 10, .inl wa1))] ∧ va_S A s.heap H locs ∧ lv_has ls 4 [(0, .ref ld), (1, .ref ai), (2, .int (nI i))]) (μ := fun (i : Nat) (ga1 : Nat → Int32) (wa1 : Nat → Int32) => bw - i) ?_ 0 f_ld_gas f2_7 _ _ _ ⟨(by first | with_reducible assumption | omega | exact vp_in_iff.mpr (by omega) | exact vp_in_nI (by omega) (by omega) | exact ⟨by omega, by omega⟩), hP, hD, hS, lv_sub hl [1, 2, 0] rfl⟩
  intro i ga1 wa1 H locs ls hI ih_9
  obtain ⟨hi, hP, hD, hS, hl⟩ := hI
  refine lv_iload_n hx hb dX5_countArrivals_18 rfl (lv_at hl 2 rfl) ?_
  refine lv_aload_n hx hb dX5_countArrivals_19 rfl (lv_at hl 0 rfl) ?_
  refine va_get (D := (dC, dI)) (ci := 5) (v := .ref bk) (C := RX5) (T := TX5) (N := 6) hx hb hts (fun w h => wM_c (iX5 w h)) hown hK hP 0 rfl rfl 2 (by decide) (hts _ (wM_c wd_495)) (fun _ h9 => h9) rfl dX5_countArrivals_20 ?_
  refine va_get (D := (dC, dI)) (ci := 0) (v := .int (nI bw)) (C := RX0) (T := TX0) (N := 13) hx hb hts (fun w h => wM_c (iX0 w h)) hown hK hP 1 rfl rfl 0 (by decide) (hts _ (wM_c wd_242)) (fun _ h9 => h9) rfl dX5_countArrivals_23 ?_
  refine lv_icmp_ge (tgt := 91) hx hb dX5_countArrivals_26 (by decide) (fun c_10 => ?_) (fun c_10 => ?_)
  · skip
    have g_11 := n_ge (a := i) (b := bw) c_10 (by omega) (by omega)
    have hK9 := hK.sub (tys' := [(k_bk_tail, .int), (k_bk_head, .int), (k_bk_faceIn, .int), (k_gr_faceGas, .int), (k_ai, .int), (k_ld_gas, .int), (k_ld_coming, .int), (k_ld_waiting, .int)]) [0, 1, 2, 3, 4, 5, 6, 7] rfl
    exact W.vret hx hb hr (fun t ht hW => ⟨⟨(), rfl, trivial, ga1, f2_3, wa1, by rw [ht]; exact hP.sub [0, 1, 2, 3, 4, 5, 6, 7, 8, 9, 10] rfl, va_K.moved hW.alike hK9, hD.sub [0, 1, 2, 3, 4, 5, 6, 7, 8, 9, 10] (by decide) rfl⟩, hS.F ht⟩) hS.2.2 dX5_countArrivals_91
  · skip
    have g_12 := n_nge (a := i) (b := bw) c_10 (by omega) (by omega)
    refine lv_aload_n hx hb dX5_countArrivals_29 rfl (lv_at hl 0 rfl) ?_
    refine va_get (D := (dC, dI)) (ci := 5) (v := .ref ld_gas) (C := RX5) (T := TX5) (N := 6) hx hb hts (fun w h => wM_c (iX5 w h)) hown hK hP 0 rfl rfl 0 (by decide) (hts _ (wM_c wd_489)) (fun _ h9 => h9) rfl dX5_countArrivals_30 ?_
    refine lv_iload_n hx hb dX5_countArrivals_33 rfl (lv_at hl 2 rfl) ?_
    refine lv_aload_n hx hb dX5_countArrivals_34 rfl (lv_at hl 0 rfl) ?_
    refine va_get (D := (dC, dI)) (ci := 5) (v := .ref bk) (C := RX5) (T := TX5) (N := 6) hx hb hts (fun w h => wM_c (iX5 w h)) hown hK hP 0 rfl rfl 2 (by decide) (hts _ (wM_c wd_495)) (fun _ h9 => h9) rfl dX5_countArrivals_35 ?_
    refine lv_iload_n hx hb dX5_countArrivals_38 rfl (lv_at hl 2 rfl) ?_
    obtain ⟨hPc, hDc, hFc⟩ := s3_c (ws' := [(bk, .inr (0, [.int (nI bw), .ref bk_tail, .ref bk_head, .ref bk_hinder, .ref bk_size, .ref bk_walk, .ref bk_draught, .ref bk_doorIn, .ref bk_fanIn, .ref bk_faceIn, .int (nI bn), .int bk_day, .ref gr])), (gr, .inr (3, [.int (nI gd), .ref gr_doorBy, .int (nI gp), .ref gr_pairFirst, .ref gr_pairSecond, .int (nI gf), .ref gr_fanPush, .ref gr_fanFall, .ref gr_fanCost, .int (nI ge), .ref gr_faceWay, .ref gr_faceGas, .ref gr_faceNeed])), (bk_faceIn, .inl (k_bk_faceIn, 14, .inl f_bk_faceIn)), (gr_faceGas, .inl (k_gr_faceGas, 4, .inl f_gr_faceGas))]) [1, 2, 5, 6] hP hD hS hA rfl (by decide)
    have hKc := hK.sub (tys' := [(k_bk_faceIn, .int), (k_gr_faceGas, .int)]) [2, 3] rfl
    refine va_calli (va_runV (As := [.int (nI i)]) (rest := [.int (nI i), .ref ld_gas]) ⟨hx, hb, hml, hown, hts⟩ (c0_faceGasIn l dC dI n0 atx H.size bk bw bk_tail bk_head bk_hinder bk_size bk_walk bk_draught bk_doorIn bk_fanIn bk_faceIn bn bk_day gr gd gr_doorBy gp gr_pairFirst gr_pairSecond gf gr_fanPush gr_fanFall gr_fanCost ge gr_faceWay gr_faceGas gr_faceNeed k_bk_faceIn f_bk_faceIn k_gr_faceGas f_gr_faceGas (nI i) (by first | with_reducible assumption | omega | exact vp_in_iff.mpr (by omega) | exact vp_in_nI (by omega) (by omega) | exact ⟨by omega, by omega⟩) (by first | with_reducible assumption | omega | exact vp_in_iff.mpr (by omega) | exact vp_in_nI (by omega) (by omega) | exact ⟨by omega, by omega⟩) (by first | with_reducible assumption | omega | exact vp_in_iff.mpr (by omega) | exact vp_in_nI (by omega) (by omega) | exact ⟨by omega, by omega⟩) (by first | with_reducible assumption | omega | exact vp_in_iff.mpr (by omega) | exact vp_in_nI (by omega) (by omega) | exact ⟨by omega, by omega⟩) (by first | with_reducible assumption | omega | exact vp_in_iff.mpr (by omega) | exact vp_in_nI (by omega) (by omega) | exact ⟨by omega, by omega⟩) (by first | with_reducible assumption | omega | exact vp_in_iff.mpr (by omega) | exact vp_in_nI (by omega) (by omega) | exact ⟨by omega, by omega⟩) (by first | with_reducible assumption | omega | exact vp_in_iff.mpr (by omega) | exact vp_in_nI (by omega) (by omega) | exact ⟨by omega, by omega⟩) (by first | with_reducible assumption | omega | exact vp_in_iff.mpr (by omega) | exact vp_in_nI (by omega) (by omega) | exact ⟨by omega, by omega⟩) (by first | with_reducible assumption | omega | exact vp_in_iff.mpr (by omega) | exact vp_in_nI (by omega) (by omega) | exact ⟨by omega, by omega⟩)) (cwV 1 hts (gV (fun w h => wM_c h) wd_1108 wd_1105 wd_1106 wd_1107 wd_115) rfl rfl rfl (by decide +kernel) ⟨Nat.le_of_ble_eq_true rfl, Nat.le_of_ble_eq_true rfl⟩) ⟨fun a U g mk q => by obtain ⟨q0, q1, q2, qG, qP, qK, qD⟩ := q; exact ⟨q0, q1, q2, GW.blind qG, qP, va_K.moved (u := U) (U := U.calling g mk a) (Vm.Alike.refl U.vm) qK, qD⟩, va_recv hKc hPc (ci := 0) (q0 := 0) rfl rfl, fun U hU hW => ⟨rfl, by rw [hU], Nat.le_trans hn0 hS.1, GW.go hW hU hG (fun q hq hA9 => hS.2.1 q hq (fun h => hA9 (hA0 q h))), by rw [hU]; exact hPc, va_K.moved hW.alike hKc, hDc.weaken (fun _ _ _ h => hA0 _ h)⟩⟩ rfl rfl hl.1 rfl (lv_room (Nat.le_of_ble_eq_true rfl)) dX5_countArrivals_39 ⟨Nat.le_of_ble_eq_true rfl, Nat.le_of_ble_eq_true rfl⟩) hS (fun q _ h => hFc q h) hFc (fun r_13 u t H1 locs ht hvm hw_14 hB hz1 hk1 hS => ?_)
    obtain ⟨hP1, hK1, hD1⟩ := hB
    rw [ht] at hP1
    obtain ⟨hP, hD⟩ := s3_j (L := [(ld, .inr (5, [.ref ld_gas, .int ld_ringed, .ref bk, .ref ld_coming, .ref ld_waiting, .ref ld_rest])), (bk_tail, .inl (k_bk_tail, 14, .inl f_bk_tail)), (bk_head, .inl (k_bk_head, 14, .inl f_bk_head)), (ai, .inl (k_ai, 14, .inl f_ai)), (ld_gas, .inl (k_ld_gas, 14, .inl ga1)), (ld_coming, .inl (k_ld_coming, 10, .inl f2_3)), (ld_waiting, .inl (k_ld_waiting, 10, .inl wa1)), (bk, .inr (0, [.int (nI bw), .ref bk_tail, .ref bk_head, .ref bk_hinder, .ref bk_size, .ref bk_walk, .ref bk_draught, .ref bk_doorIn, .ref bk_fanIn, .ref bk_faceIn, .int (nI bn), .int bk_day, .ref gr])), (gr, .inr (3, [.int (nI gd), .ref gr_doorBy, .int (nI gp), .ref gr_pairFirst, .ref gr_pairSecond, .int (nI gf), .ref gr_fanPush, .ref gr_fanFall, .ref gr_fanCost, .int (nI ge), .ref gr_faceWay, .ref gr_faceGas, .ref gr_faceNeed])), (bk_faceIn, .inl (k_bk_faceIn, 14, .inl f_bk_faceIn)), (gr_faceGas, .inl (k_gr_faceGas, 4, .inl f_gr_faceGas))]) 7 hP hD [1, 2, 5, 6] [0, 3, 4, 7, 8, 9, 10] hk1 hFc hP1 hD1 rfl rfl rfl (by decide) (by decide)
    generalize H1 = H at hP hS ⊢
    refine va_iast hx hb hK hP hD hS 4 5 rfl rfl (vp_in_nI (n := i) (by omega) (by omega)) dX5_countArrivals_42 (fun H locs hP hD hS => ?_)
    obtain ⟨f_15, ef_15⟩ : ∃ f9, f9 = (upd ga1 (nI i).toNatClampNeg r_13) := ⟨_, rfl⟩
    obtain ⟨hP, hD⟩ : s3_w (dC, dI) classes A [(ld, .inr (5, [.ref ld_gas, .int ld_ringed, .ref bk, .ref ld_coming, .ref ld_waiting, .ref ld_rest])), (bk_tail, .inl (k_bk_tail, 14, .inl f_bk_tail)), (bk_head, .inl (k_bk_head, 14, .inl f_bk_head)), (ai, .inl (k_ai, 14, .inl f_ai)), (ld_gas, .inl (k_ld_gas, 14, .inl f_15)), (ld_coming, .inl (k_ld_coming, 10, .inl f2_3)), (ld_waiting, .inl (k_ld_waiting, 10, .inl wa1)), (bk, .inr (0, [.int (nI bw), .ref bk_tail, .ref bk_head, .ref bk_hinder, .ref bk_size, .ref bk_walk, .ref bk_draught, .ref bk_doorIn, .ref bk_fanIn, .ref bk_faceIn, .int (nI bn), .int bk_day, .ref gr])), (gr, .inr (3, [.int (nI gd), .ref gr_doorBy, .int (nI gp), .ref gr_pairFirst, .ref gr_pairSecond, .int (nI gf), .ref gr_fanPush, .ref gr_fanFall, .ref gr_fanCost, .int (nI ge), .ref gr_faceWay, .ref gr_faceGas, .ref gr_faceNeed])), (bk_faceIn, .inl (k_bk_faceIn, 14, .inl f_bk_faceIn)), (gr_faceGas, .inl (k_gr_faceGas, 4, .inl f_gr_faceGas))] H := ⟨(by rw [ef_15]; exact hP), (by rw [ef_15]; exact hD)⟩
    refine lv_aload_n hx hb dX5_countArrivals_43 rfl (lv_at hl 1 rfl) ?_
    refine lv_iload_n hx hb dX5_countArrivals_44 rfl (lv_at hl 2 rfl) ?_
    refine va_iald hx hb hK hP 3 4 rfl rfl (vp_in_nI (n := i) (by omega) (by omega)) dX5_countArrivals_45 ?_
    refine lv_topi (fun v_16 ev_16 => ?_)
    have nv_16 : v_16 = f_ai i := by rw [ev_16]; exact congrArg _ (nI_clamp (by omega))
    refine lv_if_ne (tgt := 52) hx hb dX5_countArrivals_46 (by decide) (fun c_17 => ?_) (fun c_17 => ?_)
    · skip
      have g_18 : v_16.toInt ≠ (0 : Int) := i_ne c_17
      refine lv_aload_n hx hb dX5_countArrivals_52 rfl (lv_at hl 0 rfl) ?_
      refine va_get (D := (dC, dI)) (ci := 5) (v := .ref bk) (C := RX5) (T := TX5) (N := 6) hx hb hts (fun w h => wM_c (iX5 w h)) hown hK hP 0 rfl rfl 2 (by decide) (hts _ (wM_c wd_495)) (fun _ h9 => h9) rfl dX5_countArrivals_53 ?_
      refine lv_iload_n hx hb dX5_countArrivals_56 rfl (lv_at hl 2 rfl) ?_
      refine lv_aload_n hx hb dX5_countArrivals_57 rfl (lv_at hl 1 rfl) ?_
      refine lv_iload_n hx hb dX5_countArrivals_58 rfl (lv_at hl 2 rfl) ?_
      refine va_iald hx hb hK hP 3 4 rfl rfl (vp_in_nI (n := i) (by omega) (by omega)) dX5_countArrivals_59 ?_
      refine lv_topi (fun v_19 ev_19 => ?_)
      have nv_19 : v_19 = f_ai i := by rw [ev_19]; exact congrArg _ (nI_clamp (by omega))
      obtain ⟨hPc, hDc, hFc⟩ := s3_c (ws' := [(bk, .inr (0, [.int (nI bw), .ref bk_tail, .ref bk_head, .ref bk_hinder, .ref bk_size, .ref bk_walk, .ref bk_draught, .ref bk_doorIn, .ref bk_fanIn, .ref bk_faceIn, .int (nI bn), .int bk_day, .ref gr])), (bk_tail, .inl (k_bk_tail, 14, .inl f_bk_tail)), (bk_head, .inl (k_bk_head, 14, .inl f_bk_head))]) [7, 1, 2] hP hD hS hA rfl (by decide)
      have hKc := hK.sub (tys' := [(k_bk_tail, .int), (k_bk_head, .int)]) [0, 1] rfl
      refine va_calli (va_runV (As := [.int (nI i), .int v_19]) (rest := []) ⟨hx, hb, hml, hown, hts⟩ (c0_endOf l dC dI n0 atx H.size bk bw bk_tail bk_head bk_hinder bk_size bk_walk bk_draught bk_doorIn bk_fanIn bk_faceIn bn bk_day gr k_bk_tail f_bk_tail k_bk_head f_bk_head (nI i) v_19 (by first | with_reducible assumption | omega | exact vp_in_iff.mpr (by omega) | exact vp_in_nI (by omega) (by omega) | exact ⟨by omega, by omega⟩) (by first | with_reducible assumption | omega | exact vp_in_iff.mpr (by omega) | exact vp_in_nI (by omega) (by omega) | exact ⟨by omega, by omega⟩) (by first | with_reducible assumption | omega | exact vp_in_iff.mpr (by omega) | exact vp_in_nI (by omega) (by omega) | exact ⟨by omega, by omega⟩) (by first | with_reducible assumption | omega | exact vp_in_iff.mpr (by omega) | exact vp_in_nI (by omega) (by omega) | exact ⟨by omega, by omega⟩) (by first | with_reducible assumption | omega | exact vp_in_iff.mpr (by omega) | exact vp_in_nI (by omega) (by omega) | exact ⟨by omega, by omega⟩) (by first | with_reducible assumption | omega | exact vp_in_iff.mpr (by omega) | exact vp_in_nI (by omega) (by omega) | exact ⟨by omega, by omega⟩)) (cwV 2 hts (gV (fun w h => wM_c h) wd_1112 wd_1109 wd_1110 wd_1111 wd_115) rfl rfl rfl (by decide +kernel) ⟨Nat.le_of_ble_eq_true rfl, Nat.le_of_ble_eq_true rfl⟩) ⟨fun a U g mk q => by obtain ⟨q0, q1, q2, qG, qP, qK, qD⟩ := q; exact ⟨q0, q1, q2, GW.blind qG, qP, va_K.moved (u := U) (U := U.calling g mk a) (Vm.Alike.refl U.vm) qK, qD⟩, va_recv hKc hPc (ci := 0) (q0 := 0) rfl rfl, fun U hU hW => ⟨rfl, by rw [hU], Nat.le_trans hn0 hS.1, GW.go hW hU hG (fun q hq hA9 => hS.2.1 q hq (fun h => hA9 (hA0 q h))), by rw [hU]; exact hPc, va_K.moved hW.alike hKc, hDc.weaken (fun _ _ _ h => hA0 _ h)⟩⟩ rfl rfl hl.1 rfl (lv_room (Nat.le_of_ble_eq_true rfl)) dX5_countArrivals_60 ⟨Nat.le_of_ble_eq_true rfl, Nat.le_of_ble_eq_true rfl⟩) hS (fun q _ h => hFc q h) hFc (fun r_20 u t H1 locs ht hvm hw_21 hB hz1 hk1 hS => ?_)
      obtain ⟨hP1, hK1, hD1⟩ := hB
      rw [ht] at hP1
      obtain ⟨hP, hD⟩ := s3_j (L := [(ld, .inr (5, [.ref ld_gas, .int ld_ringed, .ref bk, .ref ld_coming, .ref ld_waiting, .ref ld_rest])), (ai, .inl (k_ai, 14, .inl f_ai)), (ld_gas, .inl (k_ld_gas, 14, .inl f_15)), (ld_coming, .inl (k_ld_coming, 10, .inl f2_3)), (ld_waiting, .inl (k_ld_waiting, 10, .inl wa1)), (gr, .inr (3, [.int (nI gd), .ref gr_doorBy, .int (nI gp), .ref gr_pairFirst, .ref gr_pairSecond, .int (nI gf), .ref gr_fanPush, .ref gr_fanFall, .ref gr_fanCost, .int (nI ge), .ref gr_faceWay, .ref gr_faceGas, .ref gr_faceNeed])), (bk_faceIn, .inl (k_bk_faceIn, 14, .inl f_bk_faceIn)), (gr_faceGas, .inl (k_gr_faceGas, 4, .inl f_gr_faceGas)), (bk, .inr (0, [.int (nI bw), .ref bk_tail, .ref bk_head, .ref bk_hinder, .ref bk_size, .ref bk_walk, .ref bk_draught, .ref bk_doorIn, .ref bk_fanIn, .ref bk_faceIn, .int (nI bn), .int bk_day, .ref gr])), (bk_tail, .inl (k_bk_tail, 14, .inl f_bk_tail)), (bk_head, .inl (k_bk_head, 14, .inl f_bk_head))]) 8 hP hD [7, 1, 2] [0, 3, 4, 5, 6, 8, 9, 10] hk1 hFc hP1 hD1 rfl rfl rfl (by decide) (by decide)
      generalize H1 = H at hP hS ⊢
      refine lv_istore_n (lv' := [(3, .int r_20), (0, .ref ld), (1, .ref ai), (2, .int (nI i))]) hx hb dX5_countArrivals_63 rfl hl (by decide) rfl (fun ls hl => ?_)
      refine lv_iload_n hx hb dX5_countArrivals_64 rfl (lv_at hl 0 rfl) ?_
      refine lv_aload_n hx hb dX5_countArrivals_65 rfl (lv_at hl 1 rfl) ?_
      refine va_get (D := (dC, dI)) (ci := 5) (v := .ref bk) (C := RX5) (T := TX5) (N := 6) hx hb hts (fun w h => wM_c (iX5 w h)) hown hK hP 0 rfl rfl 2 (by decide) (hts _ (wM_c wd_495)) (fun _ h9 => h9) rfl dX5_countArrivals_66 ?_
      refine va_get (D := (dC, dI)) (ci := 0) (v := .int bk_day) (C := RX0) (T := TX0) (N := 13) hx hb hts (fun w h => wM_c (iX0 w h)) hown hK hP 8 rfl rfl 11 (by decide) (hts _ (wM_c wd_289)) (fun _ h9 => h9) rfl dX5_countArrivals_69 ?_
      refine lv_icmp_eq (tgt := 85) hx hb dX5_countArrivals_72 (by decide) (fun c_22 => ?_) (fun c_22 => ?_)
      · skip
        have g_23 : r_20.toInt = bk_day.toInt := i_eq c_22
        refine lv_iinc (v := (nI (i + 1))) (lv' := [(2, .int (nI (i + 1))), (3, .int r_20), (0, .ref ld), (1, .ref ai)]) hx hb dX5_countArrivals_85 hl (k := 3) rfl (nI_add _ 1) (by decide) rfl (fun ls hl => ?_)
        refine lv_goto (tgt := 18) hx hb dX5_countArrivals_88 (by decide) ?_
        exact ih_9 (i + 1) f_15 wa1 _ _ _ ⟨(by first | with_reducible assumption | omega | exact vp_in_iff.mpr (by omega) | exact vp_in_nI (by omega) (by omega) | exact ⟨by omega, by omega⟩), hP.sub [0, 8, 5, 9, 10, 6, 7, 1, 2, 3, 4] rfl, hD.sub [0, 8, 5, 9, 10, 6, 7, 1, 2, 3, 4] (by decide) rfl, hS, lv_sub hl [2, 3, 0] rfl⟩ (by omega)
      · skip
        have g_24 : r_20.toInt ≠ bk_day.toInt := i_ne c_22
        refine lv_aload_n hx hb dX5_countArrivals_75 rfl (lv_at hl 1 rfl) ?_
        refine va_get (D := (dC, dI)) (ci := 5) (v := .ref ld_waiting) (C := RX5) (T := TX5) (N := 6) hx hb hts (fun w h => wM_c (iX5 w h)) hown hK hP 0 rfl rfl 4 (by decide) (hts _ (wM_c wd_497)) (fun _ h9 => h9) rfl dX5_countArrivals_76 ?_
        refine lv_iload_n hx hb dX5_countArrivals_79 rfl (lv_at hl 0 rfl) ?_
        refine lv_dup2_11 hx hb dX5_countArrivals_80 rfl rfl ?_
        refine va_iald hx hb hK hP 4 7 rfl rfl (by first | with_reducible assumption | exact vp_in_iff.mpr (by omega)) dX5_countArrivals_81 ?_
        refine lv_topi (fun v_25 ev_25 => ?_)
        refine lv_iconst (v := 1) hx hb dX5_countArrivals_82 (by decide) ?_
        refine lv_iadd hx hb dX5_countArrivals_83 ?_
        refine lv_topi (fun v_26 ev_26 => ?_)
        refine va_iast hx hb hK hP hD hS 4 7 rfl rfl (by first | with_reducible assumption | exact vp_in_iff.mpr (by omega)) dX5_countArrivals_84 (fun H locs hP hD hS => ?_)
        obtain ⟨f_27, ef_27⟩ : ∃ f9, f9 = (upd wa1 r_20.toNatClampNeg v_26) := ⟨_, rfl⟩
        obtain ⟨hP, hD⟩ : s3_w (dC, dI) classes A [(ld, .inr (5, [.ref ld_gas, .int ld_ringed, .ref bk, .ref ld_coming, .ref ld_waiting, .ref ld_rest])), (ai, .inl (k_ai, 14, .inl f_ai)), (ld_gas, .inl (k_ld_gas, 14, .inl f_15)), (ld_coming, .inl (k_ld_coming, 10, .inl f2_3)), (ld_waiting, .inl (k_ld_waiting, 10, .inl f_27)), (gr, .inr (3, [.int (nI gd), .ref gr_doorBy, .int (nI gp), .ref gr_pairFirst, .ref gr_pairSecond, .int (nI gf), .ref gr_fanPush, .ref gr_fanFall, .ref gr_fanCost, .int (nI ge), .ref gr_faceWay, .ref gr_faceGas, .ref gr_faceNeed])), (bk_faceIn, .inl (k_bk_faceIn, 14, .inl f_bk_faceIn)), (gr_faceGas, .inl (k_gr_faceGas, 4, .inl f_gr_faceGas)), (bk, .inr (0, [.int (nI bw), .ref bk_tail, .ref bk_head, .ref bk_hinder, .ref bk_size, .ref bk_walk, .ref bk_draught, .ref bk_doorIn, .ref bk_fanIn, .ref bk_faceIn, .int (nI bn), .int bk_day, .ref gr])), (bk_tail, .inl (k_bk_tail, 14, .inl f_bk_tail)), (bk_head, .inl (k_bk_head, 14, .inl f_bk_head))] H := ⟨(by rw [ef_27]; exact hP), (by rw [ef_27]; exact hD)⟩
        refine lv_iinc (v := (nI (i + 1))) (lv' := [(2, .int (nI (i + 1))), (3, .int r_20), (0, .ref ld), (1, .ref ai)]) hx hb dX5_countArrivals_85 hl (k := 3) rfl (nI_add _ 1) (by decide) rfl (fun ls hl => ?_)
        refine lv_goto (tgt := 18) hx hb dX5_countArrivals_88 (by decide) ?_
        exact ih_9 (i + 1) f_15 f_27 _ _ _ ⟨(by first | with_reducible assumption | omega | exact vp_in_iff.mpr (by omega) | exact vp_in_nI (by omega) (by omega) | exact ⟨by omega, by omega⟩), hP.sub [0, 8, 5, 9, 10, 6, 7, 1, 2, 3, 4] rfl, hD.sub [0, 8, 5, 9, 10, 6, 7, 1, 2, 3, 4] (by decide) rfl, hS, lv_sub hl [2, 3, 0] rfl⟩ (by omega)
    · skip
      have g_28 : v_16.toInt = (0 : Int) := i_eq c_17
      refine lv_goto (tgt := 85) hx hb dX5_countArrivals_49 (by decide) ?_
      refine lv_iinc (v := (nI (i + 1))) (lv' := [(2, .int (nI (i + 1))), (0, .ref ld), (1, .ref ai)]) hx hb dX5_countArrivals_85 hl (k := 2) rfl (nI_add _ 1) (by decide) rfl (fun ls hl => ?_)
      refine lv_goto (tgt := 18) hx hb dX5_countArrivals_88 (by decide) ?_
      exact ih_9 (i + 1) f_15 wa1 _ _ _ ⟨(by first | with_reducible assumption | omega | exact vp_in_iff.mpr (by omega) | exact vp_in_nI (by omega) (by omega) | exact ⟨by omega, by omega⟩), hP.sub [0, 7, 8, 1, 2, 9, 10, 3, 4, 5, 6] rfl, hD.sub [0, 7, 8, 1, 2, 9, 10, 3, 4, 5, 6] (by decide) rfl, hS, lv_sub hl [1, 2, 0] rfl⟩ (by omega)
set_option maxHeartbeats 4000000 in
set_option maxRecDepth 100000 in
theorem c5_greatestRest (l : Launch) (dC : Nat → ClassId) (dI : Nat → Nat → Nat) (n0 : Nat) (atx : Nat → Nat × Nat) (sz : Nat) (ld : Nat) (ld_gas : Nat) (ld_ringed : Int32) (bk : Nat) (ld_coming : Nat) (ld_waiting : Nat) (ld_rest : Nat) (bw : Nat) (bk_tail : Nat) (bk_head : Nat) (bk_hinder : Nat) (bk_size : Nat) (bk_walk : Nat) (bk_draught : Nat) (bk_doorIn : Nat) (bk_fanIn : Nat) (bk_faceIn : Nat) (bn : Nat) (bk_day : Int32) (gr : Nat) (k_ld_rest : ClassId) (f_ld_rest : Nat → Int32) (hbw : bw ≤ 14) (hbn : bn ≤ 10) (q_day : -1 ≤ bk_day.toInt ∧ bk_day.toInt < 10) : Met l yX5_greatestRest (wM yX5_greatestRest cX5_greatestRest 3 (some .int)) ({ frames := 0, cells := 0, slots := 0, locals := 0 }) (va_Pc [.ref ld] (fun U => U.heap.size = sz ∧ n0 ≤ sz ∧ GW n0 atx U ∧ va_P (dC, dI) classes [(ld, .inr (5, [.ref ld_gas, .int ld_ringed, .ref bk, .ref ld_coming, .ref ld_waiting, .ref ld_rest])), (bk, .inr (0, [.int (nI bw), .ref bk_tail, .ref bk_head, .ref bk_hinder, .ref bk_size, .ref bk_walk, .ref bk_draught, .ref bk_doorIn, .ref bk_fanIn, .ref bk_faceIn, .int (nI bn), .int bk_day, .ref gr])), (ld_rest, .inl (k_ld_rest, 14, .inl f_ld_rest))] U.heap ∧ va_K (dC, dI) classes [(k_ld_rest, .int)] U ∧ va_D (fun q => n0 ≤ q) [(ld, .inr (5, [.ref ld_gas, .int ld_ringed, .ref bk, .ref ld_coming, .ref ld_waiting, .ref ld_rest])), (bk, .inr (0, [.int (nI bw), .ref bk_tail, .ref bk_head, .ref bk_hinder, .ref bk_size, .ref bk_walk, .ref bk_draught, .ref bk_doorIn, .ref bk_fanIn, .ref bk_faceIn, .int (nI bn), .int bk_day, .ref gr])), (ld_rest, .inl (k_ld_rest, 14, .inl f_ld_rest))])) (va_Qi (fun (r : Int32) (_ : Unit) => -1 ≤ r.toInt ∧ r.toInt < 14) (fun (_ : Unit) (t : State) => va_P (dC, dI) classes [(ld, .inr (5, [.ref ld_gas, .int ld_ringed, .ref bk, .ref ld_coming, .ref ld_waiting, .ref ld_rest])), (bk, .inr (0, [.int (nI bw), .ref bk_tail, .ref bk_head, .ref bk_hinder, .ref bk_size, .ref bk_walk, .ref bk_draught, .ref bk_doorIn, .ref bk_fanIn, .ref bk_faceIn, .int (nI bn), .int bk_day, .ref gr])), (ld_rest, .inl (k_ld_rest, 14, .inl f_ld_rest))] t.heap ∧ va_K (dC, dI) classes [(k_ld_rest, .int)] t ∧ va_D (va_A [(ld, .inr (5, [.ref ld_gas, .int ld_ringed, .ref bk, .ref ld_coming, .ref ld_waiting, .ref ld_rest])), (bk, .inr (0, [.int (nI bw), .ref bk_tail, .ref bk_head, .ref bk_hinder, .ref bk_size, .ref bk_walk, .ref bk_draught, .ref bk_doorIn, .ref bk_fanIn, .ref bk_faceIn, .int (nI bn), .int bk_day, .ref gr])), (ld_rest, .inl (k_ld_rest, 14, .inl f_ld_rest))] sz) [(ld, .inr (5, [.ref ld_gas, .int ld_ringed, .ref bk, .ref ld_coming, .ref ld_waiting, .ref ld_rest])), (bk, .inr (0, [.int (nI bw), .ref bk_tail, .ref bk_head, .ref bk_hinder, .ref bk_size, .ref bk_walk, .ref bk_draught, .ref bk_doorIn, .ref bk_fanIn, .ref bk_faceIn, .int (nI bn), .int bk_day, .ref gr])), (ld_rest, .inl (k_ld_rest, 14, .inl f_ld_rest))]) (va_A [(ld, .inr (5, [.ref ld_gas, .int ld_ringed, .ref bk, .ref ld_coming, .ref ld_waiting, .ref ld_rest])), (bk, .inr (0, [.int (nI bw), .ref bk_tail, .ref bk_head, .ref bk_hinder, .ref bk_size, .ref bk_walk, .ref bk_draught, .ref bk_doorIn, .ref bk_fanIn, .ref bk_faceIn, .int (nI bn), .int bk_day, .ref gr])), (ld_rest, .inl (k_ld_rest, 14, .inl f_ld_rest))] sz)) 0 0 (va_A [(ld, .inr (5, [.ref ld_gas, .int ld_ringed, .ref bk, .ref ld_coming, .ref ld_waiting, .ref ld_rest])), (bk, .inr (0, [.int (nI bw), .ref bk_tail, .ref bk_head, .ref bk_hinder, .ref bk_size, .ref bk_walk, .ref bk_draught, .ref bk_doorIn, .ref bk_fanIn, .ref bk_faceIn, .int (nI bn), .int bk_day, .ref gr])), (ld_rest, .inl (k_ld_rest, 14, .inl f_ld_rest))] sz) := by
  refine Met.ofW (cc := cX5_greatestRest) (maxL := 3) (ret := (some .int)) (by decide) rfl ?_
  intro p e s m args below meth c s₁ B hml hv
  obtain ⟨rfl, hsz, hn0, hG, hP, hK, hD0⟩ := hv
  have hx := B.exec
  have hb := B.bytes
  have hr := B.returns
  have hts := atoms_spec (ws := wM yX5_greatestRest cX5_greatestRest 3 (some .int)) B.pre
  have hown : s.vm.findClass RX5 = some m.cls := findClass_of_methodNamed B.named
  have hlocks := B.notSynchronized
  subst hsz
  have hD := hD0.self (sz := s.heap.size)
  have hA0 := vA_n0 hD0 hn0
  generalize hAe : va_A [(ld, .inr (5, [.ref ld_gas, .int ld_ringed, .ref bk, .ref ld_coming, .ref ld_waiting, .ref ld_rest])), (bk, .inr (0, [.int (nI bw), .ref bk_tail, .ref bk_head, .ref bk_hinder, .ref bk_size, .ref bk_walk, .ref bk_draught, .ref bk_doorIn, .ref bk_fanIn, .ref bk_faceIn, .int (nI bn), .int bk_day, .ref gr])), (ld_rest, .inl (k_ld_rest, 14, .inl f_ld_rest))] s.heap.size = A at hD hA0 ⊢
  have hA : ∀ q : Nat, s.heap.size ≤ q → A q := fun q h => by rw [← hAe]; exact Or.inr h
  have hS : va_S A s.heap s.heap [] := va_S.rf
  have hl := lv_entry ([.ref ld]) (n := 3) (Nat.le_of_ble_eq_true rfl)
  rw [lg_entry_eq]
  generalize (lg_sl ([.ref ld]) ++ List.replicate (3 - (lg_sl ([.ref ld])).length) Slot.unset).toArray = ls at hl ⊢
  have hl : lv_has ls 3 [(0, .ref ld)] := hl
  refine lv_iconst (v := (-1)) hx hb dX5_greatestRest_0 (by decide) ?_
  refine lv_istore_n (lv' := [(1, .int (-1)), (0, .ref ld)]) hx hb dX5_greatestRest_1 rfl hl (by decide) rfl (fun ls hl => ?_)
  refine lv_iconst (v := 0) hx hb dX5_greatestRest_2 (by decide) ?_
  refine lv_istore_n (lv' := [(2, .int 0), (1, .int (-1)), (0, .ref ld)]) hx hb dX5_greatestRest_3 rfl hl (by decide) rfl (fun ls hl => ?_)
  refine W_lp2 (I := fun (be : Int32) (i : Nat) H locs ls => (i ≤ bw) ∧ (-1 ≤ be.toInt ∧ be.toInt < 14) ∧ va_P (dC, dI) classes [(ld, .inr (5, [.ref ld_gas, .int ld_ringed, .ref bk, .ref ld_coming, .ref ld_waiting, .ref ld_rest])), (bk, .inr (0, [.int (nI bw), .ref bk_tail, .ref bk_head, .ref bk_hinder, .ref bk_size, .ref bk_walk, .ref bk_draught, .ref bk_doorIn, .ref bk_fanIn, .ref bk_faceIn, .int (nI bn), .int bk_day, .ref gr])), (ld_rest, .inl (k_ld_rest, 14, .inl f_ld_rest))] H ∧ va_D A [(ld, .inr (5, [.ref ld_gas, .int ld_ringed, .ref bk, .ref ld_coming, .ref ld_waiting, .ref ld_rest])), (bk, .inr (0, [.int (nI bw), .ref bk_tail, .ref bk_head, .ref bk_hinder, .ref bk_size, .ref bk_walk, .ref bk_draught, .ref bk_doorIn, .ref bk_fanIn, .ref bk_faceIn, .int (nI bn), .int bk_day, .ref gr])), (ld_rest, .inl (k_ld_rest, 14, .inl f_ld_rest))] ∧ va_S A s.heap H locs ∧ lv_has ls 3 [(0, .ref ld), (1, .int be), (2, .int (nI i))]) (μ := fun (be : Int32) (i : Nat) => bw - i) ?_ (-1) 0 _ _ _ ⟨(by first | with_reducible assumption | omega | exact vp_in_iff.mpr (by omega) | exact vp_in_nI (by omega) (by omega) | exact ⟨by omega, by omega⟩), (by decide), hP, hD, hS, lv_sub hl [2, 1, 0] rfl⟩
  intro be i H locs ls hI ih_1
  obtain ⟨hi, hbe, hP, hD, hS, hl⟩ := hI
  refine lv_iload_n hx hb dX5_greatestRest_4 rfl (lv_at hl 2 rfl) ?_
  refine lv_aload_n hx hb dX5_greatestRest_5 rfl (lv_at hl 0 rfl) ?_
  refine va_get (D := (dC, dI)) (ci := 5) (v := .ref bk) (C := RX5) (T := TX5) (N := 6) hx hb hts (fun w h => wM_c (iX5 w h)) hown hK hP 0 rfl rfl 2 (by decide) (hts _ (wM_c wd_495)) (fun _ h9 => h9) rfl dX5_greatestRest_6 ?_
  refine va_get (D := (dC, dI)) (ci := 0) (v := .int (nI bw)) (C := RX0) (T := TX0) (N := 13) hx hb hts (fun w h => wM_c (iX0 w h)) hown hK hP 1 rfl rfl 0 (by decide) (hts _ (wM_c wd_242)) (fun _ h9 => h9) rfl dX5_greatestRest_9 ?_
  refine lv_icmp_ge (tgt := 53) hx hb dX5_greatestRest_12 (by decide) (fun c_2 => ?_) (fun c_2 => ?_)
  · skip
    have g_3 := n_ge (a := i) (b := bw) c_2 (by omega) (by omega)
    refine lv_iload_n hx hb dX5_greatestRest_53 rfl (lv_at hl 1 rfl) ?_
    have hK9 := hK.sub (tys' := [(k_ld_rest, .int)]) [0] rfl
    exact W.iret (v := be) hx hb hr (fun t ht hW => ⟨⟨be, (), rfl, (by omega), by rw [ht]; exact hP.sub [0, 1, 2] rfl, va_K.moved hW.alike hK9, hD.sub [0, 1, 2] (by decide) rfl⟩, hS.F ht⟩) hS.2.2 dX5_greatestRest_54
  · skip
    have g_4 := n_nge (a := i) (b := bw) c_2 (by omega) (by omega)
    refine lv_aload_n hx hb dX5_greatestRest_15 rfl (lv_at hl 0 rfl) ?_
    refine va_get (D := (dC, dI)) (ci := 5) (v := .ref ld_rest) (C := RX5) (T := TX5) (N := 6) hx hb hts (fun w h => wM_c (iX5 w h)) hown hK hP 0 rfl rfl 5 (by decide) (hts _ (wM_c wd_498)) (fun _ h9 => h9) rfl dX5_greatestRest_16 ?_
    refine lv_iload_n hx hb dX5_greatestRest_19 rfl (lv_at hl 2 rfl) ?_
    refine va_iald hx hb hK hP 2 0 rfl rfl (vp_in_nI (n := i) (by omega) (by omega)) dX5_greatestRest_20 ?_
    refine lv_topi (fun v_5 ev_5 => ?_)
    have nv_5 : v_5 = f_ld_rest i := by rw [ev_5]; exact congrArg _ (nI_clamp (by omega))
    refine lv_iconst (v := (-1)) hx hb dX5_greatestRest_21 (by decide) ?_
    refine lv_icmp_eq (tgt := 47) hx hb dX5_greatestRest_22 (by decide) (fun c_6 => ?_) (fun c_6 => ?_)
    · skip
      have g_7 : v_5.toInt = (-1 : Int) := i_eq c_6
      refine lv_iinc (v := (nI (i + 1))) (lv' := [(2, .int (nI (i + 1))), (0, .ref ld), (1, .int be)]) hx hb dX5_greatestRest_47 hl (k := 2) rfl (nI_add _ 1) (by decide) rfl (fun ls hl => ?_)
      refine lv_goto (tgt := 4) hx hb dX5_greatestRest_50 (by decide) ?_
      exact ih_1 be (i + 1) _ _ _ ⟨(by first | with_reducible assumption | omega | exact vp_in_iff.mpr (by omega) | exact vp_in_nI (by omega) (by omega) | exact ⟨by omega, by omega⟩), (by first | with_reducible assumption | omega | exact vp_in_iff.mpr (by omega) | exact vp_in_nI (by omega) (by omega) | exact ⟨by omega, by omega⟩), hP.sub [0, 1, 2] rfl, hD.sub [0, 1, 2] (by decide) rfl, hS, lv_sub hl [1, 2, 0] rfl⟩ (by omega)
    · skip
      have g_8 : v_5.toInt ≠ (-1 : Int) := i_ne c_6
      refine lv_iload_n hx hb dX5_greatestRest_25 rfl (lv_at hl 1 rfl) ?_
      refine lv_iconst (v := (-1)) hx hb dX5_greatestRest_26 (by decide) ?_
      refine lv_icmp_eq (tgt := 45) hx hb dX5_greatestRest_27 (by decide) (fun c_9 => ?_) (fun c_9 => ?_)
      · skip
        have g_10 : be.toInt = (-1 : Int) := i_eq c_9
        refine lv_iload_n hx hb dX5_greatestRest_45 rfl (lv_at hl 2 rfl) ?_
        refine lv_istore_n (lv' := [(1, .int (nI i)), (0, .ref ld), (2, .int (nI i))]) hx hb dX5_greatestRest_46 rfl hl (by decide) rfl (fun ls hl => ?_)
        refine lv_iinc (v := (nI (i + 1))) (lv' := [(2, .int (nI (i + 1))), (1, .int (nI i)), (0, .ref ld)]) hx hb dX5_greatestRest_47 hl (k := 2) rfl (nI_add _ 1) (by decide) rfl (fun ls hl => ?_)
        refine lv_goto (tgt := 4) hx hb dX5_greatestRest_50 (by decide) ?_
        exact ih_1 (nI i) (i + 1) _ _ _ ⟨(by first | with_reducible assumption | omega | exact vp_in_iff.mpr (by omega) | exact vp_in_nI (by omega) (by omega) | exact ⟨by omega, by omega⟩), ⟨by rw [nI_toInt (by omega)]; omega, by rw [nI_toInt (by omega)]; omega⟩, hP.sub [0, 1, 2] rfl, hD.sub [0, 1, 2] (by decide) rfl, hS, lv_sub hl [2, 1, 0] rfl⟩ (by omega)
      · skip
        have g_11 : be.toInt ≠ (-1 : Int) := i_ne c_9
        refine lv_aload_n hx hb dX5_greatestRest_30 rfl (lv_at hl 0 rfl) ?_
        refine va_get (D := (dC, dI)) (ci := 5) (v := .ref ld_rest) (C := RX5) (T := TX5) (N := 6) hx hb hts (fun w h => wM_c (iX5 w h)) hown hK hP 0 rfl rfl 5 (by decide) (hts _ (wM_c wd_498)) (fun _ h9 => h9) rfl dX5_greatestRest_31 ?_
        refine lv_iload_n hx hb dX5_greatestRest_34 rfl (lv_at hl 2 rfl) ?_
        refine va_iald hx hb hK hP 2 0 rfl rfl (vp_in_nI (n := i) (by omega) (by omega)) dX5_greatestRest_35 ?_
        refine lv_topi (fun v_12 ev_12 => ?_)
        have nv_12 : v_12 = f_ld_rest i := by rw [ev_12]; exact congrArg _ (nI_clamp (by omega))
        refine lv_aload_n hx hb dX5_greatestRest_36 rfl (lv_at hl 0 rfl) ?_
        refine va_get (D := (dC, dI)) (ci := 5) (v := .ref ld_rest) (C := RX5) (T := TX5) (N := 6) hx hb hts (fun w h => wM_c (iX5 w h)) hown hK hP 0 rfl rfl 5 (by decide) (hts _ (wM_c wd_498)) (fun _ h9 => h9) rfl dX5_greatestRest_37 ?_
        refine lv_iload_n hx hb dX5_greatestRest_40 rfl (lv_at hl 1 rfl) ?_
        refine va_iald hx hb hK hP 2 0 rfl rfl (by first | with_reducible assumption | exact vp_in_iff.mpr (by omega)) dX5_greatestRest_41 ?_
        refine lv_topi (fun v_13 ev_13 => ?_)
        refine lv_icmp_le (tgt := 47) hx hb dX5_greatestRest_42 (by decide) (fun c_14 => ?_) (fun c_14 => ?_)
        · skip
          have g_15 : v_12.toInt ≤ v_13.toInt := i_le c_14
          refine lv_iinc (v := (nI (i + 1))) (lv' := [(2, .int (nI (i + 1))), (0, .ref ld), (1, .int be)]) hx hb dX5_greatestRest_47 hl (k := 2) rfl (nI_add _ 1) (by decide) rfl (fun ls hl => ?_)
          refine lv_goto (tgt := 4) hx hb dX5_greatestRest_50 (by decide) ?_
          exact ih_1 be (i + 1) _ _ _ ⟨(by first | with_reducible assumption | omega | exact vp_in_iff.mpr (by omega) | exact vp_in_nI (by omega) (by omega) | exact ⟨by omega, by omega⟩), (by first | with_reducible assumption | omega | exact vp_in_iff.mpr (by omega) | exact vp_in_nI (by omega) (by omega) | exact ⟨by omega, by omega⟩), hP.sub [0, 1, 2] rfl, hD.sub [0, 1, 2] (by decide) rfl, hS, lv_sub hl [1, 2, 0] rfl⟩ (by omega)
        · skip
          have g_16 : v_13.toInt < v_12.toInt := i_nle c_14
          refine lv_iload_n hx hb dX5_greatestRest_45 rfl (lv_at hl 2 rfl) ?_
          refine lv_istore_n (lv' := [(1, .int (nI i)), (0, .ref ld), (2, .int (nI i))]) hx hb dX5_greatestRest_46 rfl hl (by decide) rfl (fun ls hl => ?_)
          refine lv_iinc (v := (nI (i + 1))) (lv' := [(2, .int (nI (i + 1))), (1, .int (nI i)), (0, .ref ld)]) hx hb dX5_greatestRest_47 hl (k := 2) rfl (nI_add _ 1) (by decide) rfl (fun ls hl => ?_)
          refine lv_goto (tgt := 4) hx hb dX5_greatestRest_50 (by decide) ?_
          exact ih_1 (nI i) (i + 1) _ _ _ ⟨(by first | with_reducible assumption | omega | exact vp_in_iff.mpr (by omega) | exact vp_in_nI (by omega) (by omega) | exact ⟨by omega, by omega⟩), ⟨by rw [nI_toInt (by omega)]; omega, by rw [nI_toInt (by omega)]; omega⟩, hP.sub [0, 1, 2] rfl, hD.sub [0, 1, 2] (by decide) rfl, hS, lv_sub hl [2, 1, 0] rfl⟩ (by omega)
set_option maxHeartbeats 4000000 in
set_option maxRecDepth 100000 in
theorem c5_share (l : Launch) (dC : Nat → ClassId) (dI : Nat → Nat → Nat) (n0 : Nat) (atx : Nat → Nat × Nat) (sz : Nat) (ld : Nat) (ld_gas : Nat) (ld_ringed : Int32) (bk : Nat) (ld_coming : Nat) (ld_waiting : Nat) (ld_rest : Nat) (bw : Nat) (bk_tail : Nat) (bk_head : Nat) (bk_hinder : Nat) (bk_size : Nat) (bk_walk : Nat) (bk_draught : Nat) (bk_doorIn : Nat) (bk_fanIn : Nat) (bk_faceIn : Nat) (bn : Nat) (bk_day : Int32) (gr : Nat) (ai : Nat) (k_ai : ClassId) (f_ai : Nat → Int32) (k_ld_gas : ClassId) (f_ld_gas : Nat → Int32) (k_ld_coming : ClassId) (f_ld_coming : Nat → Int32) (k_ld_rest : ClassId) (f_ld_rest : Nat → Int32) (kn : Int32) (aw0 : Int32) (hbw : bw ≤ 14) (hbn : bn ≤ 10) (q_day : -1 ≤ bk_day.toInt ∧ bk_day.toInt < 10) (hkn : vp_in kn 10) : Met l yX5_share (wM yX5_share cX5_share 8 none) ({ frames := 1, cells := 0, slots := 0, locals := 22 }) (va_Pc [.ref ld, .int kn, .ref ai, .int aw0] (fun U => U.heap.size = sz ∧ n0 ≤ sz ∧ GW n0 atx U ∧ va_P (dC, dI) classes [(ld, .inr (5, [.ref ld_gas, .int ld_ringed, .ref bk, .ref ld_coming, .ref ld_waiting, .ref ld_rest])), (bk, .inr (0, [.int (nI bw), .ref bk_tail, .ref bk_head, .ref bk_hinder, .ref bk_size, .ref bk_walk, .ref bk_draught, .ref bk_doorIn, .ref bk_fanIn, .ref bk_faceIn, .int (nI bn), .int bk_day, .ref gr])), (ai, .inl (k_ai, 14, .inl f_ai)), (ld_gas, .inl (k_ld_gas, 14, .inl f_ld_gas)), (ld_coming, .inl (k_ld_coming, 10, .inl f_ld_coming)), (ld_rest, .inl (k_ld_rest, 14, .inl f_ld_rest))] U.heap ∧ va_K (dC, dI) classes [(k_ai, .int), (k_ld_gas, .int), (k_ld_coming, .int), (k_ld_rest, .int)] U ∧ va_D (fun q => n0 ≤ q) [(ld, .inr (5, [.ref ld_gas, .int ld_ringed, .ref bk, .ref ld_coming, .ref ld_waiting, .ref ld_rest])), (bk, .inr (0, [.int (nI bw), .ref bk_tail, .ref bk_head, .ref bk_hinder, .ref bk_size, .ref bk_walk, .ref bk_draught, .ref bk_doorIn, .ref bk_fanIn, .ref bk_faceIn, .int (nI bn), .int bk_day, .ref gr])), (ai, .inl (k_ai, 14, .inl f_ai)), (ld_gas, .inl (k_ld_gas, 14, .inl f_ld_gas)), (ld_coming, .inl (k_ld_coming, 10, .inl f_ld_coming)), (ld_rest, .inl (k_ld_rest, 14, .inl f_ld_rest))])) (va_Qv (fun _ : Unit => True) (fun (_ : Unit) (t : State) => ∃ (ga9 : Nat → Int32), ∃ (re9 : Nat → Int32), va_P (dC, dI) classes [(ld, .inr (5, [.ref ld_gas, .int ld_ringed, .ref bk, .ref ld_coming, .ref ld_waiting, .ref ld_rest])), (bk, .inr (0, [.int (nI bw), .ref bk_tail, .ref bk_head, .ref bk_hinder, .ref bk_size, .ref bk_walk, .ref bk_draught, .ref bk_doorIn, .ref bk_fanIn, .ref bk_faceIn, .int (nI bn), .int bk_day, .ref gr])), (ai, .inl (k_ai, 14, .inl f_ai)), (ld_gas, .inl (k_ld_gas, 14, .inl ga9)), (ld_coming, .inl (k_ld_coming, 10, .inl f_ld_coming)), (ld_rest, .inl (k_ld_rest, 14, .inl re9))] t.heap ∧ va_K (dC, dI) classes [(k_ai, .int), (k_ld_gas, .int), (k_ld_coming, .int), (k_ld_rest, .int)] t ∧ va_D (va_A [(ld, .inr (5, [.ref ld_gas, .int ld_ringed, .ref bk, .ref ld_coming, .ref ld_waiting, .ref ld_rest])), (bk, .inr (0, [.int (nI bw), .ref bk_tail, .ref bk_head, .ref bk_hinder, .ref bk_size, .ref bk_walk, .ref bk_draught, .ref bk_doorIn, .ref bk_fanIn, .ref bk_faceIn, .int (nI bn), .int bk_day, .ref gr])), (ai, .inl (k_ai, 14, .inl f_ai)), (ld_gas, .inl (k_ld_gas, 14, .inl f_ld_gas)), (ld_coming, .inl (k_ld_coming, 10, .inl f_ld_coming)), (ld_rest, .inl (k_ld_rest, 14, .inl f_ld_rest))] sz) [(ld, .inr (5, [.ref ld_gas, .int ld_ringed, .ref bk, .ref ld_coming, .ref ld_waiting, .ref ld_rest])), (bk, .inr (0, [.int (nI bw), .ref bk_tail, .ref bk_head, .ref bk_hinder, .ref bk_size, .ref bk_walk, .ref bk_draught, .ref bk_doorIn, .ref bk_fanIn, .ref bk_faceIn, .int (nI bn), .int bk_day, .ref gr])), (ai, .inl (k_ai, 14, .inl f_ai)), (ld_gas, .inl (k_ld_gas, 14, .inl ga9)), (ld_coming, .inl (k_ld_coming, 10, .inl f_ld_coming)), (ld_rest, .inl (k_ld_rest, 14, .inl re9))]) (va_A [(ld, .inr (5, [.ref ld_gas, .int ld_ringed, .ref bk, .ref ld_coming, .ref ld_waiting, .ref ld_rest])), (bk, .inr (0, [.int (nI bw), .ref bk_tail, .ref bk_head, .ref bk_hinder, .ref bk_size, .ref bk_walk, .ref bk_draught, .ref bk_doorIn, .ref bk_fanIn, .ref bk_faceIn, .int (nI bn), .int bk_day, .ref gr])), (ai, .inl (k_ai, 14, .inl f_ai)), (ld_gas, .inl (k_ld_gas, 14, .inl f_ld_gas)), (ld_coming, .inl (k_ld_coming, 10, .inl f_ld_coming)), (ld_rest, .inl (k_ld_rest, 14, .inl f_ld_rest))] sz)) 0 0 (va_A [(ld, .inr (5, [.ref ld_gas, .int ld_ringed, .ref bk, .ref ld_coming, .ref ld_waiting, .ref ld_rest])), (bk, .inr (0, [.int (nI bw), .ref bk_tail, .ref bk_head, .ref bk_hinder, .ref bk_size, .ref bk_walk, .ref bk_draught, .ref bk_doorIn, .ref bk_fanIn, .ref bk_faceIn, .int (nI bn), .int bk_day, .ref gr])), (ai, .inl (k_ai, 14, .inl f_ai)), (ld_gas, .inl (k_ld_gas, 14, .inl f_ld_gas)), (ld_coming, .inl (k_ld_coming, 10, .inl f_ld_coming)), (ld_rest, .inl (k_ld_rest, 14, .inl f_ld_rest))] sz) := by
  refine Met.ofW (cc := cX5_share) (maxL := 8) (ret := none) (by decide) rfl ?_
  intro p e s m args below meth c s₁ B hml hv
  obtain ⟨rfl, hsz, hn0, hG, hP, hK, hD0⟩ := hv
  have hx := B.exec
  have hb := B.bytes
  have hr := B.returns
  have hts := atoms_spec (ws := wM yX5_share cX5_share 8 none) B.pre
  have hown : s.vm.findClass RX5 = some m.cls := findClass_of_methodNamed B.named
  have hlocks := B.notSynchronized
  subst hsz
  have hD := hD0.self (sz := s.heap.size)
  have hA0 := vA_n0 hD0 hn0
  generalize hAe : va_A [(ld, .inr (5, [.ref ld_gas, .int ld_ringed, .ref bk, .ref ld_coming, .ref ld_waiting, .ref ld_rest])), (bk, .inr (0, [.int (nI bw), .ref bk_tail, .ref bk_head, .ref bk_hinder, .ref bk_size, .ref bk_walk, .ref bk_draught, .ref bk_doorIn, .ref bk_fanIn, .ref bk_faceIn, .int (nI bn), .int bk_day, .ref gr])), (ai, .inl (k_ai, 14, .inl f_ai)), (ld_gas, .inl (k_ld_gas, 14, .inl f_ld_gas)), (ld_coming, .inl (k_ld_coming, 10, .inl f_ld_coming)), (ld_rest, .inl (k_ld_rest, 14, .inl f_ld_rest))] s.heap.size = A at hD hA0 ⊢
  have hA : ∀ q : Nat, s.heap.size ≤ q → A q := fun q h => by rw [← hAe]; exact Or.inr h
  have hS : va_S A s.heap s.heap [] := va_S.rf
  have hl := lv_entry ([.ref ld, .int kn, .ref ai, .int aw0]) (n := 8) (Nat.le_of_ble_eq_true rfl)
  rw [lg_entry_eq]
  generalize (lg_sl ([.ref ld, .int kn, .ref ai, .int aw0]) ++ List.replicate (8 - (lg_sl ([.ref ld, .int kn, .ref ai, .int aw0])).length) Slot.unset).toArray = ls at hl ⊢
  have hl : lv_has ls 8 [(0, .ref ld), (1, .int kn), (2, .ref ai), (3, .int aw0)] := hl
  refine lv_aload_n hx hb dX5_share_0 rfl (lv_at hl 0 rfl) ?_
  refine va_get (D := (dC, dI)) (ci := 5) (v := .ref ld_coming) (C := RX5) (T := TX5) (N := 6) hx hb hts (fun w h => wM_c (iX5 w h)) hown hK hP 0 rfl rfl 3 (by decide) (hts _ (wM_c wd_496)) (fun _ h9 => h9) rfl dX5_share_1 ?_
  refine lv_iload_n hx hb dX5_share_4 rfl (lv_at hl 1 rfl) ?_
  refine va_iald hx hb hK hP 4 2 rfl rfl (by first | with_reducible assumption | exact vp_in_iff.mpr (by omega)) dX5_share_5 ?_
  refine lv_topi (fun v_1 ev_1 => ?_)
  refine lv_istore (lv' := [(4, .int v_1), (0, .ref ld), (1, .int kn), (2, .ref ai), (3, .int aw0)]) hx hb dX5_share_6 hl (by decide) rfl (fun ls hl => ?_)
  refine lv_iload hx hb dX5_share_8 (lv_at hl 0 rfl) ?_
  refine lv_if_eq (tgt := 17) hx hb dX5_share_10 (by decide) (fun c_2 => ?_) (fun c_2 => ?_)
  · skip
    have g_3 : v_1.toInt = (0 : Int) := i_eq c_2
    have hK9 := hK.sub (tys' := [(k_ai, .int), (k_ld_gas, .int), (k_ld_coming, .int), (k_ld_rest, .int)]) [0, 1, 2, 3] rfl
    exact W.vret hx hb hr (fun t ht hW => ⟨⟨(), rfl, trivial, f_ld_gas, f_ld_rest, by rw [ht]; exact hP.sub [0, 1, 2, 3, 4, 5] rfl, va_K.moved hW.alike hK9, hD.sub [0, 1, 2, 3, 4, 5] (by decide) rfl⟩, hS.F ht⟩) hS.2.2 dX5_share_17
  · skip
    have g_4 : v_1.toInt ≠ (0 : Int) := i_ne c_2
    refine lv_iload_n hx hb dX5_share_13 rfl (lv_at hl 4 rfl) ?_
    refine lv_if_ne (tgt := 18) hx hb dX5_share_14 (by decide) (fun c_5 => ?_) (fun c_5 => ?_)
    · skip
      have g_6 : aw0.toInt ≠ (0 : Int) := i_ne c_5
      refine lv_iload hx hb dX5_share_18 (lv_at hl 0 rfl) ?_
      refine lv_istore (lv' := [(5, .int v_1), (4, .int v_1), (0, .ref ld), (1, .int kn), (2, .ref ai), (3, .int aw0)]) hx hb dX5_share_20 hl (by decide) rfl (fun ls hl => ?_)
      refine lv_iconst (v := 0) hx hb dX5_share_22 (by decide) ?_
      refine lv_istore (lv' := [(6, .int 0), (5, .int v_1), (4, .int v_1), (0, .ref ld), (1, .int kn), (2, .ref ai), (3, .int aw0)]) hx hb dX5_share_23 hl (by decide) rfl (fun ls hl => ?_)
      refine W_lp4 (I := fun (lf : Int32) (i1 : Nat) (ga1 : Nat → Int32) (re1 : Nat → Int32) H locs ls => (i1 ≤ bw) ∧ va_P (dC, dI) classes [(ld, .inr (5, [.ref ld_gas, .int ld_ringed, .ref bk, .ref ld_coming, .ref ld_waiting, .ref ld_rest])), (bk, .inr (0, [.int (nI bw), .ref bk_tail, .ref bk_head, .ref bk_hinder, .ref bk_size, .ref bk_walk, .ref bk_draught, .ref bk_doorIn, .ref bk_fanIn, .ref bk_faceIn, .int (nI bn), .int bk_day, .ref gr])), (ai, .inl (k_ai, 14, .inl f_ai)), (ld_gas, .inl (k_ld_gas, 14, .inl ga1)), (ld_coming, .inl (k_ld_coming, 10, .inl f_ld_coming)), (ld_rest, .inl (k_ld_rest, 14, .inl re1))] H ∧ va_D A [(ld, .inr (5, [.ref ld_gas, .int ld_ringed, .ref bk, .ref ld_coming, .ref ld_waiting, .ref ld_rest])), (bk, .inr (0, [.int (nI bw), .ref bk_tail, .ref bk_head, .ref bk_hinder, .ref bk_size, .ref bk_walk, .ref bk_draught, .ref bk_doorIn, .ref bk_fanIn, .ref bk_faceIn, .int (nI bn), .int bk_day, .ref gr])), (ai, .inl (k_ai, 14, .inl f_ai)), (ld_gas, .inl (k_ld_gas, 14, .inl ga1)), (ld_coming, .inl (k_ld_coming, 10, .inl f_ld_coming)), (ld_rest, .inl (k_ld_rest, 14, .inl re1))] ∧ va_S A s.heap H locs ∧ lv_has ls 8 [(0, .ref ld), (2, .ref ai), (3, .int aw0), (4, .int v_1), (5, .int lf), (6, .int (nI i1))]) (μ := fun (lf : Int32) (i1 : Nat) (ga1 : Nat → Int32) (re1 : Nat → Int32) => bw - i1) ?_ v_1 0 f_ld_gas f_ld_rest _ _ _ ⟨(by first | with_reducible assumption | omega | exact vp_in_iff.mpr (by omega) | exact vp_in_nI (by omega) (by omega) | exact ⟨by omega, by omega⟩), hP, hD, hS, lv_sub hl [3, 5, 6, 2, 1, 0] rfl⟩
      intro lf i1 ga1 re1 H locs ls hI ih_7
      obtain ⟨hi1, hP, hD, hS, hl⟩ := hI
      refine lv_iload hx hb dX5_share_25 (lv_at hl 5 rfl) ?_
      refine lv_aload_n hx hb dX5_share_27 rfl (lv_at hl 0 rfl) ?_
      refine va_get (D := (dC, dI)) (ci := 5) (v := .ref bk) (C := RX5) (T := TX5) (N := 6) hx hb hts (fun w h => wM_c (iX5 w h)) hown hK hP 0 rfl rfl 2 (by decide) (hts _ (wM_c wd_495)) (fun _ h9 => h9) rfl dX5_share_28 ?_
      refine va_get (D := (dC, dI)) (ci := 0) (v := .int (nI bw)) (C := RX0) (T := TX0) (N := 13) hx hb hts (fun w h => wM_c (iX0 w h)) hown hK hP 1 rfl rfl 0 (by decide) (hts _ (wM_c wd_242)) (fun _ h9 => h9) rfl dX5_share_31 ?_
      refine lv_icmp_ge (tgt := 103) hx hb dX5_share_34 (by decide) (fun c_8 => ?_) (fun c_8 => ?_)
      · skip
        have g_9 := n_ge (a := i1) (b := bw) c_8 (by omega) (by omega)
        refine lv_iconst (v := 0) hx hb dX5_share_103 (by decide) ?_
        refine lv_istore (lv' := [(6, .int 0), (0, .ref ld), (2, .ref ai), (3, .int aw0), (4, .int v_1), (5, .int lf)]) hx hb dX5_share_104 hl (by decide) rfl (fun ls hl => ?_)
        refine W_lp4 (I := fun (lf2 : Int32) (i2 : Nat) (ga2 : Nat → Int32) (re2 : Nat → Int32) H locs ls => (i2 ≤ 14) ∧ va_P (dC, dI) classes [(ld, .inr (5, [.ref ld_gas, .int ld_ringed, .ref bk, .ref ld_coming, .ref ld_waiting, .ref ld_rest])), (bk, .inr (0, [.int (nI bw), .ref bk_tail, .ref bk_head, .ref bk_hinder, .ref bk_size, .ref bk_walk, .ref bk_draught, .ref bk_doorIn, .ref bk_fanIn, .ref bk_faceIn, .int (nI bn), .int bk_day, .ref gr])), (ai, .inl (k_ai, 14, .inl f_ai)), (ld_gas, .inl (k_ld_gas, 14, .inl ga2)), (ld_coming, .inl (k_ld_coming, 10, .inl f_ld_coming)), (ld_rest, .inl (k_ld_rest, 14, .inl re2))] H ∧ va_D A [(ld, .inr (5, [.ref ld_gas, .int ld_ringed, .ref bk, .ref ld_coming, .ref ld_waiting, .ref ld_rest])), (bk, .inr (0, [.int (nI bw), .ref bk_tail, .ref bk_head, .ref bk_hinder, .ref bk_size, .ref bk_walk, .ref bk_draught, .ref bk_doorIn, .ref bk_fanIn, .ref bk_faceIn, .int (nI bn), .int bk_day, .ref gr])), (ai, .inl (k_ai, 14, .inl f_ai)), (ld_gas, .inl (k_ld_gas, 14, .inl ga2)), (ld_coming, .inl (k_ld_coming, 10, .inl f_ld_coming)), (ld_rest, .inl (k_ld_rest, 14, .inl re2))] ∧ va_S A s.heap H locs ∧ lv_has ls 8 [(0, .ref ld), (5, .int lf2), (6, .int (nI i2))]) (μ := fun (lf2 : Int32) (i2 : Nat) (ga2 : Nat → Int32) (re2 : Nat → Int32) => 14 - i2) ?_ lf 0 ga1 re1 _ _ _ ⟨(by first | with_reducible assumption | omega | exact vp_in_iff.mpr (by omega) | exact vp_in_nI (by omega) (by omega) | exact ⟨by omega, by omega⟩), hP, hD, hS, lv_sub hl [1, 5, 0] rfl⟩
        intro lf2 i2 ga2 re2 H locs ls hI ih_10
        obtain ⟨hi2, hP, hD, hS, hl⟩ := hI
        refine lv_iload hx hb dX5_share_106 (lv_at hl 2 rfl) ?_
        refine lv_bipush (v := 14) hx hb dX5_share_108 (by decide) ?_
        refine lv_icmp_ge (tgt := 159) hx hb dX5_share_110 (by decide) (fun c_11 => ?_) (fun c_11 => ?_)
        · skip
          have g_12 := n_ge (a := i2) (b := 14) c_11 (by omega) (by omega)
          have hK9 := hK.sub (tys' := [(k_ai, .int), (k_ld_gas, .int), (k_ld_coming, .int), (k_ld_rest, .int)]) [0, 1, 2, 3] rfl
          exact W.vret hx hb hr (fun t ht hW => ⟨⟨(), rfl, trivial, ga2, re2, by rw [ht]; exact hP.sub [0, 1, 2, 3, 4, 5] rfl, va_K.moved hW.alike hK9, hD.sub [0, 1, 2, 3, 4, 5] (by decide) rfl⟩, hS.F ht⟩) hS.2.2 dX5_share_159
        · skip
          have g_13 := n_nge (a := i2) (b := 14) c_11 (by omega) (by omega)
          refine lv_iload hx hb dX5_share_113 (lv_at hl 1 rfl) ?_
          refine lv_if_le (tgt := 159) hx hb dX5_share_115 (by decide) (fun c_14 => ?_) (fun c_14 => ?_)
          · skip
            have g_15 : lf2.toInt ≤ (0 : Int) := i_le c_14
            have hK9 := hK.sub (tys' := [(k_ai, .int), (k_ld_gas, .int), (k_ld_coming, .int), (k_ld_rest, .int)]) [0, 1, 2, 3] rfl
            exact W.vret hx hb hr (fun t ht hW => ⟨⟨(), rfl, trivial, ga2, re2, by rw [ht]; exact hP.sub [0, 1, 2, 3, 4, 5] rfl, va_K.moved hW.alike hK9, hD.sub [0, 1, 2, 3, 4, 5] (by decide) rfl⟩, hS.F ht⟩) hS.2.2 dX5_share_159
          · skip
            have g_16 : (0 : Int) < lf2.toInt := i_nle c_14
            refine lv_aload_n hx hb dX5_share_118 rfl (lv_at hl 0 rfl) ?_
            obtain ⟨hPc, hDc, hFc⟩ := s3_c (ws' := [(ld, .inr (5, [.ref ld_gas, .int ld_ringed, .ref bk, .ref ld_coming, .ref ld_waiting, .ref ld_rest])), (bk, .inr (0, [.int (nI bw), .ref bk_tail, .ref bk_head, .ref bk_hinder, .ref bk_size, .ref bk_walk, .ref bk_draught, .ref bk_doorIn, .ref bk_fanIn, .ref bk_faceIn, .int (nI bn), .int bk_day, .ref gr])), (ld_rest, .inl (k_ld_rest, 14, .inl re2))]) [0, 1, 5] hP hD hS hA rfl (by decide)
            have hKc := hK.sub (tys' := [(k_ld_rest, .int)]) [3] rfl
            refine va_calli (va_runV (As := []) (rest := []) ⟨hx, hb, hml, hown, hts⟩ (c5_greatestRest l dC dI n0 atx H.size ld ld_gas ld_ringed bk ld_coming ld_waiting ld_rest bw bk_tail bk_head bk_hinder bk_size bk_walk bk_draught bk_doorIn bk_fanIn bk_faceIn bn bk_day gr k_ld_rest re2 (by first | with_reducible assumption | omega | exact vp_in_iff.mpr (by omega) | exact vp_in_nI (by omega) (by omega) | exact ⟨by omega, by omega⟩) (by first | with_reducible assumption | omega | exact vp_in_iff.mpr (by omega) | exact vp_in_nI (by omega) (by omega) | exact ⟨by omega, by omega⟩) (by first | with_reducible assumption | omega | exact vp_in_iff.mpr (by omega) | exact vp_in_nI (by omega) (by omega) | exact ⟨by omega, by omega⟩)) (cwV 0 hts (gV (fun w h => wM_c h) wd_1131 wd_1128 wd_1130 wd_43 wd_121) rfl rfl rfl (by decide +kernel) ⟨Nat.le_of_ble_eq_true rfl, Nat.le_of_ble_eq_true rfl⟩) ⟨fun a U g mk q => by obtain ⟨q0, q1, q2, qG, qP, qK, qD⟩ := q; exact ⟨q0, q1, q2, GW.blind qG, qP, va_K.moved (u := U) (U := U.calling g mk a) (Vm.Alike.refl U.vm) qK, qD⟩, va_recv hKc hPc (ci := 5) (q0 := 0) rfl rfl, fun U hU hW => ⟨rfl, by rw [hU], Nat.le_trans hn0 hS.1, GW.go hW hU hG (fun q hq hA9 => hS.2.1 q hq (fun h => hA9 (hA0 q h))), by rw [hU]; exact hPc, va_K.moved hW.alike hKc, hDc.weaken (fun _ _ _ h => hA0 _ h)⟩⟩ rfl rfl hl.1 rfl (lv_room (Nat.le_of_ble_eq_true rfl)) dX5_share_119 ⟨Nat.le_of_ble_eq_true rfl, Nat.le_of_ble_eq_true rfl⟩) hS (fun q _ h => hFc q h) hFc (fun r_17 u t H1 locs ht hvm hw_18 hB hz1 hk1 hS => ?_)
            obtain ⟨hP1, hK1, hD1⟩ := hB
            rw [ht] at hP1
            obtain ⟨hP, hD⟩ := s3_j (L := [(ai, .inl (k_ai, 14, .inl f_ai)), (ld_gas, .inl (k_ld_gas, 14, .inl ga2)), (ld_coming, .inl (k_ld_coming, 10, .inl f_ld_coming)), (ld, .inr (5, [.ref ld_gas, .int ld_ringed, .ref bk, .ref ld_coming, .ref ld_waiting, .ref ld_rest])), (bk, .inr (0, [.int (nI bw), .ref bk_tail, .ref bk_head, .ref bk_hinder, .ref bk_size, .ref bk_walk, .ref bk_draught, .ref bk_doorIn, .ref bk_fanIn, .ref bk_faceIn, .int (nI bn), .int bk_day, .ref gr])), (ld_rest, .inl (k_ld_rest, 14, .inl re2))]) 3 hP hD [0, 1, 5] [2, 3, 4] hk1 hFc hP1 hD1 rfl rfl rfl (by decide) (by decide)
            generalize H1 = H at hP hS ⊢
            refine lv_istore (lv' := [(7, .int r_17), (0, .ref ld), (5, .int lf2), (6, .int (nI i2))]) hx hb dX5_share_122 hl (by decide) rfl (fun ls hl => ?_)
            refine lv_iload hx hb dX5_share_124 (lv_at hl 0 rfl) ?_
            refine lv_iconst (v := (-1)) hx hb dX5_share_126 (by decide) ?_
            refine lv_icmp_ne (tgt := 131) hx hb dX5_share_127 (by decide) (fun c_19 => ?_) (fun c_19 => ?_)
            · skip
              have g_20 : r_17.toInt ≠ (-1 : Int) := i_ne c_19
              refine lv_aload_n hx hb dX5_share_131 rfl (lv_at hl 1 rfl) ?_
              refine va_get (D := (dC, dI)) (ci := 5) (v := .ref ld_gas) (C := RX5) (T := TX5) (N := 6) hx hb hts (fun w h => wM_c (iX5 w h)) hown hK hP 3 rfl rfl 0 (by decide) (hts _ (wM_c wd_489)) (fun _ h9 => h9) rfl dX5_share_132 ?_
              refine lv_iload hx hb dX5_share_135 (lv_at hl 0 rfl) ?_
              refine lv_dup2_11 hx hb dX5_share_137 rfl rfl ?_
              refine va_iald hx hb hK hP 1 1 rfl rfl (by first | with_reducible assumption | exact vp_in_iff.mpr (by omega)) dX5_share_138 ?_
              refine lv_topi (fun v_21 ev_21 => ?_)
              refine lv_iconst (v := 1) hx hb dX5_share_139 (by decide) ?_
              refine lv_iadd hx hb dX5_share_140 ?_
              refine lv_topi (fun v_22 ev_22 => ?_)
              refine va_iast hx hb hK hP hD hS 1 1 rfl rfl (by first | with_reducible assumption | exact vp_in_iff.mpr (by omega)) dX5_share_141 (fun H locs hP hD hS => ?_)
              obtain ⟨f_23, ef_23⟩ : ∃ f9, f9 = (upd ga2 r_17.toNatClampNeg v_22) := ⟨_, rfl⟩
              obtain ⟨hP, hD⟩ : s3_w (dC, dI) classes A [(ai, .inl (k_ai, 14, .inl f_ai)), (ld_gas, .inl (k_ld_gas, 14, .inl f_23)), (ld_coming, .inl (k_ld_coming, 10, .inl f_ld_coming)), (ld, .inr (5, [.ref ld_gas, .int ld_ringed, .ref bk, .ref ld_coming, .ref ld_waiting, .ref ld_rest])), (bk, .inr (0, [.int (nI bw), .ref bk_tail, .ref bk_head, .ref bk_hinder, .ref bk_size, .ref bk_walk, .ref bk_draught, .ref bk_doorIn, .ref bk_fanIn, .ref bk_faceIn, .int (nI bn), .int bk_day, .ref gr])), (ld_rest, .inl (k_ld_rest, 14, .inl re2))] H := ⟨(by rw [ef_23]; exact hP), (by rw [ef_23]; exact hD)⟩
              refine lv_aload_n hx hb dX5_share_142 rfl (lv_at hl 1 rfl) ?_
              refine va_get (D := (dC, dI)) (ci := 5) (v := .ref ld_rest) (C := RX5) (T := TX5) (N := 6) hx hb hts (fun w h => wM_c (iX5 w h)) hown hK hP 3 rfl rfl 5 (by decide) (hts _ (wM_c wd_498)) (fun _ h9 => h9) rfl dX5_share_143 ?_
              refine lv_iload hx hb dX5_share_146 (lv_at hl 0 rfl) ?_
              refine lv_iconst (v := (-1)) hx hb dX5_share_148 (by decide) ?_
              refine va_iast hx hb hK hP hD hS 5 3 rfl rfl (by first | with_reducible assumption | exact vp_in_iff.mpr (by omega)) dX5_share_149 (fun H locs hP hD hS => ?_)
              obtain ⟨f_24, ef_24⟩ : ∃ f9, f9 = (upd re2 r_17.toNatClampNeg (-1)) := ⟨_, rfl⟩
              obtain ⟨hP, hD⟩ : s3_w (dC, dI) classes A [(ai, .inl (k_ai, 14, .inl f_ai)), (ld_gas, .inl (k_ld_gas, 14, .inl f_23)), (ld_coming, .inl (k_ld_coming, 10, .inl f_ld_coming)), (ld, .inr (5, [.ref ld_gas, .int ld_ringed, .ref bk, .ref ld_coming, .ref ld_waiting, .ref ld_rest])), (bk, .inr (0, [.int (nI bw), .ref bk_tail, .ref bk_head, .ref bk_hinder, .ref bk_size, .ref bk_walk, .ref bk_draught, .ref bk_doorIn, .ref bk_fanIn, .ref bk_faceIn, .int (nI bn), .int bk_day, .ref gr])), (ld_rest, .inl (k_ld_rest, 14, .inl f_24))] H := ⟨(by rw [ef_24]; exact hP), (by rw [ef_24]; exact hD)⟩
              obtain ⟨v_25, ev_25⟩ : ∃ y : Int32, y = lf2 + (-1) := ⟨_, rfl⟩
              refine lv_iinc (v := v_25) (lv' := [(5, .int v_25), (7, .int r_17), (0, .ref ld), (6, .int (nI i2))]) hx hb dX5_share_150 hl (k := 2) rfl (by rw [ev_25]; rfl) (by decide) rfl (fun ls hl => ?_)
              refine lv_iinc (v := (nI (i2 + 1))) (lv' := [(6, .int (nI (i2 + 1))), (5, .int v_25), (7, .int r_17), (0, .ref ld)]) hx hb dX5_share_153 hl (k := 3) rfl (nI_add _ 1) (by decide) rfl (fun ls hl => ?_)
              refine lv_goto (tgt := 106) hx hb dX5_share_156 (by decide) ?_
              exact ih_10 v_25 (i2 + 1) f_23 f_24 _ _ _ ⟨(by first | with_reducible assumption | omega | exact vp_in_iff.mpr (by omega) | exact vp_in_nI (by omega) (by omega) | exact ⟨by omega, by omega⟩), hP.sub [3, 4, 0, 1, 2, 5] rfl, hD.sub [3, 4, 0, 1, 2, 5] (by decide) rfl, hS, lv_sub hl [3, 1, 0] rfl⟩ (by omega)
            · skip
              have g_26 : r_17.toInt = (-1 : Int) := i_eq c_19
              have hK9 := hK.sub (tys' := [(k_ai, .int), (k_ld_gas, .int), (k_ld_coming, .int), (k_ld_rest, .int)]) [0, 1, 2, 3] rfl
              exact W.vret hx hb hr (fun t ht hW => ⟨⟨(), rfl, trivial, ga2, re2, by rw [ht]; exact hP.sub [3, 4, 0, 1, 2, 5] rfl, va_K.moved hW.alike hK9, hD.sub [3, 4, 0, 1, 2, 5] (by decide) rfl⟩, hS.F ht⟩) hS.2.2 dX5_share_130
      · skip
        have g_27 := n_nge (a := i1) (b := bw) c_8 (by omega) (by omega)
        refine lv_aload_n hx hb dX5_share_37 rfl (lv_at hl 0 rfl) ?_
        refine va_get (D := (dC, dI)) (ci := 5) (v := .ref ld_rest) (C := RX5) (T := TX5) (N := 6) hx hb hts (fun w h => wM_c (iX5 w h)) hown hK hP 0 rfl rfl 5 (by decide) (hts _ (wM_c wd_498)) (fun _ h9 => h9) rfl dX5_share_38 ?_
        refine lv_iload hx hb dX5_share_41 (lv_at hl 5 rfl) ?_
        refine va_iald hx hb hK hP 5 3 rfl rfl (vp_in_nI (n := i1) (by omega) (by omega)) dX5_share_43 ?_
        refine lv_topi (fun v_28 ev_28 => ?_)
        have nv_28 : v_28 = re1 i1 := by rw [ev_28]; exact congrArg _ (nI_clamp (by omega))
        refine lv_iconst (v := (-1)) hx hb dX5_share_44 (by decide) ?_
        refine lv_icmp_ne (tgt := 51) hx hb dX5_share_45 (by decide) (fun c_29 => ?_) (fun c_29 => ?_)
        · skip
          have g_30 : v_28.toInt ≠ (-1 : Int) := i_ne c_29
          refine lv_iload hx hb dX5_share_51 (lv_at hl 3 rfl) ?_
          refine lv_aload_n hx hb dX5_share_53 rfl (lv_at hl 1 rfl) ?_
          refine lv_iload hx hb dX5_share_54 (lv_at hl 5 rfl) ?_
          refine va_iald hx hb hK hP 2 0 rfl rfl (vp_in_nI (n := i1) (by omega) (by omega)) dX5_share_56 ?_
          refine lv_topi (fun v_31 ev_31 => ?_)
          have nv_31 : v_31 = f_ai i1 := by rw [ev_31]; exact congrArg _ (nI_clamp (by omega))
          refine va_mabs hx hb (by rw [hml]; exact hl.1.symm) hown (hts _ (wM_c wd_1121)) (hts _ (wM_c wd_1122)) (hts _ (wM_c wd_138)) (hts _ (wM_c wd_math_abs)) (Nat.le_of_ble_eq_true rfl) (Nat.le_of_ble_eq_true rfl) (Nat.le_of_ble_eq_true rfl) (Nat.le_of_ble_eq_true rfl) dX5_share_57 ?_
          refine lv_topi (fun v_32 ev_32 => ?_)
          refine lv_imul hx hb dX5_share_60 ?_
          refine lv_topi (fun v_33 ev_33 => ?_)
          refine lv_istore (lv' := [(7, .int v_33), (0, .ref ld), (2, .ref ai), (3, .int aw0), (4, .int v_1), (5, .int lf), (6, .int (nI i1))]) hx hb dX5_share_61 hl (by decide) rfl (fun ls hl => ?_)
          refine lv_aload_n hx hb dX5_share_63 rfl (lv_at hl 1 rfl) ?_
          refine va_get (D := (dC, dI)) (ci := 5) (v := .ref ld_gas) (C := RX5) (T := TX5) (N := 6) hx hb hts (fun w h => wM_c (iX5 w h)) hown hK hP 0 rfl rfl 0 (by decide) (hts _ (wM_c wd_489)) (fun _ h9 => h9) rfl dX5_share_64 ?_
          refine lv_iload hx hb dX5_share_67 (lv_at hl 6 rfl) ?_
          refine lv_dup2_11 hx hb dX5_share_69 rfl rfl ?_
          refine va_iald hx hb hK hP 3 1 rfl rfl (vp_in_nI (n := i1) (by omega) (by omega)) dX5_share_70 ?_
          refine lv_topi (fun v_34 ev_34 => ?_)
          have nv_34 : v_34 = ga1 i1 := by rw [ev_34]; exact congrArg _ (nI_clamp (by omega))
          refine lv_iload hx hb dX5_share_71 (lv_at hl 0 rfl) ?_
          refine lv_iload_n hx hb dX5_share_73 rfl (lv_at hl 3 rfl) ?_
          refine lv_idiv hx hb dX5_share_74 c_5 ?_
          refine lv_topi (fun v_35 ev_35 => ?_)
          refine lv_iadd hx hb dX5_share_75 ?_
          refine lv_topi (fun v_36 ev_36 => ?_)
          refine va_iast hx hb hK hP hD hS 3 1 rfl rfl (vp_in_nI (n := i1) (by omega) (by omega)) dX5_share_76 (fun H locs hP hD hS => ?_)
          obtain ⟨f_37, ef_37⟩ : ∃ f9, f9 = (upd ga1 (nI i1).toNatClampNeg v_36) := ⟨_, rfl⟩
          obtain ⟨hP, hD⟩ : s3_w (dC, dI) classes A [(ld, .inr (5, [.ref ld_gas, .int ld_ringed, .ref bk, .ref ld_coming, .ref ld_waiting, .ref ld_rest])), (bk, .inr (0, [.int (nI bw), .ref bk_tail, .ref bk_head, .ref bk_hinder, .ref bk_size, .ref bk_walk, .ref bk_draught, .ref bk_doorIn, .ref bk_fanIn, .ref bk_faceIn, .int (nI bn), .int bk_day, .ref gr])), (ai, .inl (k_ai, 14, .inl f_ai)), (ld_gas, .inl (k_ld_gas, 14, .inl f_37)), (ld_coming, .inl (k_ld_coming, 10, .inl f_ld_coming)), (ld_rest, .inl (k_ld_rest, 14, .inl re1))] H := ⟨(by rw [ef_37]; exact hP), (by rw [ef_37]; exact hD)⟩
          refine lv_iload hx hb dX5_share_77 (lv_at hl 5 rfl) ?_
          refine lv_iload hx hb dX5_share_79 (lv_at hl 0 rfl) ?_
          refine lv_iload_n hx hb dX5_share_81 rfl (lv_at hl 3 rfl) ?_
          refine lv_idiv hx hb dX5_share_82 c_5 ?_
          refine lv_topi (fun v_38 ev_38 => ?_)
          refine lv_isub hx hb dX5_share_83 ?_
          refine lv_topi (fun v_39 ev_39 => ?_)
          refine lv_istore (lv' := [(5, .int v_39), (7, .int v_33), (0, .ref ld), (2, .ref ai), (3, .int aw0), (4, .int v_1), (6, .int (nI i1))]) hx hb dX5_share_84 hl (by decide) rfl (fun ls hl => ?_)
          refine lv_aload_n hx hb dX5_share_86 rfl (lv_at hl 2 rfl) ?_
          refine va_get (D := (dC, dI)) (ci := 5) (v := .ref ld_rest) (C := RX5) (T := TX5) (N := 6) hx hb hts (fun w h => wM_c (iX5 w h)) hown hK hP 0 rfl rfl 5 (by decide) (hts _ (wM_c wd_498)) (fun _ h9 => h9) rfl dX5_share_87 ?_
          refine lv_iload hx hb dX5_share_90 (lv_at hl 6 rfl) ?_
          refine lv_iload hx hb dX5_share_92 (lv_at hl 1 rfl) ?_
          refine lv_iload_n hx hb dX5_share_94 rfl (lv_at hl 4 rfl) ?_
          refine lv_irem hx hb dX5_share_95 c_5 ?_
          refine lv_topi (fun v_40 ev_40 => ?_)
          refine va_iast hx hb hK hP hD hS 5 3 rfl rfl (vp_in_nI (n := i1) (by omega) (by omega)) dX5_share_96 (fun H locs hP hD hS => ?_)
          obtain ⟨f_41, ef_41⟩ : ∃ f9, f9 = (upd re1 (nI i1).toNatClampNeg v_40) := ⟨_, rfl⟩
          obtain ⟨hP, hD⟩ : s3_w (dC, dI) classes A [(ld, .inr (5, [.ref ld_gas, .int ld_ringed, .ref bk, .ref ld_coming, .ref ld_waiting, .ref ld_rest])), (bk, .inr (0, [.int (nI bw), .ref bk_tail, .ref bk_head, .ref bk_hinder, .ref bk_size, .ref bk_walk, .ref bk_draught, .ref bk_doorIn, .ref bk_fanIn, .ref bk_faceIn, .int (nI bn), .int bk_day, .ref gr])), (ai, .inl (k_ai, 14, .inl f_ai)), (ld_gas, .inl (k_ld_gas, 14, .inl f_37)), (ld_coming, .inl (k_ld_coming, 10, .inl f_ld_coming)), (ld_rest, .inl (k_ld_rest, 14, .inl f_41))] H := ⟨(by rw [ef_41]; exact hP), (by rw [ef_41]; exact hD)⟩
          refine lv_iinc (v := (nI (i1 + 1))) (lv' := [(6, .int (nI (i1 + 1))), (5, .int v_39), (7, .int v_33), (0, .ref ld), (2, .ref ai), (3, .int aw0), (4, .int v_1)]) hx hb dX5_share_97 hl (k := 6) rfl (nI_add _ 1) (by decide) rfl (fun ls hl => ?_)
          refine lv_goto (tgt := 25) hx hb dX5_share_100 (by decide) ?_
          exact ih_7 v_39 (i1 + 1) f_37 f_41 _ _ _ ⟨(by first | with_reducible assumption | omega | exact vp_in_iff.mpr (by omega) | exact vp_in_nI (by omega) (by omega) | exact ⟨by omega, by omega⟩), hP.sub [0, 1, 2, 3, 4, 5] rfl, hD.sub [0, 1, 2, 3, 4, 5] (by decide) rfl, hS, lv_sub hl [3, 4, 5, 6, 1, 0] rfl⟩ (by omega)
        · skip
          have g_42 : v_28.toInt = (-1 : Int) := i_eq c_29
          refine lv_goto (tgt := 97) hx hb dX5_share_48 (by decide) ?_
          refine lv_iinc (v := (nI (i1 + 1))) (lv' := [(6, .int (nI (i1 + 1))), (0, .ref ld), (2, .ref ai), (3, .int aw0), (4, .int v_1), (5, .int lf)]) hx hb dX5_share_97 hl (k := 5) rfl (nI_add _ 1) (by decide) rfl (fun ls hl => ?_)
          refine lv_goto (tgt := 25) hx hb dX5_share_100 (by decide) ?_
          exact ih_7 lf (i1 + 1) ga1 re1 _ _ _ ⟨(by first | with_reducible assumption | omega | exact vp_in_iff.mpr (by omega) | exact vp_in_nI (by omega) (by omega) | exact ⟨by omega, by omega⟩), hP.sub [0, 1, 2, 3, 4, 5] rfl, hD.sub [0, 1, 2, 3, 4, 5] (by decide) rfl, hS, lv_sub hl [1, 2, 3, 4, 5, 0] rfl⟩ (by omega)
    · skip
      have g_43 : aw0.toInt = (0 : Int) := i_eq c_5
      have hK9 := hK.sub (tys' := [(k_ai, .int), (k_ld_gas, .int), (k_ld_coming, .int), (k_ld_rest, .int)]) [0, 1, 2, 3] rfl
      exact W.vret hx hb hr (fun t ht hW => ⟨⟨(), rfl, trivial, f_ld_gas, f_ld_rest, by rw [ht]; exact hP.sub [0, 1, 2, 3, 4, 5] rfl, va_K.moved hW.alike hK9, hD.sub [0, 1, 2, 3, 4, 5] (by decide) rfl⟩, hS.F ht⟩) hS.2.2 dX5_share_17
set_option maxHeartbeats 4000000 in
set_option maxRecDepth 100000 in
theorem c5_sendOn (l : Launch) (dC : Nat → ClassId) (dI : Nat → Nat → Nat) (n0 : Nat) (atx : Nat → Nat × Nat) (sz : Nat) (ld : Nat) (ld_gas : Nat) (ld_ringed : Int32) (bk : Nat) (ld_coming : Nat) (ld_waiting : Nat) (ld_rest : Nat) (bw : Nat) (bk_tail : Nat) (bk_head : Nat) (bk_hinder : Nat) (bk_size : Nat) (bk_walk : Nat) (bk_draught : Nat) (bk_doorIn : Nat) (bk_fanIn : Nat) (bk_faceIn : Nat) (bn : Nat) (bk_day : Int32) (gr : Nat) (k_bk_tail : ClassId) (f_bk_tail : Nat → Int32) (k_bk_head : ClassId) (f_bk_head : Nat → Int32) (ai : Nat) (k_ai : ClassId) (f_ai : Nat → Int32) (k_ld_gas : ClassId) (f_ld_gas : Nat → Int32) (k_ld_coming : ClassId) (f_ld_coming : Nat → Int32) (k_ld_waiting : ClassId) (f_ld_waiting : Nat → Int32) (k_ld_rest : ClassId) (f_ld_rest : Nat → Int32) (kn : Int32) (hbw : bw ≤ 14) (hbn : bn ≤ 10) (q_day : -1 ≤ bk_day.toInt ∧ bk_day.toInt < 10) (q_tail : rg f_bk_tail 14 0 10) (q_head : rg f_bk_head 14 0 10) (hkn : vp_in kn 10) : Met l yX5_sendOn (wM yX5_sendOn cX5_sendOn 6 none) ({ frames := 2, cells := 0, slots := 0, locals := 49 }) (va_Pc [.ref ld, .int kn, .ref ai] (fun U => U.heap.size = sz ∧ n0 ≤ sz ∧ GW n0 atx U ∧ va_P (dC, dI) classes [(ld, .inr (5, [.ref ld_gas, .int ld_ringed, .ref bk, .ref ld_coming, .ref ld_waiting, .ref ld_rest])), (bk, .inr (0, [.int (nI bw), .ref bk_tail, .ref bk_head, .ref bk_hinder, .ref bk_size, .ref bk_walk, .ref bk_draught, .ref bk_doorIn, .ref bk_fanIn, .ref bk_faceIn, .int (nI bn), .int bk_day, .ref gr])), (bk_tail, .inl (k_bk_tail, 14, .inl f_bk_tail)), (bk_head, .inl (k_bk_head, 14, .inl f_bk_head)), (ai, .inl (k_ai, 14, .inl f_ai)), (ld_gas, .inl (k_ld_gas, 14, .inl f_ld_gas)), (ld_coming, .inl (k_ld_coming, 10, .inl f_ld_coming)), (ld_waiting, .inl (k_ld_waiting, 10, .inl f_ld_waiting)), (ld_rest, .inl (k_ld_rest, 14, .inl f_ld_rest))] U.heap ∧ va_K (dC, dI) classes [(k_bk_tail, .int), (k_bk_head, .int), (k_ai, .int), (k_ld_gas, .int), (k_ld_coming, .int), (k_ld_waiting, .int), (k_ld_rest, .int)] U ∧ va_D (fun q => n0 ≤ q) [(ld, .inr (5, [.ref ld_gas, .int ld_ringed, .ref bk, .ref ld_coming, .ref ld_waiting, .ref ld_rest])), (bk, .inr (0, [.int (nI bw), .ref bk_tail, .ref bk_head, .ref bk_hinder, .ref bk_size, .ref bk_walk, .ref bk_draught, .ref bk_doorIn, .ref bk_fanIn, .ref bk_faceIn, .int (nI bn), .int bk_day, .ref gr])), (bk_tail, .inl (k_bk_tail, 14, .inl f_bk_tail)), (bk_head, .inl (k_bk_head, 14, .inl f_bk_head)), (ai, .inl (k_ai, 14, .inl f_ai)), (ld_gas, .inl (k_ld_gas, 14, .inl f_ld_gas)), (ld_coming, .inl (k_ld_coming, 10, .inl f_ld_coming)), (ld_waiting, .inl (k_ld_waiting, 10, .inl f_ld_waiting)), (ld_rest, .inl (k_ld_rest, 14, .inl f_ld_rest))])) (va_Qv (fun _ : Unit => True) (fun (_ : Unit) (t : State) => ∃ (ga9 : Nat → Int32), ∃ (co9 : Nat → Int32), ∃ (wa9 : Nat → Int32), ∃ (re9 : Nat → Int32), va_P (dC, dI) classes [(ld, .inr (5, [.ref ld_gas, .int ld_ringed, .ref bk, .ref ld_coming, .ref ld_waiting, .ref ld_rest])), (bk, .inr (0, [.int (nI bw), .ref bk_tail, .ref bk_head, .ref bk_hinder, .ref bk_size, .ref bk_walk, .ref bk_draught, .ref bk_doorIn, .ref bk_fanIn, .ref bk_faceIn, .int (nI bn), .int bk_day, .ref gr])), (bk_tail, .inl (k_bk_tail, 14, .inl f_bk_tail)), (bk_head, .inl (k_bk_head, 14, .inl f_bk_head)), (ai, .inl (k_ai, 14, .inl f_ai)), (ld_gas, .inl (k_ld_gas, 14, .inl ga9)), (ld_coming, .inl (k_ld_coming, 10, .inl co9)), (ld_waiting, .inl (k_ld_waiting, 10, .inl wa9)), (ld_rest, .inl (k_ld_rest, 14, .inl re9))] t.heap ∧ va_K (dC, dI) classes [(k_bk_tail, .int), (k_bk_head, .int), (k_ai, .int), (k_ld_gas, .int), (k_ld_coming, .int), (k_ld_waiting, .int), (k_ld_rest, .int)] t ∧ va_D (va_A [(ld, .inr (5, [.ref ld_gas, .int ld_ringed, .ref bk, .ref ld_coming, .ref ld_waiting, .ref ld_rest])), (bk, .inr (0, [.int (nI bw), .ref bk_tail, .ref bk_head, .ref bk_hinder, .ref bk_size, .ref bk_walk, .ref bk_draught, .ref bk_doorIn, .ref bk_fanIn, .ref bk_faceIn, .int (nI bn), .int bk_day, .ref gr])), (bk_tail, .inl (k_bk_tail, 14, .inl f_bk_tail)), (bk_head, .inl (k_bk_head, 14, .inl f_bk_head)), (ai, .inl (k_ai, 14, .inl f_ai)), (ld_gas, .inl (k_ld_gas, 14, .inl f_ld_gas)), (ld_coming, .inl (k_ld_coming, 10, .inl f_ld_coming)), (ld_waiting, .inl (k_ld_waiting, 10, .inl f_ld_waiting)), (ld_rest, .inl (k_ld_rest, 14, .inl f_ld_rest))] sz) [(ld, .inr (5, [.ref ld_gas, .int ld_ringed, .ref bk, .ref ld_coming, .ref ld_waiting, .ref ld_rest])), (bk, .inr (0, [.int (nI bw), .ref bk_tail, .ref bk_head, .ref bk_hinder, .ref bk_size, .ref bk_walk, .ref bk_draught, .ref bk_doorIn, .ref bk_fanIn, .ref bk_faceIn, .int (nI bn), .int bk_day, .ref gr])), (bk_tail, .inl (k_bk_tail, 14, .inl f_bk_tail)), (bk_head, .inl (k_bk_head, 14, .inl f_bk_head)), (ai, .inl (k_ai, 14, .inl f_ai)), (ld_gas, .inl (k_ld_gas, 14, .inl ga9)), (ld_coming, .inl (k_ld_coming, 10, .inl co9)), (ld_waiting, .inl (k_ld_waiting, 10, .inl wa9)), (ld_rest, .inl (k_ld_rest, 14, .inl re9))]) (va_A [(ld, .inr (5, [.ref ld_gas, .int ld_ringed, .ref bk, .ref ld_coming, .ref ld_waiting, .ref ld_rest])), (bk, .inr (0, [.int (nI bw), .ref bk_tail, .ref bk_head, .ref bk_hinder, .ref bk_size, .ref bk_walk, .ref bk_draught, .ref bk_doorIn, .ref bk_fanIn, .ref bk_faceIn, .int (nI bn), .int bk_day, .ref gr])), (bk_tail, .inl (k_bk_tail, 14, .inl f_bk_tail)), (bk_head, .inl (k_bk_head, 14, .inl f_bk_head)), (ai, .inl (k_ai, 14, .inl f_ai)), (ld_gas, .inl (k_ld_gas, 14, .inl f_ld_gas)), (ld_coming, .inl (k_ld_coming, 10, .inl f_ld_coming)), (ld_waiting, .inl (k_ld_waiting, 10, .inl f_ld_waiting)), (ld_rest, .inl (k_ld_rest, 14, .inl f_ld_rest))] sz)) 0 0 (va_A [(ld, .inr (5, [.ref ld_gas, .int ld_ringed, .ref bk, .ref ld_coming, .ref ld_waiting, .ref ld_rest])), (bk, .inr (0, [.int (nI bw), .ref bk_tail, .ref bk_head, .ref bk_hinder, .ref bk_size, .ref bk_walk, .ref bk_draught, .ref bk_doorIn, .ref bk_fanIn, .ref bk_faceIn, .int (nI bn), .int bk_day, .ref gr])), (bk_tail, .inl (k_bk_tail, 14, .inl f_bk_tail)), (bk_head, .inl (k_bk_head, 14, .inl f_bk_head)), (ai, .inl (k_ai, 14, .inl f_ai)), (ld_gas, .inl (k_ld_gas, 14, .inl f_ld_gas)), (ld_coming, .inl (k_ld_coming, 10, .inl f_ld_coming)), (ld_waiting, .inl (k_ld_waiting, 10, .inl f_ld_waiting)), (ld_rest, .inl (k_ld_rest, 14, .inl f_ld_rest))] sz) := by
  refine Met.ofW (cc := cX5_sendOn) (maxL := 6) (ret := none) (by decide) rfl ?_
  intro p e s m args below meth c s₁ B hml hv
  obtain ⟨rfl, hsz, hn0, hG, hP, hK, hD0⟩ := hv
  have hx := B.exec
  have hb := B.bytes
  have hr := B.returns
  have hts := atoms_spec (ws := wM yX5_sendOn cX5_sendOn 6 none) B.pre
  have hown : s.vm.findClass RX5 = some m.cls := findClass_of_methodNamed B.named
  have hlocks := B.notSynchronized
  subst hsz
  have hD := hD0.self (sz := s.heap.size)
  have hA0 := vA_n0 hD0 hn0
  generalize hAe : va_A [(ld, .inr (5, [.ref ld_gas, .int ld_ringed, .ref bk, .ref ld_coming, .ref ld_waiting, .ref ld_rest])), (bk, .inr (0, [.int (nI bw), .ref bk_tail, .ref bk_head, .ref bk_hinder, .ref bk_size, .ref bk_walk, .ref bk_draught, .ref bk_doorIn, .ref bk_fanIn, .ref bk_faceIn, .int (nI bn), .int bk_day, .ref gr])), (bk_tail, .inl (k_bk_tail, 14, .inl f_bk_tail)), (bk_head, .inl (k_bk_head, 14, .inl f_bk_head)), (ai, .inl (k_ai, 14, .inl f_ai)), (ld_gas, .inl (k_ld_gas, 14, .inl f_ld_gas)), (ld_coming, .inl (k_ld_coming, 10, .inl f_ld_coming)), (ld_waiting, .inl (k_ld_waiting, 10, .inl f_ld_waiting)), (ld_rest, .inl (k_ld_rest, 14, .inl f_ld_rest))] s.heap.size = A at hD hA0 ⊢
  have hA : ∀ q : Nat, s.heap.size ≤ q → A q := fun q h => by rw [← hAe]; exact Or.inr h
  have hS : va_S A s.heap s.heap [] := va_S.rf
  have hl := lv_entry ([.ref ld, .int kn, .ref ai]) (n := 6) (Nat.le_of_ble_eq_true rfl)
  rw [lg_entry_eq]
  generalize (lg_sl ([.ref ld, .int kn, .ref ai]) ++ List.replicate (6 - (lg_sl ([.ref ld, .int kn, .ref ai])).length) Slot.unset).toArray = ls at hl ⊢
  have hl : lv_has ls 6 [(0, .ref ld), (1, .int kn), (2, .ref ai)] := hl
  refine lv_iconst (v := 0) hx hb dX5_sendOn_0 (by decide) ?_
  refine lv_istore_n (lv' := [(3, .int 0), (0, .ref ld), (1, .int kn), (2, .ref ai)]) hx hb dX5_sendOn_1 rfl hl (by decide) rfl (fun ls hl => ?_)
  refine lv_iconst (v := 0) hx hb dX5_sendOn_2 (by decide) ?_
  refine lv_istore (lv' := [(4, .int 0), (3, .int 0), (0, .ref ld), (1, .int kn), (2, .ref ai)]) hx hb dX5_sendOn_3 hl (by decide) rfl (fun ls hl => ?_)
  refine W_lp3 (I := fun (ay : Int32) (i1 : Nat) (re1 : Nat → Int32) H locs ls => (i1 ≤ bw) ∧ va_P (dC, dI) classes [(ld, .inr (5, [.ref ld_gas, .int ld_ringed, .ref bk, .ref ld_coming, .ref ld_waiting, .ref ld_rest])), (bk, .inr (0, [.int (nI bw), .ref bk_tail, .ref bk_head, .ref bk_hinder, .ref bk_size, .ref bk_walk, .ref bk_draught, .ref bk_doorIn, .ref bk_fanIn, .ref bk_faceIn, .int (nI bn), .int bk_day, .ref gr])), (bk_tail, .inl (k_bk_tail, 14, .inl f_bk_tail)), (bk_head, .inl (k_bk_head, 14, .inl f_bk_head)), (ai, .inl (k_ai, 14, .inl f_ai)), (ld_gas, .inl (k_ld_gas, 14, .inl f_ld_gas)), (ld_coming, .inl (k_ld_coming, 10, .inl f_ld_coming)), (ld_waiting, .inl (k_ld_waiting, 10, .inl f_ld_waiting)), (ld_rest, .inl (k_ld_rest, 14, .inl re1))] H ∧ va_D A [(ld, .inr (5, [.ref ld_gas, .int ld_ringed, .ref bk, .ref ld_coming, .ref ld_waiting, .ref ld_rest])), (bk, .inr (0, [.int (nI bw), .ref bk_tail, .ref bk_head, .ref bk_hinder, .ref bk_size, .ref bk_walk, .ref bk_draught, .ref bk_doorIn, .ref bk_fanIn, .ref bk_faceIn, .int (nI bn), .int bk_day, .ref gr])), (bk_tail, .inl (k_bk_tail, 14, .inl f_bk_tail)), (bk_head, .inl (k_bk_head, 14, .inl f_bk_head)), (ai, .inl (k_ai, 14, .inl f_ai)), (ld_gas, .inl (k_ld_gas, 14, .inl f_ld_gas)), (ld_coming, .inl (k_ld_coming, 10, .inl f_ld_coming)), (ld_waiting, .inl (k_ld_waiting, 10, .inl f_ld_waiting)), (ld_rest, .inl (k_ld_rest, 14, .inl re1))] ∧ va_S A s.heap H locs ∧ lv_has ls 6 [(0, .ref ld), (1, .int kn), (2, .ref ai), (3, .int ay), (4, .int (nI i1))]) (μ := fun (ay : Int32) (i1 : Nat) (re1 : Nat → Int32) => bw - i1) ?_ 0 0 f_ld_rest _ _ _ ⟨(by first | with_reducible assumption | omega | exact vp_in_iff.mpr (by omega) | exact vp_in_nI (by omega) (by omega) | exact ⟨by omega, by omega⟩), hP, hD, hS, lv_sub hl [2, 3, 4, 1, 0] rfl⟩
  intro ay i1 re1 H locs ls hI ih_1
  obtain ⟨hi1, hP, hD, hS, hl⟩ := hI
  refine lv_iload hx hb dX5_sendOn_5 (lv_at hl 4 rfl) ?_
  refine lv_aload_n hx hb dX5_sendOn_7 rfl (lv_at hl 0 rfl) ?_
  refine va_get (D := (dC, dI)) (ci := 5) (v := .ref bk) (C := RX5) (T := TX5) (N := 6) hx hb hts (fun w h => wM_c (iX5 w h)) hown hK hP 0 rfl rfl 2 (by decide) (hts _ (wM_c wd_495)) (fun _ h9 => h9) rfl dX5_sendOn_8 ?_
  refine va_get (D := (dC, dI)) (ci := 0) (v := .int (nI bw)) (C := RX0) (T := TX0) (N := 13) hx hb hts (fun w h => wM_c (iX0 w h)) hown hK hP 1 rfl rfl 0 (by decide) (hts _ (wM_c wd_242)) (fun _ h9 => h9) rfl dX5_sendOn_11 ?_
  refine lv_icmp_ge (tgt := 73) hx hb dX5_sendOn_14 (by decide) (fun c_2 => ?_) (fun c_2 => ?_)
  · skip
    have g_3 := n_ge (a := i1) (b := bw) c_2 (by omega) (by omega)
    refine lv_iload_n hx hb dX5_sendOn_73 rfl (lv_at hl 3 rfl) ?_
    refine lv_if_ne (tgt := 78) hx hb dX5_sendOn_74 (by decide) (fun c_4 => ?_) (fun c_4 => ?_)
    · skip
      have g_5 : ay.toInt ≠ (0 : Int) := i_ne c_4
      refine lv_aload_n hx hb dX5_sendOn_78 rfl (lv_at hl 0 rfl) ?_
      refine lv_iload_n hx hb dX5_sendOn_79 rfl (lv_at hl 1 rfl) ?_
      refine lv_aload_n hx hb dX5_sendOn_80 rfl (lv_at hl 2 rfl) ?_
      refine lv_iload_n hx hb dX5_sendOn_81 rfl (lv_at hl 3 rfl) ?_
      obtain ⟨hPc, hDc, hFc⟩ := s3_c (ws' := [(ld, .inr (5, [.ref ld_gas, .int ld_ringed, .ref bk, .ref ld_coming, .ref ld_waiting, .ref ld_rest])), (bk, .inr (0, [.int (nI bw), .ref bk_tail, .ref bk_head, .ref bk_hinder, .ref bk_size, .ref bk_walk, .ref bk_draught, .ref bk_doorIn, .ref bk_fanIn, .ref bk_faceIn, .int (nI bn), .int bk_day, .ref gr])), (ai, .inl (k_ai, 14, .inl f_ai)), (ld_gas, .inl (k_ld_gas, 14, .inl f_ld_gas)), (ld_coming, .inl (k_ld_coming, 10, .inl f_ld_coming)), (ld_rest, .inl (k_ld_rest, 14, .inl re1))]) [0, 1, 4, 5, 6, 8] hP hD hS hA rfl (by decide)
      have hKc := hK.sub (tys' := [(k_ai, .int), (k_ld_gas, .int), (k_ld_coming, .int), (k_ld_rest, .int)]) [2, 3, 4, 6] rfl
      refine va_callv (va_runV (As := [.int kn, .ref ai, .int ay]) (rest := []) ⟨hx, hb, hml, hown, hts⟩ (c5_share l dC dI n0 atx H.size ld ld_gas ld_ringed bk ld_coming ld_waiting ld_rest bw bk_tail bk_head bk_hinder bk_size bk_walk bk_draught bk_doorIn bk_fanIn bk_faceIn bn bk_day gr ai k_ai f_ai k_ld_gas f_ld_gas k_ld_coming f_ld_coming k_ld_rest re1 kn ay (by first | with_reducible assumption | omega | exact vp_in_iff.mpr (by omega) | exact vp_in_nI (by omega) (by omega) | exact ⟨by omega, by omega⟩) (by first | with_reducible assumption | omega | exact vp_in_iff.mpr (by omega) | exact vp_in_nI (by omega) (by omega) | exact ⟨by omega, by omega⟩) (by first | with_reducible assumption | omega | exact vp_in_iff.mpr (by omega) | exact vp_in_nI (by omega) (by omega) | exact ⟨by omega, by omega⟩) (by first | with_reducible assumption | omega | exact vp_in_iff.mpr (by omega) | exact vp_in_nI (by omega) (by omega) | exact ⟨by omega, by omega⟩)) (cwV 3 hts (gV (fun w h => wM_c h) wd_1127 wd_1124 wd_1126 wd_42 wd_121) rfl rfl rfl (by decide +kernel) ⟨Nat.le_of_ble_eq_true rfl, Nat.le_of_ble_eq_true rfl⟩) ⟨fun a U g mk q => by obtain ⟨q0, q1, q2, qG, qP, qK, qD⟩ := q; exact ⟨q0, q1, q2, GW.blind qG, qP, va_K.moved (u := U) (U := U.calling g mk a) (Vm.Alike.refl U.vm) qK, qD⟩, va_recv hKc hPc (ci := 5) (q0 := 0) rfl rfl, fun U hU hW => ⟨rfl, by rw [hU], Nat.le_trans hn0 hS.1, GW.go hW hU hG (fun q hq hA9 => hS.2.1 q hq (fun h => hA9 (hA0 q h))), by rw [hU]; exact hPc, va_K.moved hW.alike hKc, hDc.weaken (fun _ _ _ h => hA0 _ h)⟩⟩ rfl rfl hl.1 rfl (lv_room (Nat.le_of_ble_eq_true rfl)) dX5_sendOn_82 ⟨Nat.le_of_ble_eq_true rfl, Nat.le_of_ble_eq_true rfl⟩) hS (fun q _ h => hFc q h) hFc (fun u t H1 locs ht hvm hw_7 hB hz1 hk1 hS => ?_)
      obtain ⟨ga9_8, re9_9, hP1, hK1, hD1⟩ := hB
      rw [ht] at hP1
      obtain ⟨hP, hD⟩ := s3_j (L := [(bk_tail, .inl (k_bk_tail, 14, .inl f_bk_tail)), (bk_head, .inl (k_bk_head, 14, .inl f_bk_head)), (ld_waiting, .inl (k_ld_waiting, 10, .inl f_ld_waiting)), (ld, .inr (5, [.ref ld_gas, .int ld_ringed, .ref bk, .ref ld_coming, .ref ld_waiting, .ref ld_rest])), (bk, .inr (0, [.int (nI bw), .ref bk_tail, .ref bk_head, .ref bk_hinder, .ref bk_size, .ref bk_walk, .ref bk_draught, .ref bk_doorIn, .ref bk_fanIn, .ref bk_faceIn, .int (nI bn), .int bk_day, .ref gr])), (ai, .inl (k_ai, 14, .inl f_ai)), (ld_gas, .inl (k_ld_gas, 14, .inl ga9_8)), (ld_coming, .inl (k_ld_coming, 10, .inl f_ld_coming)), (ld_rest, .inl (k_ld_rest, 14, .inl re9_9))]) 3 hP hD [0, 1, 4, 5, 6, 8] [2, 3, 7] hk1 hFc hP1 hD1 rfl rfl rfl (by decide) (by decide)
      generalize H1 = H at hP hS ⊢
      refine lv_iconst (v := 0) hx hb dX5_sendOn_85 (by decide) ?_
      refine lv_istore (lv' := [(4, .int 0), (0, .ref ld), (1, .int kn), (2, .ref ai), (3, .int ay)]) hx hb dX5_sendOn_86 hl (by decide) rfl (fun ls hl => ?_)
      refine W_lp3 (I := fun (i2 : Nat) (co2 : Nat → Int32) (wa2 : Nat → Int32) H locs ls => (i2 ≤ bw) ∧ va_P (dC, dI) classes [(bk_tail, .inl (k_bk_tail, 14, .inl f_bk_tail)), (bk_head, .inl (k_bk_head, 14, .inl f_bk_head)), (ld_waiting, .inl (k_ld_waiting, 10, .inl wa2)), (ld, .inr (5, [.ref ld_gas, .int ld_ringed, .ref bk, .ref ld_coming, .ref ld_waiting, .ref ld_rest])), (bk, .inr (0, [.int (nI bw), .ref bk_tail, .ref bk_head, .ref bk_hinder, .ref bk_size, .ref bk_walk, .ref bk_draught, .ref bk_doorIn, .ref bk_fanIn, .ref bk_faceIn, .int (nI bn), .int bk_day, .ref gr])), (ai, .inl (k_ai, 14, .inl f_ai)), (ld_gas, .inl (k_ld_gas, 14, .inl ga9_8)), (ld_coming, .inl (k_ld_coming, 10, .inl co2)), (ld_rest, .inl (k_ld_rest, 14, .inl re9_9))] H ∧ va_D A [(bk_tail, .inl (k_bk_tail, 14, .inl f_bk_tail)), (bk_head, .inl (k_bk_head, 14, .inl f_bk_head)), (ld_waiting, .inl (k_ld_waiting, 10, .inl wa2)), (ld, .inr (5, [.ref ld_gas, .int ld_ringed, .ref bk, .ref ld_coming, .ref ld_waiting, .ref ld_rest])), (bk, .inr (0, [.int (nI bw), .ref bk_tail, .ref bk_head, .ref bk_hinder, .ref bk_size, .ref bk_walk, .ref bk_draught, .ref bk_doorIn, .ref bk_fanIn, .ref bk_faceIn, .int (nI bn), .int bk_day, .ref gr])), (ai, .inl (k_ai, 14, .inl f_ai)), (ld_gas, .inl (k_ld_gas, 14, .inl ga9_8)), (ld_coming, .inl (k_ld_coming, 10, .inl co2)), (ld_rest, .inl (k_ld_rest, 14, .inl re9_9))] ∧ va_S A s.heap H locs ∧ lv_has ls 6 [(0, .ref ld), (1, .int kn), (2, .ref ai), (4, .int (nI i2))]) (μ := fun (i2 : Nat) (co2 : Nat → Int32) (wa2 : Nat → Int32) => bw - i2) ?_ 0 f_ld_coming f_ld_waiting _ _ _ ⟨(by first | with_reducible assumption | omega | exact vp_in_iff.mpr (by omega) | exact vp_in_nI (by omega) (by omega) | exact ⟨by omega, by omega⟩), hP, hD, hS, lv_sub hl [1, 2, 3, 0] rfl⟩
      intro i2 co2 wa2 H locs ls hI ih_10
      obtain ⟨hi2, hP, hD, hS, hl⟩ := hI
      refine lv_iload hx hb dX5_sendOn_88 (lv_at hl 3 rfl) ?_
      refine lv_aload_n hx hb dX5_sendOn_90 rfl (lv_at hl 0 rfl) ?_
      refine va_get (D := (dC, dI)) (ci := 5) (v := .ref bk) (C := RX5) (T := TX5) (N := 6) hx hb hts (fun w h => wM_c (iX5 w h)) hown hK hP 3 rfl rfl 2 (by decide) (hts _ (wM_c wd_495)) (fun _ h9 => h9) rfl dX5_sendOn_91 ?_
      refine va_get (D := (dC, dI)) (ci := 0) (v := .int (nI bw)) (C := RX0) (T := TX0) (N := 13) hx hb hts (fun w h => wM_c (iX0 w h)) hown hK hP 4 rfl rfl 0 (by decide) (hts _ (wM_c wd_242)) (fun _ h9 => h9) rfl dX5_sendOn_94 ?_
      refine lv_icmp_ge (tgt := 191) hx hb dX5_sendOn_97 (by decide) (fun c_11 => ?_) (fun c_11 => ?_)
      · skip
        have g_12 := n_ge (a := i2) (b := bw) c_11 (by omega) (by omega)
        have hK9 := hK.sub (tys' := [(k_bk_tail, .int), (k_bk_head, .int), (k_ai, .int), (k_ld_gas, .int), (k_ld_coming, .int), (k_ld_waiting, .int), (k_ld_rest, .int)]) [0, 1, 2, 3, 4, 5, 6] rfl
        exact W.vret hx hb hr (fun t ht hW => ⟨⟨(), rfl, trivial, ga9_8, co2, wa2, re9_9, by rw [ht]; exact hP.sub [3, 4, 0, 1, 5, 6, 7, 2, 8] rfl, va_K.moved hW.alike hK9, hD.sub [3, 4, 0, 1, 5, 6, 7, 2, 8] (by decide) rfl⟩, hS.F ht⟩) hS.2.2 dX5_sendOn_191
      · skip
        have g_13 := n_nge (a := i2) (b := bw) c_11 (by omega) (by omega)
        refine lv_aload_n hx hb dX5_sendOn_100 rfl (lv_at hl 2 rfl) ?_
        refine lv_iload hx hb dX5_sendOn_101 (lv_at hl 3 rfl) ?_
        refine va_iald hx hb hK hP 5 2 rfl rfl (vp_in_nI (n := i2) (by omega) (by omega)) dX5_sendOn_103 ?_
        refine lv_topi (fun v_14 ev_14 => ?_)
        have nv_14 : v_14 = f_ai i2 := by rw [ev_14]; exact congrArg _ (nI_clamp (by omega))
        refine lv_if_eq (tgt := 185) hx hb dX5_sendOn_104 (by decide) (fun c_15 => ?_) (fun c_15 => ?_)
        · skip
          have g_16 : v_14.toInt = (0 : Int) := i_eq c_15
          refine lv_iinc (v := (nI (i2 + 1))) (lv' := [(4, .int (nI (i2 + 1))), (0, .ref ld), (1, .int kn), (2, .ref ai)]) hx hb dX5_sendOn_185 hl (k := 3) rfl (nI_add _ 1) (by decide) rfl (fun ls hl => ?_)
          refine lv_goto (tgt := 88) hx hb dX5_sendOn_188 (by decide) ?_
          exact ih_10 (i2 + 1) co2 wa2 _ _ _ ⟨(by first | with_reducible assumption | omega | exact vp_in_iff.mpr (by omega) | exact vp_in_nI (by omega) (by omega) | exact ⟨by omega, by omega⟩), hP.sub [0, 1, 2, 3, 4, 5, 6, 7, 8] rfl, hD.sub [0, 1, 2, 3, 4, 5, 6, 7, 8] (by decide) rfl, hS, lv_sub hl [1, 2, 3, 0] rfl⟩ (by omega)
        · skip
          have g_17 : v_14.toInt ≠ (0 : Int) := i_ne c_15
          refine lv_aload_n hx hb dX5_sendOn_107 rfl (lv_at hl 0 rfl) ?_
          refine va_get (D := (dC, dI)) (ci := 5) (v := .ref bk) (C := RX5) (T := TX5) (N := 6) hx hb hts (fun w h => wM_c (iX5 w h)) hown hK hP 3 rfl rfl 2 (by decide) (hts _ (wM_c wd_495)) (fun _ h9 => h9) rfl dX5_sendOn_108 ?_
          refine lv_iload hx hb dX5_sendOn_111 (lv_at hl 3 rfl) ?_
          refine lv_aload_n hx hb dX5_sendOn_113 rfl (lv_at hl 2 rfl) ?_
          refine lv_iload hx hb dX5_sendOn_114 (lv_at hl 3 rfl) ?_
          refine va_iald hx hb hK hP 5 2 rfl rfl (vp_in_nI (n := i2) (by omega) (by omega)) dX5_sendOn_116 ?_
          refine lv_topi (fun v_18 ev_18 => ?_)
          have nv_18 : v_18 = f_ai i2 := by rw [ev_18]; exact congrArg _ (nI_clamp (by omega))
          obtain ⟨hPc, hDc, hFc⟩ := s3_c (ws' := [(bk, .inr (0, [.int (nI bw), .ref bk_tail, .ref bk_head, .ref bk_hinder, .ref bk_size, .ref bk_walk, .ref bk_draught, .ref bk_doorIn, .ref bk_fanIn, .ref bk_faceIn, .int (nI bn), .int bk_day, .ref gr])), (bk_tail, .inl (k_bk_tail, 14, .inl f_bk_tail)), (bk_head, .inl (k_bk_head, 14, .inl f_bk_head))]) [4, 0, 1] hP hD hS hA rfl (by decide)
          have hKc := hK.sub (tys' := [(k_bk_tail, .int), (k_bk_head, .int)]) [0, 1] rfl
          refine va_calli (va_runV (As := [.int (nI i2), .int v_18]) (rest := []) ⟨hx, hb, hml, hown, hts⟩ (c0_startOf l dC dI n0 atx H.size bk bw bk_tail bk_head bk_hinder bk_size bk_walk bk_draught bk_doorIn bk_fanIn bk_faceIn bn bk_day gr k_bk_tail f_bk_tail k_bk_head f_bk_head (nI i2) v_18 (by first | with_reducible assumption | omega | exact vp_in_iff.mpr (by omega) | exact vp_in_nI (by omega) (by omega) | exact ⟨by omega, by omega⟩) (by first | with_reducible assumption | omega | exact vp_in_iff.mpr (by omega) | exact vp_in_nI (by omega) (by omega) | exact ⟨by omega, by omega⟩) (by first | with_reducible assumption | omega | exact vp_in_iff.mpr (by omega) | exact vp_in_nI (by omega) (by omega) | exact ⟨by omega, by omega⟩) (by first | with_reducible assumption | omega | exact vp_in_iff.mpr (by omega) | exact vp_in_nI (by omega) (by omega) | exact ⟨by omega, by omega⟩) (by first | with_reducible assumption | omega | exact vp_in_iff.mpr (by omega) | exact vp_in_nI (by omega) (by omega) | exact ⟨by omega, by omega⟩) (by first | with_reducible assumption | omega | exact vp_in_iff.mpr (by omega) | exact vp_in_nI (by omega) (by omega) | exact ⟨by omega, by omega⟩)) (cwV 2 hts (gV (fun w h => wM_c h) wd_1120 wd_1117 wd_1118 wd_1119 wd_115) rfl rfl rfl (by decide +kernel) ⟨Nat.le_of_ble_eq_true rfl, Nat.le_of_ble_eq_true rfl⟩) ⟨fun a U g mk q => by obtain ⟨q0, q1, q2, qG, qP, qK, qD⟩ := q; exact ⟨q0, q1, q2, GW.blind qG, qP, va_K.moved (u := U) (U := U.calling g mk a) (Vm.Alike.refl U.vm) qK, qD⟩, va_recv hKc hPc (ci := 0) (q0 := 0) rfl rfl, fun U hU hW => ⟨rfl, by rw [hU], Nat.le_trans hn0 hS.1, GW.go hW hU hG (fun q hq hA9 => hS.2.1 q hq (fun h => hA9 (hA0 q h))), by rw [hU]; exact hPc, va_K.moved hW.alike hKc, hDc.weaken (fun _ _ _ h => hA0 _ h)⟩⟩ rfl rfl hl.1 rfl (lv_room (Nat.le_of_ble_eq_true rfl)) dX5_sendOn_117 ⟨Nat.le_of_ble_eq_true rfl, Nat.le_of_ble_eq_true rfl⟩) hS (fun q _ h => hFc q h) hFc (fun r_19 u t H1 locs ht hvm hw_20 hB hz1 hk1 hS => ?_)
          obtain ⟨hP1, hK1, hD1⟩ := hB
          rw [ht] at hP1
          obtain ⟨hP, hD⟩ := s3_j (L := [(ld_waiting, .inl (k_ld_waiting, 10, .inl wa2)), (ld, .inr (5, [.ref ld_gas, .int ld_ringed, .ref bk, .ref ld_coming, .ref ld_waiting, .ref ld_rest])), (ai, .inl (k_ai, 14, .inl f_ai)), (ld_gas, .inl (k_ld_gas, 14, .inl ga9_8)), (ld_coming, .inl (k_ld_coming, 10, .inl co2)), (ld_rest, .inl (k_ld_rest, 14, .inl re9_9)), (bk, .inr (0, [.int (nI bw), .ref bk_tail, .ref bk_head, .ref bk_hinder, .ref bk_size, .ref bk_walk, .ref bk_draught, .ref bk_doorIn, .ref bk_fanIn, .ref bk_faceIn, .int (nI bn), .int bk_day, .ref gr])), (bk_tail, .inl (k_bk_tail, 14, .inl f_bk_tail)), (bk_head, .inl (k_bk_head, 14, .inl f_bk_head))]) 6 hP hD [4, 0, 1] [2, 3, 5, 6, 7, 8] hk1 hFc hP1 hD1 rfl rfl rfl (by decide) (by decide)
          generalize H1 = H at hP hS ⊢
          refine lv_iload_n hx hb dX5_sendOn_120 rfl (lv_at hl 1 rfl) ?_
          refine lv_icmp_eq (tgt := 127) hx hb dX5_sendOn_121 (by decide) (fun c_21 => ?_) (fun c_21 => ?_)
          · skip
            have g_22 : r_19.toInt = kn.toInt := i_eq c_21
            refine lv_aload_n hx hb dX5_sendOn_127 rfl (lv_at hl 0 rfl) ?_
            refine va_get (D := (dC, dI)) (ci := 5) (v := .ref bk) (C := RX5) (T := TX5) (N := 6) hx hb hts (fun w h => wM_c (iX5 w h)) hown hK hP 1 rfl rfl 2 (by decide) (hts _ (wM_c wd_495)) (fun _ h9 => h9) rfl dX5_sendOn_128 ?_
            refine lv_iload hx hb dX5_sendOn_131 (lv_at hl 3 rfl) ?_
            refine lv_aload_n hx hb dX5_sendOn_133 rfl (lv_at hl 2 rfl) ?_
            refine lv_iload hx hb dX5_sendOn_134 (lv_at hl 3 rfl) ?_
            refine va_iald hx hb hK hP 2 2 rfl rfl (vp_in_nI (n := i2) (by omega) (by omega)) dX5_sendOn_136 ?_
            refine lv_topi (fun v_23 ev_23 => ?_)
            have nv_23 : v_23 = f_ai i2 := by rw [ev_23]; exact congrArg _ (nI_clamp (by omega))
            obtain ⟨hPc, hDc, hFc⟩ := s3_c (ws' := [(bk, .inr (0, [.int (nI bw), .ref bk_tail, .ref bk_head, .ref bk_hinder, .ref bk_size, .ref bk_walk, .ref bk_draught, .ref bk_doorIn, .ref bk_fanIn, .ref bk_faceIn, .int (nI bn), .int bk_day, .ref gr])), (bk_tail, .inl (k_bk_tail, 14, .inl f_bk_tail)), (bk_head, .inl (k_bk_head, 14, .inl f_bk_head))]) [6, 7, 8] hP hD hS hA rfl (by decide)
            have hKc := hK.sub (tys' := [(k_bk_tail, .int), (k_bk_head, .int)]) [0, 1] rfl
            refine va_calli (va_runV (As := [.int (nI i2), .int v_23]) (rest := []) ⟨hx, hb, hml, hown, hts⟩ (c0_endOf l dC dI n0 atx H.size bk bw bk_tail bk_head bk_hinder bk_size bk_walk bk_draught bk_doorIn bk_fanIn bk_faceIn bn bk_day gr k_bk_tail f_bk_tail k_bk_head f_bk_head (nI i2) v_23 (by first | with_reducible assumption | omega | exact vp_in_iff.mpr (by omega) | exact vp_in_nI (by omega) (by omega) | exact ⟨by omega, by omega⟩) (by first | with_reducible assumption | omega | exact vp_in_iff.mpr (by omega) | exact vp_in_nI (by omega) (by omega) | exact ⟨by omega, by omega⟩) (by first | with_reducible assumption | omega | exact vp_in_iff.mpr (by omega) | exact vp_in_nI (by omega) (by omega) | exact ⟨by omega, by omega⟩) (by first | with_reducible assumption | omega | exact vp_in_iff.mpr (by omega) | exact vp_in_nI (by omega) (by omega) | exact ⟨by omega, by omega⟩) (by first | with_reducible assumption | omega | exact vp_in_iff.mpr (by omega) | exact vp_in_nI (by omega) (by omega) | exact ⟨by omega, by omega⟩) (by first | with_reducible assumption | omega | exact vp_in_iff.mpr (by omega) | exact vp_in_nI (by omega) (by omega) | exact ⟨by omega, by omega⟩)) (cwV 2 hts (gV (fun w h => wM_c h) wd_1112 wd_1109 wd_1110 wd_1111 wd_115) rfl rfl rfl (by decide +kernel) ⟨Nat.le_of_ble_eq_true rfl, Nat.le_of_ble_eq_true rfl⟩) ⟨fun a U g mk q => by obtain ⟨q0, q1, q2, qG, qP, qK, qD⟩ := q; exact ⟨q0, q1, q2, GW.blind qG, qP, va_K.moved (u := U) (U := U.calling g mk a) (Vm.Alike.refl U.vm) qK, qD⟩, va_recv hKc hPc (ci := 0) (q0 := 0) rfl rfl, fun U hU hW => ⟨rfl, by rw [hU], Nat.le_trans hn0 hS.1, GW.go hW hU hG (fun q hq hA9 => hS.2.1 q hq (fun h => hA9 (hA0 q h))), by rw [hU]; exact hPc, va_K.moved hW.alike hKc, hDc.weaken (fun _ _ _ h => hA0 _ h)⟩⟩ rfl rfl hl.1 rfl (lv_room (Nat.le_of_ble_eq_true rfl)) dX5_sendOn_137 ⟨Nat.le_of_ble_eq_true rfl, Nat.le_of_ble_eq_true rfl⟩) hS (fun q _ h => hFc q h) hFc (fun r_24 u t H1 locs ht hvm hw_25 hB hz1 hk1 hS => ?_)
            obtain ⟨hP1, hK1, hD1⟩ := hB
            rw [ht] at hP1
            obtain ⟨hP, hD⟩ := s3_j (L := [(ld_waiting, .inl (k_ld_waiting, 10, .inl wa2)), (ld, .inr (5, [.ref ld_gas, .int ld_ringed, .ref bk, .ref ld_coming, .ref ld_waiting, .ref ld_rest])), (ai, .inl (k_ai, 14, .inl f_ai)), (ld_gas, .inl (k_ld_gas, 14, .inl ga9_8)), (ld_coming, .inl (k_ld_coming, 10, .inl co2)), (ld_rest, .inl (k_ld_rest, 14, .inl re9_9)), (bk, .inr (0, [.int (nI bw), .ref bk_tail, .ref bk_head, .ref bk_hinder, .ref bk_size, .ref bk_walk, .ref bk_draught, .ref bk_doorIn, .ref bk_fanIn, .ref bk_faceIn, .int (nI bn), .int bk_day, .ref gr])), (bk_tail, .inl (k_bk_tail, 14, .inl f_bk_tail)), (bk_head, .inl (k_bk_head, 14, .inl f_bk_head))]) 6 hP hD [6, 7, 8] [0, 1, 2, 3, 4, 5] hk1 hFc hP1 hD1 rfl rfl rfl (by decide) (by decide)
            generalize H1 = H at hP hS ⊢
            refine lv_istore (lv' := [(5, .int r_24), (0, .ref ld), (1, .int kn), (2, .ref ai), (4, .int (nI i2))]) hx hb dX5_sendOn_140 hl (by decide) rfl (fun ls hl => ?_)
            refine lv_iload hx hb dX5_sendOn_142 (lv_at hl 0 rfl) ?_
            refine lv_aload_n hx hb dX5_sendOn_144 rfl (lv_at hl 1 rfl) ?_
            refine va_get (D := (dC, dI)) (ci := 5) (v := .ref bk) (C := RX5) (T := TX5) (N := 6) hx hb hts (fun w h => wM_c (iX5 w h)) hown hK hP 1 rfl rfl 2 (by decide) (hts _ (wM_c wd_495)) (fun _ h9 => h9) rfl dX5_sendOn_145 ?_
            refine va_get (D := (dC, dI)) (ci := 0) (v := .int bk_day) (C := RX0) (T := TX0) (N := 13) hx hb hts (fun w h => wM_c (iX0 w h)) hown hK hP 6 rfl rfl 11 (by decide) (hts _ (wM_c wd_289)) (fun _ h9 => h9) rfl dX5_sendOn_148 ?_
            refine lv_icmp_ne (tgt := 157) hx hb dX5_sendOn_151 (by decide) (fun c_26 => ?_) (fun c_26 => ?_)
            · skip
              have g_27 : r_24.toInt ≠ bk_day.toInt := i_ne c_26
              refine lv_aload_n hx hb dX5_sendOn_157 rfl (lv_at hl 1 rfl) ?_
              refine va_get (D := (dC, dI)) (ci := 5) (v := .ref ld_coming) (C := RX5) (T := TX5) (N := 6) hx hb hts (fun w h => wM_c (iX5 w h)) hown hK hP 1 rfl rfl 3 (by decide) (hts _ (wM_c wd_496)) (fun _ h9 => h9) rfl dX5_sendOn_158 ?_
              refine lv_iload hx hb dX5_sendOn_161 (lv_at hl 0 rfl) ?_
              refine lv_dup2_11 hx hb dX5_sendOn_163 rfl rfl ?_
              refine va_iald hx hb hK hP 4 4 rfl rfl (by first | with_reducible assumption | exact vp_in_iff.mpr (by omega)) dX5_sendOn_164 ?_
              refine lv_topi (fun v_28 ev_28 => ?_)
              refine lv_aload_n hx hb dX5_sendOn_165 rfl (lv_at hl 1 rfl) ?_
              refine va_get (D := (dC, dI)) (ci := 5) (v := .ref ld_gas) (C := RX5) (T := TX5) (N := 6) hx hb hts (fun w h => wM_c (iX5 w h)) hown hK hP 1 rfl rfl 0 (by decide) (hts _ (wM_c wd_489)) (fun _ h9 => h9) rfl dX5_sendOn_166 ?_
              refine lv_iload hx hb dX5_sendOn_169 (lv_at hl 4 rfl) ?_
              refine va_iald hx hb hK hP 3 3 rfl rfl (vp_in_nI (n := i2) (by omega) (by omega)) dX5_sendOn_171 ?_
              refine lv_topi (fun v_29 ev_29 => ?_)
              have nv_29 : v_29 = ga9_8 i2 := by rw [ev_29]; exact congrArg _ (nI_clamp (by omega))
              refine lv_iadd hx hb dX5_sendOn_172 ?_
              refine lv_topi (fun v_30 ev_30 => ?_)
              refine va_iast hx hb hK hP hD hS 4 4 rfl rfl (by first | with_reducible assumption | exact vp_in_iff.mpr (by omega)) dX5_sendOn_173 (fun H locs hP hD hS => ?_)
              obtain ⟨f_31, ef_31⟩ : ∃ f9, f9 = (upd co2 r_24.toNatClampNeg v_30) := ⟨_, rfl⟩
              obtain ⟨hP, hD⟩ : s3_w (dC, dI) classes A [(ld_waiting, .inl (k_ld_waiting, 10, .inl wa2)), (ld, .inr (5, [.ref ld_gas, .int ld_ringed, .ref bk, .ref ld_coming, .ref ld_waiting, .ref ld_rest])), (ai, .inl (k_ai, 14, .inl f_ai)), (ld_gas, .inl (k_ld_gas, 14, .inl ga9_8)), (ld_coming, .inl (k_ld_coming, 10, .inl f_31)), (ld_rest, .inl (k_ld_rest, 14, .inl re9_9)), (bk, .inr (0, [.int (nI bw), .ref bk_tail, .ref bk_head, .ref bk_hinder, .ref bk_size, .ref bk_walk, .ref bk_draught, .ref bk_doorIn, .ref bk_fanIn, .ref bk_faceIn, .int (nI bn), .int bk_day, .ref gr])), (bk_tail, .inl (k_bk_tail, 14, .inl f_bk_tail)), (bk_head, .inl (k_bk_head, 14, .inl f_bk_head))] H := ⟨(by rw [ef_31]; exact hP), (by rw [ef_31]; exact hD)⟩
              refine lv_aload_n hx hb dX5_sendOn_174 rfl (lv_at hl 1 rfl) ?_
              refine va_get (D := (dC, dI)) (ci := 5) (v := .ref ld_waiting) (C := RX5) (T := TX5) (N := 6) hx hb hts (fun w h => wM_c (iX5 w h)) hown hK hP 1 rfl rfl 4 (by decide) (hts _ (wM_c wd_497)) (fun _ h9 => h9) rfl dX5_sendOn_175 ?_
              refine lv_iload hx hb dX5_sendOn_178 (lv_at hl 0 rfl) ?_
              refine lv_dup2_11 hx hb dX5_sendOn_180 rfl rfl ?_
              refine va_iald hx hb hK hP 0 5 rfl rfl (by first | with_reducible assumption | exact vp_in_iff.mpr (by omega)) dX5_sendOn_181 ?_
              refine lv_topi (fun v_32 ev_32 => ?_)
              refine lv_iconst (v := 1) hx hb dX5_sendOn_182 (by decide) ?_
              refine lv_isub hx hb dX5_sendOn_183 ?_
              refine lv_topi (fun v_33 ev_33 => ?_)
              refine va_iast hx hb hK hP hD hS 0 5 rfl rfl (by first | with_reducible assumption | exact vp_in_iff.mpr (by omega)) dX5_sendOn_184 (fun H locs hP hD hS => ?_)
              obtain ⟨f_34, ef_34⟩ : ∃ f9, f9 = (upd wa2 r_24.toNatClampNeg v_33) := ⟨_, rfl⟩
              obtain ⟨hP, hD⟩ : s3_w (dC, dI) classes A [(ld_waiting, .inl (k_ld_waiting, 10, .inl f_34)), (ld, .inr (5, [.ref ld_gas, .int ld_ringed, .ref bk, .ref ld_coming, .ref ld_waiting, .ref ld_rest])), (ai, .inl (k_ai, 14, .inl f_ai)), (ld_gas, .inl (k_ld_gas, 14, .inl ga9_8)), (ld_coming, .inl (k_ld_coming, 10, .inl f_31)), (ld_rest, .inl (k_ld_rest, 14, .inl re9_9)), (bk, .inr (0, [.int (nI bw), .ref bk_tail, .ref bk_head, .ref bk_hinder, .ref bk_size, .ref bk_walk, .ref bk_draught, .ref bk_doorIn, .ref bk_fanIn, .ref bk_faceIn, .int (nI bn), .int bk_day, .ref gr])), (bk_tail, .inl (k_bk_tail, 14, .inl f_bk_tail)), (bk_head, .inl (k_bk_head, 14, .inl f_bk_head))] H := ⟨(by rw [ef_34]; exact hP), (by rw [ef_34]; exact hD)⟩
              refine lv_iinc (v := (nI (i2 + 1))) (lv' := [(4, .int (nI (i2 + 1))), (5, .int r_24), (0, .ref ld), (1, .int kn), (2, .ref ai)]) hx hb dX5_sendOn_185 hl (k := 4) rfl (nI_add _ 1) (by decide) rfl (fun ls hl => ?_)
              refine lv_goto (tgt := 88) hx hb dX5_sendOn_188 (by decide) ?_
              exact ih_10 (i2 + 1) f_31 f_34 _ _ _ ⟨(by first | with_reducible assumption | omega | exact vp_in_iff.mpr (by omega) | exact vp_in_nI (by omega) (by omega) | exact ⟨by omega, by omega⟩), hP.sub [7, 8, 0, 1, 6, 2, 3, 4, 5] rfl, hD.sub [7, 8, 0, 1, 6, 2, 3, 4, 5] (by decide) rfl, hS, lv_sub hl [2, 3, 4, 0] rfl⟩ (by omega)
            · skip
              have g_35 : r_24.toInt = bk_day.toInt := i_eq c_26
              refine lv_goto (tgt := 185) hx hb dX5_sendOn_154 (by decide) ?_
              refine lv_iinc (v := (nI (i2 + 1))) (lv' := [(4, .int (nI (i2 + 1))), (5, .int r_24), (0, .ref ld), (1, .int kn), (2, .ref ai)]) hx hb dX5_sendOn_185 hl (k := 4) rfl (nI_add _ 1) (by decide) rfl (fun ls hl => ?_)
              refine lv_goto (tgt := 88) hx hb dX5_sendOn_188 (by decide) ?_
              exact ih_10 (i2 + 1) co2 wa2 _ _ _ ⟨(by first | with_reducible assumption | omega | exact vp_in_iff.mpr (by omega) | exact vp_in_nI (by omega) (by omega) | exact ⟨by omega, by omega⟩), hP.sub [7, 8, 0, 1, 6, 2, 3, 4, 5] rfl, hD.sub [7, 8, 0, 1, 6, 2, 3, 4, 5] (by decide) rfl, hS, lv_sub hl [2, 3, 4, 0] rfl⟩ (by omega)
          · skip
            have g_36 : r_19.toInt ≠ kn.toInt := i_ne c_21
            refine lv_goto (tgt := 185) hx hb dX5_sendOn_124 (by decide) ?_
            refine lv_iinc (v := (nI (i2 + 1))) (lv' := [(4, .int (nI (i2 + 1))), (0, .ref ld), (1, .int kn), (2, .ref ai)]) hx hb dX5_sendOn_185 hl (k := 3) rfl (nI_add _ 1) (by decide) rfl (fun ls hl => ?_)
            refine lv_goto (tgt := 88) hx hb dX5_sendOn_188 (by decide) ?_
            exact ih_10 (i2 + 1) co2 wa2 _ _ _ ⟨(by first | with_reducible assumption | omega | exact vp_in_iff.mpr (by omega) | exact vp_in_nI (by omega) (by omega) | exact ⟨by omega, by omega⟩), hP.sub [7, 8, 0, 1, 6, 2, 3, 4, 5] rfl, hD.sub [7, 8, 0, 1, 6, 2, 3, 4, 5] (by decide) rfl, hS, lv_sub hl [1, 2, 3, 0] rfl⟩ (by omega)
    · skip
      have g_37 : ay.toInt = (0 : Int) := i_eq c_4
      have hK9 := hK.sub (tys' := [(k_bk_tail, .int), (k_bk_head, .int), (k_ai, .int), (k_ld_gas, .int), (k_ld_coming, .int), (k_ld_waiting, .int), (k_ld_rest, .int)]) [0, 1, 2, 3, 4, 5, 6] rfl
      exact W.vret hx hb hr (fun t ht hW => ⟨⟨(), rfl, trivial, f_ld_gas, f_ld_coming, f_ld_waiting, re1, by rw [ht]; exact hP.sub [0, 1, 2, 3, 4, 5, 6, 7, 8] rfl, va_K.moved hW.alike hK9, hD.sub [0, 1, 2, 3, 4, 5, 6, 7, 8] (by decide) rfl⟩, hS.F ht⟩) hS.2.2 dX5_sendOn_77
  · skip
    have g_38 := n_nge (a := i1) (b := bw) c_2 (by omega) (by omega)
    refine lv_aload_n hx hb dX5_sendOn_17 rfl (lv_at hl 0 rfl) ?_
    refine va_get (D := (dC, dI)) (ci := 5) (v := .ref ld_rest) (C := RX5) (T := TX5) (N := 6) hx hb hts (fun w h => wM_c (iX5 w h)) hown hK hP 0 rfl rfl 5 (by decide) (hts _ (wM_c wd_498)) (fun _ h9 => h9) rfl dX5_sendOn_18 ?_
    refine lv_iload hx hb dX5_sendOn_21 (lv_at hl 4 rfl) ?_
    refine lv_iconst (v := (-1)) hx hb dX5_sendOn_23 (by decide) ?_
    refine va_iast hx hb hK hP hD hS 8 6 rfl rfl (vp_in_nI (n := i1) (by omega) (by omega)) dX5_sendOn_24 (fun H locs hP hD hS => ?_)
    obtain ⟨f_39, ef_39⟩ : ∃ f9, f9 = (upd re1 (nI i1).toNatClampNeg (-1)) := ⟨_, rfl⟩
    obtain ⟨hP, hD⟩ : s3_w (dC, dI) classes A [(ld, .inr (5, [.ref ld_gas, .int ld_ringed, .ref bk, .ref ld_coming, .ref ld_waiting, .ref ld_rest])), (bk, .inr (0, [.int (nI bw), .ref bk_tail, .ref bk_head, .ref bk_hinder, .ref bk_size, .ref bk_walk, .ref bk_draught, .ref bk_doorIn, .ref bk_fanIn, .ref bk_faceIn, .int (nI bn), .int bk_day, .ref gr])), (bk_tail, .inl (k_bk_tail, 14, .inl f_bk_tail)), (bk_head, .inl (k_bk_head, 14, .inl f_bk_head)), (ai, .inl (k_ai, 14, .inl f_ai)), (ld_gas, .inl (k_ld_gas, 14, .inl f_ld_gas)), (ld_coming, .inl (k_ld_coming, 10, .inl f_ld_coming)), (ld_waiting, .inl (k_ld_waiting, 10, .inl f_ld_waiting)), (ld_rest, .inl (k_ld_rest, 14, .inl f_39))] H := ⟨(by rw [ef_39]; exact hP), (by rw [ef_39]; exact hD)⟩
    refine lv_aload_n hx hb dX5_sendOn_25 rfl (lv_at hl 2 rfl) ?_
    refine lv_iload hx hb dX5_sendOn_26 (lv_at hl 4 rfl) ?_
    refine va_iald hx hb hK hP 4 2 rfl rfl (vp_in_nI (n := i1) (by omega) (by omega)) dX5_sendOn_28 ?_
    refine lv_topi (fun v_40 ev_40 => ?_)
    have nv_40 : v_40 = f_ai i1 := by rw [ev_40]; exact congrArg _ (nI_clamp (by omega))
    refine lv_if_eq (tgt := 67) hx hb dX5_sendOn_29 (by decide) (fun c_41 => ?_) (fun c_41 => ?_)
    · skip
      have g_42 : v_40.toInt = (0 : Int) := i_eq c_41
      refine lv_iinc (v := (nI (i1 + 1))) (lv' := [(4, .int (nI (i1 + 1))), (0, .ref ld), (1, .int kn), (2, .ref ai), (3, .int ay)]) hx hb dX5_sendOn_67 hl (k := 4) rfl (nI_add _ 1) (by decide) rfl (fun ls hl => ?_)
      refine lv_goto (tgt := 5) hx hb dX5_sendOn_70 (by decide) ?_
      exact ih_1 ay (i1 + 1) f_39 _ _ _ ⟨(by first | with_reducible assumption | omega | exact vp_in_iff.mpr (by omega) | exact vp_in_nI (by omega) (by omega) | exact ⟨by omega, by omega⟩), hP.sub [0, 1, 2, 3, 4, 5, 6, 7, 8] rfl, hD.sub [0, 1, 2, 3, 4, 5, 6, 7, 8] (by decide) rfl, hS, lv_sub hl [1, 2, 3, 4, 0] rfl⟩ (by omega)
    · skip
      have g_43 : v_40.toInt ≠ (0 : Int) := i_ne c_41
      refine lv_aload_n hx hb dX5_sendOn_32 rfl (lv_at hl 0 rfl) ?_
      refine va_get (D := (dC, dI)) (ci := 5) (v := .ref bk) (C := RX5) (T := TX5) (N := 6) hx hb hts (fun w h => wM_c (iX5 w h)) hown hK hP 0 rfl rfl 2 (by decide) (hts _ (wM_c wd_495)) (fun _ h9 => h9) rfl dX5_sendOn_33 ?_
      refine lv_iload hx hb dX5_sendOn_36 (lv_at hl 4 rfl) ?_
      refine lv_aload_n hx hb dX5_sendOn_38 rfl (lv_at hl 2 rfl) ?_
      refine lv_iload hx hb dX5_sendOn_39 (lv_at hl 4 rfl) ?_
      refine va_iald hx hb hK hP 4 2 rfl rfl (vp_in_nI (n := i1) (by omega) (by omega)) dX5_sendOn_41 ?_
      refine lv_topi (fun v_44 ev_44 => ?_)
      have nv_44 : v_44 = f_ai i1 := by rw [ev_44]; exact congrArg _ (nI_clamp (by omega))
      obtain ⟨hPc, hDc, hFc⟩ := s3_c (ws' := [(bk, .inr (0, [.int (nI bw), .ref bk_tail, .ref bk_head, .ref bk_hinder, .ref bk_size, .ref bk_walk, .ref bk_draught, .ref bk_doorIn, .ref bk_fanIn, .ref bk_faceIn, .int (nI bn), .int bk_day, .ref gr])), (bk_tail, .inl (k_bk_tail, 14, .inl f_bk_tail)), (bk_head, .inl (k_bk_head, 14, .inl f_bk_head))]) [1, 2, 3] hP hD hS hA rfl (by decide)
      have hKc := hK.sub (tys' := [(k_bk_tail, .int), (k_bk_head, .int)]) [0, 1] rfl
      refine va_calli (va_runV (As := [.int (nI i1), .int v_44]) (rest := []) ⟨hx, hb, hml, hown, hts⟩ (c0_startOf l dC dI n0 atx H.size bk bw bk_tail bk_head bk_hinder bk_size bk_walk bk_draught bk_doorIn bk_fanIn bk_faceIn bn bk_day gr k_bk_tail f_bk_tail k_bk_head f_bk_head (nI i1) v_44 (by first | with_reducible assumption | omega | exact vp_in_iff.mpr (by omega) | exact vp_in_nI (by omega) (by omega) | exact ⟨by omega, by omega⟩) (by first | with_reducible assumption | omega | exact vp_in_iff.mpr (by omega) | exact vp_in_nI (by omega) (by omega) | exact ⟨by omega, by omega⟩) (by first | with_reducible assumption | omega | exact vp_in_iff.mpr (by omega) | exact vp_in_nI (by omega) (by omega) | exact ⟨by omega, by omega⟩) (by first | with_reducible assumption | omega | exact vp_in_iff.mpr (by omega) | exact vp_in_nI (by omega) (by omega) | exact ⟨by omega, by omega⟩) (by first | with_reducible assumption | omega | exact vp_in_iff.mpr (by omega) | exact vp_in_nI (by omega) (by omega) | exact ⟨by omega, by omega⟩) (by first | with_reducible assumption | omega | exact vp_in_iff.mpr (by omega) | exact vp_in_nI (by omega) (by omega) | exact ⟨by omega, by omega⟩)) (cwV 2 hts (gV (fun w h => wM_c h) wd_1120 wd_1117 wd_1118 wd_1119 wd_115) rfl rfl rfl (by decide +kernel) ⟨Nat.le_of_ble_eq_true rfl, Nat.le_of_ble_eq_true rfl⟩) ⟨fun a U g mk q => by obtain ⟨q0, q1, q2, qG, qP, qK, qD⟩ := q; exact ⟨q0, q1, q2, GW.blind qG, qP, va_K.moved (u := U) (U := U.calling g mk a) (Vm.Alike.refl U.vm) qK, qD⟩, va_recv hKc hPc (ci := 0) (q0 := 0) rfl rfl, fun U hU hW => ⟨rfl, by rw [hU], Nat.le_trans hn0 hS.1, GW.go hW hU hG (fun q hq hA9 => hS.2.1 q hq (fun h => hA9 (hA0 q h))), by rw [hU]; exact hPc, va_K.moved hW.alike hKc, hDc.weaken (fun _ _ _ h => hA0 _ h)⟩⟩ rfl rfl hl.1 rfl (lv_room (Nat.le_of_ble_eq_true rfl)) dX5_sendOn_42 ⟨Nat.le_of_ble_eq_true rfl, Nat.le_of_ble_eq_true rfl⟩) hS (fun q _ h => hFc q h) hFc (fun r_45 u t H1 locs ht hvm hw_46 hB hz1 hk1 hS => ?_)
      obtain ⟨hP1, hK1, hD1⟩ := hB
      rw [ht] at hP1
      obtain ⟨hP, hD⟩ := s3_j (L := [(ld, .inr (5, [.ref ld_gas, .int ld_ringed, .ref bk, .ref ld_coming, .ref ld_waiting, .ref ld_rest])), (ai, .inl (k_ai, 14, .inl f_ai)), (ld_gas, .inl (k_ld_gas, 14, .inl f_ld_gas)), (ld_coming, .inl (k_ld_coming, 10, .inl f_ld_coming)), (ld_waiting, .inl (k_ld_waiting, 10, .inl f_ld_waiting)), (ld_rest, .inl (k_ld_rest, 14, .inl f_39)), (bk, .inr (0, [.int (nI bw), .ref bk_tail, .ref bk_head, .ref bk_hinder, .ref bk_size, .ref bk_walk, .ref bk_draught, .ref bk_doorIn, .ref bk_fanIn, .ref bk_faceIn, .int (nI bn), .int bk_day, .ref gr])), (bk_tail, .inl (k_bk_tail, 14, .inl f_bk_tail)), (bk_head, .inl (k_bk_head, 14, .inl f_bk_head))]) 6 hP hD [1, 2, 3] [0, 4, 5, 6, 7, 8] hk1 hFc hP1 hD1 rfl rfl rfl (by decide) (by decide)
      generalize H1 = H at hP hS ⊢
      refine lv_iload_n hx hb dX5_sendOn_45 rfl (lv_at hl 1 rfl) ?_
      refine lv_icmp_ne (tgt := 67) hx hb dX5_sendOn_46 (by decide) (fun c_47 => ?_) (fun c_47 => ?_)
      · skip
        have g_48 : r_45.toInt ≠ kn.toInt := i_ne c_47
        refine lv_iinc (v := (nI (i1 + 1))) (lv' := [(4, .int (nI (i1 + 1))), (0, .ref ld), (1, .int kn), (2, .ref ai), (3, .int ay)]) hx hb dX5_sendOn_67 hl (k := 4) rfl (nI_add _ 1) (by decide) rfl (fun ls hl => ?_)
        refine lv_goto (tgt := 5) hx hb dX5_sendOn_70 (by decide) ?_
        exact ih_1 ay (i1 + 1) f_39 _ _ _ ⟨(by first | with_reducible assumption | omega | exact vp_in_iff.mpr (by omega) | exact vp_in_nI (by omega) (by omega) | exact ⟨by omega, by omega⟩), hP.sub [0, 6, 7, 8, 1, 2, 3, 4, 5] rfl, hD.sub [0, 6, 7, 8, 1, 2, 3, 4, 5] (by decide) rfl, hS, lv_sub hl [1, 2, 3, 4, 0] rfl⟩ (by omega)
      · skip
        have g_49 : r_45.toInt = kn.toInt := i_eq c_47
        refine lv_aload_n hx hb dX5_sendOn_49 rfl (lv_at hl 0 rfl) ?_
        refine va_get (D := (dC, dI)) (ci := 5) (v := .ref ld_rest) (C := RX5) (T := TX5) (N := 6) hx hb hts (fun w h => wM_c (iX5 w h)) hown hK hP 0 rfl rfl 5 (by decide) (hts _ (wM_c wd_498)) (fun _ h9 => h9) rfl dX5_sendOn_50 ?_
        refine lv_iload hx hb dX5_sendOn_53 (lv_at hl 4 rfl) ?_
        refine lv_iconst (v := 0) hx hb dX5_sendOn_55 (by decide) ?_
        refine va_iast hx hb hK hP hD hS 5 6 rfl rfl (vp_in_nI (n := i1) (by omega) (by omega)) dX5_sendOn_56 (fun H locs hP hD hS => ?_)
        obtain ⟨f_50, ef_50⟩ : ∃ f9, f9 = (upd f_39 (nI i1).toNatClampNeg 0) := ⟨_, rfl⟩
        obtain ⟨hP, hD⟩ : s3_w (dC, dI) classes A [(ld, .inr (5, [.ref ld_gas, .int ld_ringed, .ref bk, .ref ld_coming, .ref ld_waiting, .ref ld_rest])), (ai, .inl (k_ai, 14, .inl f_ai)), (ld_gas, .inl (k_ld_gas, 14, .inl f_ld_gas)), (ld_coming, .inl (k_ld_coming, 10, .inl f_ld_coming)), (ld_waiting, .inl (k_ld_waiting, 10, .inl f_ld_waiting)), (ld_rest, .inl (k_ld_rest, 14, .inl f_50)), (bk, .inr (0, [.int (nI bw), .ref bk_tail, .ref bk_head, .ref bk_hinder, .ref bk_size, .ref bk_walk, .ref bk_draught, .ref bk_doorIn, .ref bk_fanIn, .ref bk_faceIn, .int (nI bn), .int bk_day, .ref gr])), (bk_tail, .inl (k_bk_tail, 14, .inl f_bk_tail)), (bk_head, .inl (k_bk_head, 14, .inl f_bk_head))] H := ⟨(by rw [ef_50]; exact hP), (by rw [ef_50]; exact hD)⟩
        refine lv_iload_n hx hb dX5_sendOn_57 rfl (lv_at hl 3 rfl) ?_
        refine lv_aload_n hx hb dX5_sendOn_58 rfl (lv_at hl 2 rfl) ?_
        refine lv_iload hx hb dX5_sendOn_59 (lv_at hl 4 rfl) ?_
        refine va_iald hx hb hK hP 1 2 rfl rfl (vp_in_nI (n := i1) (by omega) (by omega)) dX5_sendOn_61 ?_
        refine lv_topi (fun v_51 ev_51 => ?_)
        have nv_51 : v_51 = f_ai i1 := by rw [ev_51]; exact congrArg _ (nI_clamp (by omega))
        refine va_mabs hx hb (by rw [hml]; exact hl.1.symm) hown (hts _ (wM_c wd_1121)) (hts _ (wM_c wd_1122)) (hts _ (wM_c wd_138)) (hts _ (wM_c wd_math_abs)) (Nat.le_of_ble_eq_true rfl) (Nat.le_of_ble_eq_true rfl) (Nat.le_of_ble_eq_true rfl) (Nat.le_of_ble_eq_true rfl) dX5_sendOn_62 ?_
        refine lv_topi (fun v_52 ev_52 => ?_)
        refine lv_iadd hx hb dX5_sendOn_65 ?_
        refine lv_topi (fun v_53 ev_53 => ?_)
        refine lv_istore_n (lv' := [(3, .int v_53), (0, .ref ld), (1, .int kn), (2, .ref ai), (4, .int (nI i1))]) hx hb dX5_sendOn_66 rfl hl (by decide) rfl (fun ls hl => ?_)
        refine lv_iinc (v := (nI (i1 + 1))) (lv' := [(4, .int (nI (i1 + 1))), (3, .int v_53), (0, .ref ld), (1, .int kn), (2, .ref ai)]) hx hb dX5_sendOn_67 hl (k := 4) rfl (nI_add _ 1) (by decide) rfl (fun ls hl => ?_)
        refine lv_goto (tgt := 5) hx hb dX5_sendOn_70 (by decide) ?_
        exact ih_1 v_53 (i1 + 1) f_50 _ _ _ ⟨(by first | with_reducible assumption | omega | exact vp_in_iff.mpr (by omega) | exact vp_in_nI (by omega) (by omega) | exact ⟨by omega, by omega⟩), hP.sub [0, 6, 7, 8, 1, 2, 3, 4, 5] rfl, hD.sub [0, 6, 7, 8, 1, 2, 3, 4, 5] (by decide) rfl, hS, lv_sub hl [2, 3, 4, 1, 0] rfl⟩ (by omega)
set_option maxHeartbeats 4000000 in
set_option maxRecDepth 100000 in
theorem c5_carry (l : Launch) (dC : Nat → ClassId) (dI : Nat → Nat → Nat) (n0 : Nat) (atx : Nat → Nat × Nat) (sz : Nat) (ld : Nat) (ld_gas : Nat) (ld_ringed : Int32) (bk : Nat) (ld_coming : Nat) (ld_waiting : Nat) (ld_rest : Nat) (bw : Nat) (bk_tail : Nat) (bk_head : Nat) (bk_hinder : Nat) (bk_size : Nat) (bk_walk : Nat) (bk_draught : Nat) (bk_doorIn : Nat) (bk_fanIn : Nat) (bk_faceIn : Nat) (bn : Nat) (bk_day : Int32) (gr : Nat) (gd : Nat) (gr_doorBy : Nat) (gp : Nat) (gr_pairFirst : Nat) (gr_pairSecond : Nat) (gf : Nat) (gr_fanPush : Nat) (gr_fanFall : Nat) (gr_fanCost : Nat) (ge : Nat) (gr_faceWay : Nat) (gr_faceGas : Nat) (gr_faceNeed : Nat) (k_bk_tail : ClassId) (f_bk_tail : Nat → Int32) (k_bk_head : ClassId) (f_bk_head : Nat → Int32) (k_bk_faceIn : ClassId) (f_bk_faceIn : Nat → Int32) (k_gr_faceGas : ClassId) (f_gr_faceGas : Nat → Int32) (ai : Nat) (k_ai : ClassId) (f_ai : Nat → Int32) (k_ld_gas : ClassId) (f_ld_gas : Nat → Int32) (k_ld_coming : ClassId) (f_ld_coming : Nat → Int32) (k_ld_waiting : ClassId) (f_ld_waiting : Nat → Int32) (k_ld_rest : ClassId) (f_ld_rest : Nat → Int32) (hbw : bw ≤ 14) (hbn : bn ≤ 10) (hgd : gd ≤ 6) (hgp : gp ≤ 3) (hgf : gf ≤ 4) (hge : ge ≤ 4) (q_day : -1 ≤ bk_day.toInt ∧ bk_day.toInt < 10) (q_tail : rg f_bk_tail 14 0 10) (q_head : rg f_bk_head 14 0 10) (q_faceIn : rg f_bk_faceIn 14 (-1) 4) : Met l yX5_carry (wM yX5_carry cX5_carry 5 none) ({ frames := 3, cells := 0, slots := 0, locals := 74 }) (va_Pc [.ref ld, .ref ai] (fun U => U.heap.size = sz ∧ n0 ≤ sz ∧ GW n0 atx U ∧ va_P (dC, dI) classes [(ld, .inr (5, [.ref ld_gas, .int ld_ringed, .ref bk, .ref ld_coming, .ref ld_waiting, .ref ld_rest])), (bk, .inr (0, [.int (nI bw), .ref bk_tail, .ref bk_head, .ref bk_hinder, .ref bk_size, .ref bk_walk, .ref bk_draught, .ref bk_doorIn, .ref bk_fanIn, .ref bk_faceIn, .int (nI bn), .int bk_day, .ref gr])), (gr, .inr (3, [.int (nI gd), .ref gr_doorBy, .int (nI gp), .ref gr_pairFirst, .ref gr_pairSecond, .int (nI gf), .ref gr_fanPush, .ref gr_fanFall, .ref gr_fanCost, .int (nI ge), .ref gr_faceWay, .ref gr_faceGas, .ref gr_faceNeed])), (bk_tail, .inl (k_bk_tail, 14, .inl f_bk_tail)), (bk_head, .inl (k_bk_head, 14, .inl f_bk_head)), (bk_faceIn, .inl (k_bk_faceIn, 14, .inl f_bk_faceIn)), (gr_faceGas, .inl (k_gr_faceGas, 4, .inl f_gr_faceGas)), (ai, .inl (k_ai, 14, .inl f_ai)), (ld_gas, .inl (k_ld_gas, 14, .inl f_ld_gas)), (ld_coming, .inl (k_ld_coming, 10, .inl f_ld_coming)), (ld_waiting, .inl (k_ld_waiting, 10, .inl f_ld_waiting)), (ld_rest, .inl (k_ld_rest, 14, .inl f_ld_rest))] U.heap ∧ va_K (dC, dI) classes [(k_bk_tail, .int), (k_bk_head, .int), (k_bk_faceIn, .int), (k_gr_faceGas, .int), (k_ai, .int), (k_ld_gas, .int), (k_ld_coming, .int), (k_ld_waiting, .int), (k_ld_rest, .int)] U ∧ va_D (fun q => n0 ≤ q) [(ld, .inr (5, [.ref ld_gas, .int ld_ringed, .ref bk, .ref ld_coming, .ref ld_waiting, .ref ld_rest])), (bk, .inr (0, [.int (nI bw), .ref bk_tail, .ref bk_head, .ref bk_hinder, .ref bk_size, .ref bk_walk, .ref bk_draught, .ref bk_doorIn, .ref bk_fanIn, .ref bk_faceIn, .int (nI bn), .int bk_day, .ref gr])), (gr, .inr (3, [.int (nI gd), .ref gr_doorBy, .int (nI gp), .ref gr_pairFirst, .ref gr_pairSecond, .int (nI gf), .ref gr_fanPush, .ref gr_fanFall, .ref gr_fanCost, .int (nI ge), .ref gr_faceWay, .ref gr_faceGas, .ref gr_faceNeed])), (bk_tail, .inl (k_bk_tail, 14, .inl f_bk_tail)), (bk_head, .inl (k_bk_head, 14, .inl f_bk_head)), (bk_faceIn, .inl (k_bk_faceIn, 14, .inl f_bk_faceIn)), (gr_faceGas, .inl (k_gr_faceGas, 4, .inl f_gr_faceGas)), (ai, .inl (k_ai, 14, .inl f_ai)), (ld_gas, .inl (k_ld_gas, 14, .inl f_ld_gas)), (ld_coming, .inl (k_ld_coming, 10, .inl f_ld_coming)), (ld_waiting, .inl (k_ld_waiting, 10, .inl f_ld_waiting)), (ld_rest, .inl (k_ld_rest, 14, .inl f_ld_rest))])) (va_Qv (fun _ : Unit => True) (fun (_ : Unit) (t : State) => ∃ (rg9 : Int32), ∃ (ga9 : Nat → Int32), ∃ (co9 : Nat → Int32), ∃ (wa9 : Nat → Int32), ∃ (re9 : Nat → Int32), va_P (dC, dI) classes [(ld, .inr (5, [.ref ld_gas, .int rg9, .ref bk, .ref ld_coming, .ref ld_waiting, .ref ld_rest])), (bk, .inr (0, [.int (nI bw), .ref bk_tail, .ref bk_head, .ref bk_hinder, .ref bk_size, .ref bk_walk, .ref bk_draught, .ref bk_doorIn, .ref bk_fanIn, .ref bk_faceIn, .int (nI bn), .int bk_day, .ref gr])), (gr, .inr (3, [.int (nI gd), .ref gr_doorBy, .int (nI gp), .ref gr_pairFirst, .ref gr_pairSecond, .int (nI gf), .ref gr_fanPush, .ref gr_fanFall, .ref gr_fanCost, .int (nI ge), .ref gr_faceWay, .ref gr_faceGas, .ref gr_faceNeed])), (bk_tail, .inl (k_bk_tail, 14, .inl f_bk_tail)), (bk_head, .inl (k_bk_head, 14, .inl f_bk_head)), (bk_faceIn, .inl (k_bk_faceIn, 14, .inl f_bk_faceIn)), (gr_faceGas, .inl (k_gr_faceGas, 4, .inl f_gr_faceGas)), (ai, .inl (k_ai, 14, .inl f_ai)), (ld_gas, .inl (k_ld_gas, 14, .inl ga9)), (ld_coming, .inl (k_ld_coming, 10, .inl co9)), (ld_waiting, .inl (k_ld_waiting, 10, .inl wa9)), (ld_rest, .inl (k_ld_rest, 14, .inl re9))] t.heap ∧ va_K (dC, dI) classes [(k_bk_tail, .int), (k_bk_head, .int), (k_bk_faceIn, .int), (k_gr_faceGas, .int), (k_ai, .int), (k_ld_gas, .int), (k_ld_coming, .int), (k_ld_waiting, .int), (k_ld_rest, .int)] t ∧ va_D (va_A [(ld, .inr (5, [.ref ld_gas, .int ld_ringed, .ref bk, .ref ld_coming, .ref ld_waiting, .ref ld_rest])), (bk, .inr (0, [.int (nI bw), .ref bk_tail, .ref bk_head, .ref bk_hinder, .ref bk_size, .ref bk_walk, .ref bk_draught, .ref bk_doorIn, .ref bk_fanIn, .ref bk_faceIn, .int (nI bn), .int bk_day, .ref gr])), (gr, .inr (3, [.int (nI gd), .ref gr_doorBy, .int (nI gp), .ref gr_pairFirst, .ref gr_pairSecond, .int (nI gf), .ref gr_fanPush, .ref gr_fanFall, .ref gr_fanCost, .int (nI ge), .ref gr_faceWay, .ref gr_faceGas, .ref gr_faceNeed])), (bk_tail, .inl (k_bk_tail, 14, .inl f_bk_tail)), (bk_head, .inl (k_bk_head, 14, .inl f_bk_head)), (bk_faceIn, .inl (k_bk_faceIn, 14, .inl f_bk_faceIn)), (gr_faceGas, .inl (k_gr_faceGas, 4, .inl f_gr_faceGas)), (ai, .inl (k_ai, 14, .inl f_ai)), (ld_gas, .inl (k_ld_gas, 14, .inl f_ld_gas)), (ld_coming, .inl (k_ld_coming, 10, .inl f_ld_coming)), (ld_waiting, .inl (k_ld_waiting, 10, .inl f_ld_waiting)), (ld_rest, .inl (k_ld_rest, 14, .inl f_ld_rest))] sz) [(ld, .inr (5, [.ref ld_gas, .int rg9, .ref bk, .ref ld_coming, .ref ld_waiting, .ref ld_rest])), (bk, .inr (0, [.int (nI bw), .ref bk_tail, .ref bk_head, .ref bk_hinder, .ref bk_size, .ref bk_walk, .ref bk_draught, .ref bk_doorIn, .ref bk_fanIn, .ref bk_faceIn, .int (nI bn), .int bk_day, .ref gr])), (gr, .inr (3, [.int (nI gd), .ref gr_doorBy, .int (nI gp), .ref gr_pairFirst, .ref gr_pairSecond, .int (nI gf), .ref gr_fanPush, .ref gr_fanFall, .ref gr_fanCost, .int (nI ge), .ref gr_faceWay, .ref gr_faceGas, .ref gr_faceNeed])), (bk_tail, .inl (k_bk_tail, 14, .inl f_bk_tail)), (bk_head, .inl (k_bk_head, 14, .inl f_bk_head)), (bk_faceIn, .inl (k_bk_faceIn, 14, .inl f_bk_faceIn)), (gr_faceGas, .inl (k_gr_faceGas, 4, .inl f_gr_faceGas)), (ai, .inl (k_ai, 14, .inl f_ai)), (ld_gas, .inl (k_ld_gas, 14, .inl ga9)), (ld_coming, .inl (k_ld_coming, 10, .inl co9)), (ld_waiting, .inl (k_ld_waiting, 10, .inl wa9)), (ld_rest, .inl (k_ld_rest, 14, .inl re9))]) (va_A [(ld, .inr (5, [.ref ld_gas, .int ld_ringed, .ref bk, .ref ld_coming, .ref ld_waiting, .ref ld_rest])), (bk, .inr (0, [.int (nI bw), .ref bk_tail, .ref bk_head, .ref bk_hinder, .ref bk_size, .ref bk_walk, .ref bk_draught, .ref bk_doorIn, .ref bk_fanIn, .ref bk_faceIn, .int (nI bn), .int bk_day, .ref gr])), (gr, .inr (3, [.int (nI gd), .ref gr_doorBy, .int (nI gp), .ref gr_pairFirst, .ref gr_pairSecond, .int (nI gf), .ref gr_fanPush, .ref gr_fanFall, .ref gr_fanCost, .int (nI ge), .ref gr_faceWay, .ref gr_faceGas, .ref gr_faceNeed])), (bk_tail, .inl (k_bk_tail, 14, .inl f_bk_tail)), (bk_head, .inl (k_bk_head, 14, .inl f_bk_head)), (bk_faceIn, .inl (k_bk_faceIn, 14, .inl f_bk_faceIn)), (gr_faceGas, .inl (k_gr_faceGas, 4, .inl f_gr_faceGas)), (ai, .inl (k_ai, 14, .inl f_ai)), (ld_gas, .inl (k_ld_gas, 14, .inl f_ld_gas)), (ld_coming, .inl (k_ld_coming, 10, .inl f_ld_coming)), (ld_waiting, .inl (k_ld_waiting, 10, .inl f_ld_waiting)), (ld_rest, .inl (k_ld_rest, 14, .inl f_ld_rest))] sz)) 0 0 (va_A [(ld, .inr (5, [.ref ld_gas, .int ld_ringed, .ref bk, .ref ld_coming, .ref ld_waiting, .ref ld_rest])), (bk, .inr (0, [.int (nI bw), .ref bk_tail, .ref bk_head, .ref bk_hinder, .ref bk_size, .ref bk_walk, .ref bk_draught, .ref bk_doorIn, .ref bk_fanIn, .ref bk_faceIn, .int (nI bn), .int bk_day, .ref gr])), (gr, .inr (3, [.int (nI gd), .ref gr_doorBy, .int (nI gp), .ref gr_pairFirst, .ref gr_pairSecond, .int (nI gf), .ref gr_fanPush, .ref gr_fanFall, .ref gr_fanCost, .int (nI ge), .ref gr_faceWay, .ref gr_faceGas, .ref gr_faceNeed])), (bk_tail, .inl (k_bk_tail, 14, .inl f_bk_tail)), (bk_head, .inl (k_bk_head, 14, .inl f_bk_head)), (bk_faceIn, .inl (k_bk_faceIn, 14, .inl f_bk_faceIn)), (gr_faceGas, .inl (k_gr_faceGas, 4, .inl f_gr_faceGas)), (ai, .inl (k_ai, 14, .inl f_ai)), (ld_gas, .inl (k_ld_gas, 14, .inl f_ld_gas)), (ld_coming, .inl (k_ld_coming, 10, .inl f_ld_coming)), (ld_waiting, .inl (k_ld_waiting, 10, .inl f_ld_waiting)), (ld_rest, .inl (k_ld_rest, 14, .inl f_ld_rest))] sz) := by
  refine Met.ofW (cc := cX5_carry) (maxL := 5) (ret := none) (by decide) rfl ?_
  intro p e s m args below meth c s₁ B hml hv
  obtain ⟨rfl, hsz, hn0, hG, hP, hK, hD0⟩ := hv
  have hx := B.exec
  have hb := B.bytes
  have hr := B.returns
  have hts := atoms_spec (ws := wM yX5_carry cX5_carry 5 none) B.pre
  have hown : s.vm.findClass RX5 = some m.cls := findClass_of_methodNamed B.named
  have hlocks := B.notSynchronized
  subst hsz
  have hD := hD0.self (sz := s.heap.size)
  have hA0 := vA_n0 hD0 hn0
  generalize hAe : va_A [(ld, .inr (5, [.ref ld_gas, .int ld_ringed, .ref bk, .ref ld_coming, .ref ld_waiting, .ref ld_rest])), (bk, .inr (0, [.int (nI bw), .ref bk_tail, .ref bk_head, .ref bk_hinder, .ref bk_size, .ref bk_walk, .ref bk_draught, .ref bk_doorIn, .ref bk_fanIn, .ref bk_faceIn, .int (nI bn), .int bk_day, .ref gr])), (gr, .inr (3, [.int (nI gd), .ref gr_doorBy, .int (nI gp), .ref gr_pairFirst, .ref gr_pairSecond, .int (nI gf), .ref gr_fanPush, .ref gr_fanFall, .ref gr_fanCost, .int (nI ge), .ref gr_faceWay, .ref gr_faceGas, .ref gr_faceNeed])), (bk_tail, .inl (k_bk_tail, 14, .inl f_bk_tail)), (bk_head, .inl (k_bk_head, 14, .inl f_bk_head)), (bk_faceIn, .inl (k_bk_faceIn, 14, .inl f_bk_faceIn)), (gr_faceGas, .inl (k_gr_faceGas, 4, .inl f_gr_faceGas)), (ai, .inl (k_ai, 14, .inl f_ai)), (ld_gas, .inl (k_ld_gas, 14, .inl f_ld_gas)), (ld_coming, .inl (k_ld_coming, 10, .inl f_ld_coming)), (ld_waiting, .inl (k_ld_waiting, 10, .inl f_ld_waiting)), (ld_rest, .inl (k_ld_rest, 14, .inl f_ld_rest))] s.heap.size = A at hD hA0 ⊢
  have hA : ∀ q : Nat, s.heap.size ≤ q → A q := fun q h => by rw [← hAe]; exact Or.inr h
  have hS : va_S A s.heap s.heap [] := va_S.rf
  have hl := lv_entry ([.ref ld, .ref ai]) (n := 5) (Nat.le_of_ble_eq_true rfl)
  rw [lg_entry_eq]
  generalize (lg_sl ([.ref ld, .ref ai]) ++ List.replicate (5 - (lg_sl ([.ref ld, .ref ai])).length) Slot.unset).toArray = ls at hl ⊢
  have hl : lv_has ls 5 [(0, .ref ld), (1, .ref ai)] := hl
  refine lv_aload_n hx hb dX5_carry_0 rfl (lv_at hl 0 rfl) ?_
  refine lv_aload_n hx hb dX5_carry_1 rfl (lv_at hl 1 rfl) ?_
  obtain ⟨hPc, hDc, hFc⟩ := s3_c (ws' := [(ld, .inr (5, [.ref ld_gas, .int ld_ringed, .ref bk, .ref ld_coming, .ref ld_waiting, .ref ld_rest])), (bk, .inr (0, [.int (nI bw), .ref bk_tail, .ref bk_head, .ref bk_hinder, .ref bk_size, .ref bk_walk, .ref bk_draught, .ref bk_doorIn, .ref bk_fanIn, .ref bk_faceIn, .int (nI bn), .int bk_day, .ref gr])), (gr, .inr (3, [.int (nI gd), .ref gr_doorBy, .int (nI gp), .ref gr_pairFirst, .ref gr_pairSecond, .int (nI gf), .ref gr_fanPush, .ref gr_fanFall, .ref gr_fanCost, .int (nI ge), .ref gr_faceWay, .ref gr_faceGas, .ref gr_faceNeed])), (bk_tail, .inl (k_bk_tail, 14, .inl f_bk_tail)), (bk_head, .inl (k_bk_head, 14, .inl f_bk_head)), (bk_faceIn, .inl (k_bk_faceIn, 14, .inl f_bk_faceIn)), (gr_faceGas, .inl (k_gr_faceGas, 4, .inl f_gr_faceGas)), (ai, .inl (k_ai, 14, .inl f_ai)), (ld_gas, .inl (k_ld_gas, 14, .inl f_ld_gas)), (ld_coming, .inl (k_ld_coming, 10, .inl f_ld_coming)), (ld_waiting, .inl (k_ld_waiting, 10, .inl f_ld_waiting))]) [0, 1, 2, 3, 4, 5, 6, 7, 8, 9, 10] hP hD hS hA rfl (by decide)
  have hKc := hK.sub (tys' := [(k_bk_tail, .int), (k_bk_head, .int), (k_bk_faceIn, .int), (k_gr_faceGas, .int), (k_ai, .int), (k_ld_gas, .int), (k_ld_coming, .int), (k_ld_waiting, .int)]) [0, 1, 2, 3, 4, 5, 6, 7] rfl
  refine va_callv (va_runV (As := [.ref ai]) (rest := []) ⟨hx, hb, hml, hown, hts⟩ (c5_countArrivals l dC dI n0 atx s.heap.size ld ld_gas ld_ringed bk ld_coming ld_waiting ld_rest bw bk_tail bk_head bk_hinder bk_size bk_walk bk_draught bk_doorIn bk_fanIn bk_faceIn bn bk_day gr gd gr_doorBy gp gr_pairFirst gr_pairSecond gf gr_fanPush gr_fanFall gr_fanCost ge gr_faceWay gr_faceGas gr_faceNeed k_bk_tail f_bk_tail k_bk_head f_bk_head k_bk_faceIn f_bk_faceIn k_gr_faceGas f_gr_faceGas ai k_ai f_ai k_ld_gas f_ld_gas k_ld_coming f_ld_coming k_ld_waiting f_ld_waiting (by first | with_reducible assumption | omega | exact vp_in_iff.mpr (by omega) | exact vp_in_nI (by omega) (by omega) | exact ⟨by omega, by omega⟩) (by first | with_reducible assumption | omega | exact vp_in_iff.mpr (by omega) | exact vp_in_nI (by omega) (by omega) | exact ⟨by omega, by omega⟩) (by first | with_reducible assumption | omega | exact vp_in_iff.mpr (by omega) | exact vp_in_nI (by omega) (by omega) | exact ⟨by omega, by omega⟩) (by first | with_reducible assumption | omega | exact vp_in_iff.mpr (by omega) | exact vp_in_nI (by omega) (by omega) | exact ⟨by omega, by omega⟩) (by first | with_reducible assumption | omega | exact vp_in_iff.mpr (by omega) | exact vp_in_nI (by omega) (by omega) | exact ⟨by omega, by omega⟩) (by first | with_reducible assumption | omega | exact vp_in_iff.mpr (by omega) | exact vp_in_nI (by omega) (by omega) | exact ⟨by omega, by omega⟩) (by first | with_reducible assumption | omega | exact vp_in_iff.mpr (by omega) | exact vp_in_nI (by omega) (by omega) | exact ⟨by omega, by omega⟩) (by first | with_reducible assumption | omega | exact vp_in_iff.mpr (by omega) | exact vp_in_nI (by omega) (by omega) | exact ⟨by omega, by omega⟩) (by first | with_reducible assumption | omega | exact vp_in_iff.mpr (by omega) | exact vp_in_nI (by omega) (by omega) | exact ⟨by omega, by omega⟩) (by first | with_reducible assumption | omega | exact vp_in_iff.mpr (by omega) | exact vp_in_nI (by omega) (by omega) | exact ⟨by omega, by omega⟩)) (cwV 1 hts (gV (fun w h => wM_c h) wd_1103 wd_1100 wd_1102 wd_40 wd_121) rfl rfl rfl (by decide +kernel) ⟨Nat.le_of_ble_eq_true rfl, Nat.le_of_ble_eq_true rfl⟩) ⟨fun a U g mk q => by obtain ⟨q0, q1, q2, qG, qP, qK, qD⟩ := q; exact ⟨q0, q1, q2, GW.blind qG, qP, va_K.moved (u := U) (U := U.calling g mk a) (Vm.Alike.refl U.vm) qK, qD⟩, va_recv hKc hPc (ci := 5) (q0 := 0) rfl rfl, fun U hU hW => ⟨rfl, by rw [hU], Nat.le_trans hn0 hS.1, GW.go hW hU hG (fun q hq hA9 => hS.2.1 q hq (fun h => hA9 (hA0 q h))), by rw [hU]; exact hPc, va_K.moved hW.alike hKc, hDc.weaken (fun _ _ _ h => hA0 _ h)⟩⟩ rfl rfl hl.1 rfl (lv_room (Nat.le_of_ble_eq_true rfl)) dX5_carry_2 ⟨Nat.le_of_ble_eq_true rfl, Nat.le_of_ble_eq_true rfl⟩) hS (fun q _ h => hFc q h) hFc (fun u t H1 locs ht hvm hw_2 hB hz1 hk1 hS => ?_)
  obtain ⟨ga9_3, co9_4, wa9_5, hP1, hK1, hD1⟩ := hB
  rw [ht] at hP1
  obtain ⟨hP, hD⟩ := s3_j (L := [(ld_rest, .inl (k_ld_rest, 14, .inl f_ld_rest)), (ld, .inr (5, [.ref ld_gas, .int ld_ringed, .ref bk, .ref ld_coming, .ref ld_waiting, .ref ld_rest])), (bk, .inr (0, [.int (nI bw), .ref bk_tail, .ref bk_head, .ref bk_hinder, .ref bk_size, .ref bk_walk, .ref bk_draught, .ref bk_doorIn, .ref bk_fanIn, .ref bk_faceIn, .int (nI bn), .int bk_day, .ref gr])), (gr, .inr (3, [.int (nI gd), .ref gr_doorBy, .int (nI gp), .ref gr_pairFirst, .ref gr_pairSecond, .int (nI gf), .ref gr_fanPush, .ref gr_fanFall, .ref gr_fanCost, .int (nI ge), .ref gr_faceWay, .ref gr_faceGas, .ref gr_faceNeed])), (bk_tail, .inl (k_bk_tail, 14, .inl f_bk_tail)), (bk_head, .inl (k_bk_head, 14, .inl f_bk_head)), (bk_faceIn, .inl (k_bk_faceIn, 14, .inl f_bk_faceIn)), (gr_faceGas, .inl (k_gr_faceGas, 4, .inl f_gr_faceGas)), (ai, .inl (k_ai, 14, .inl f_ai)), (ld_gas, .inl (k_ld_gas, 14, .inl ga9_3)), (ld_coming, .inl (k_ld_coming, 10, .inl co9_4)), (ld_waiting, .inl (k_ld_waiting, 10, .inl wa9_5))]) 1 hP hD [0, 1, 2, 3, 4, 5, 6, 7, 8, 9, 10] [11] hk1 hFc hP1 hD1 rfl rfl rfl (by decide) (by decide)
  generalize H1 = H at hP hS ⊢
  refine lv_iconst (v := 1) hx hb dX5_carry_5 (by decide) ?_
  refine lv_istore_n (lv' := [(2, .int 1), (0, .ref ld), (1, .ref ai)]) hx hb dX5_carry_6 rfl hl (by decide) rfl (fun ls hl => ?_)
  refine lv_iconst (v := 0) hx hb dX5_carry_7 (by decide) ?_
  refine lv_istore_n (lv' := [(3, .int 0), (2, .int 1), (0, .ref ld), (1, .ref ai)]) hx hb dX5_carry_8 rfl hl (by decide) rfl (fun ls hl => ?_)
  refine W_lp6 (I := fun (go1 : Int32) (i1 : Nat) (ga1 : Nat → Int32) (co1 : Nat → Int32) (wa1 : Nat → Int32) (re1 : Nat → Int32) H locs ls => (i1 ≤ bn + 1) ∧ va_P (dC, dI) classes [(ld_rest, .inl (k_ld_rest, 14, .inl re1)), (ld, .inr (5, [.ref ld_gas, .int ld_ringed, .ref bk, .ref ld_coming, .ref ld_waiting, .ref ld_rest])), (bk, .inr (0, [.int (nI bw), .ref bk_tail, .ref bk_head, .ref bk_hinder, .ref bk_size, .ref bk_walk, .ref bk_draught, .ref bk_doorIn, .ref bk_fanIn, .ref bk_faceIn, .int (nI bn), .int bk_day, .ref gr])), (gr, .inr (3, [.int (nI gd), .ref gr_doorBy, .int (nI gp), .ref gr_pairFirst, .ref gr_pairSecond, .int (nI gf), .ref gr_fanPush, .ref gr_fanFall, .ref gr_fanCost, .int (nI ge), .ref gr_faceWay, .ref gr_faceGas, .ref gr_faceNeed])), (bk_tail, .inl (k_bk_tail, 14, .inl f_bk_tail)), (bk_head, .inl (k_bk_head, 14, .inl f_bk_head)), (bk_faceIn, .inl (k_bk_faceIn, 14, .inl f_bk_faceIn)), (gr_faceGas, .inl (k_gr_faceGas, 4, .inl f_gr_faceGas)), (ai, .inl (k_ai, 14, .inl f_ai)), (ld_gas, .inl (k_ld_gas, 14, .inl ga1)), (ld_coming, .inl (k_ld_coming, 10, .inl co1)), (ld_waiting, .inl (k_ld_waiting, 10, .inl wa1))] H ∧ va_D A [(ld_rest, .inl (k_ld_rest, 14, .inl re1)), (ld, .inr (5, [.ref ld_gas, .int ld_ringed, .ref bk, .ref ld_coming, .ref ld_waiting, .ref ld_rest])), (bk, .inr (0, [.int (nI bw), .ref bk_tail, .ref bk_head, .ref bk_hinder, .ref bk_size, .ref bk_walk, .ref bk_draught, .ref bk_doorIn, .ref bk_fanIn, .ref bk_faceIn, .int (nI bn), .int bk_day, .ref gr])), (gr, .inr (3, [.int (nI gd), .ref gr_doorBy, .int (nI gp), .ref gr_pairFirst, .ref gr_pairSecond, .int (nI gf), .ref gr_fanPush, .ref gr_fanFall, .ref gr_fanCost, .int (nI ge), .ref gr_faceWay, .ref gr_faceGas, .ref gr_faceNeed])), (bk_tail, .inl (k_bk_tail, 14, .inl f_bk_tail)), (bk_head, .inl (k_bk_head, 14, .inl f_bk_head)), (bk_faceIn, .inl (k_bk_faceIn, 14, .inl f_bk_faceIn)), (gr_faceGas, .inl (k_gr_faceGas, 4, .inl f_gr_faceGas)), (ai, .inl (k_ai, 14, .inl f_ai)), (ld_gas, .inl (k_ld_gas, 14, .inl ga1)), (ld_coming, .inl (k_ld_coming, 10, .inl co1)), (ld_waiting, .inl (k_ld_waiting, 10, .inl wa1))] ∧ va_S A s.heap H locs ∧ lv_has ls 5 [(0, .ref ld), (1, .ref ai), (2, .int go1), (3, .int (nI i1))]) (μ := fun (go1 : Int32) (i1 : Nat) (ga1 : Nat → Int32) (co1 : Nat → Int32) (wa1 : Nat → Int32) (re1 : Nat → Int32) => bn + 1 - i1) ?_ 1 0 ga9_3 co9_4 wa9_5 f_ld_rest _ _ _ ⟨(by first | with_reducible assumption | omega | exact vp_in_iff.mpr (by omega) | exact vp_in_nI (by omega) (by omega) | exact ⟨by omega, by omega⟩), hP, hD, hS, lv_sub hl [2, 3, 1, 0] rfl⟩
  intro go1 i1 ga1 co1 wa1 re1 H locs ls hI ih_6
  obtain ⟨hi1, hP, hD, hS, hl⟩ := hI
  refine lv_iload_n hx hb dX5_carry_9 rfl (lv_at hl 3 rfl) ?_
  refine lv_aload_n hx hb dX5_carry_10 rfl (lv_at hl 0 rfl) ?_
  refine va_get (D := (dC, dI)) (ci := 5) (v := .ref bk) (C := RX5) (T := TX5) (N := 6) hx hb hts (fun w h => wM_c (iX5 w h)) hown hK hP 1 rfl rfl 2 (by decide) (hts _ (wM_c wd_495)) (fun _ h9 => h9) rfl dX5_carry_11 ?_
  refine va_get (D := (dC, dI)) (ci := 0) (v := .int (nI bn)) (C := RX0) (T := TX0) (N := 13) hx hb hts (fun w h => wM_c (iX0 w h)) hown hK hP 2 rfl rfl 10 (by decide) (hts _ (wM_c wd_284)) (fun _ h9 => h9) rfl dX5_carry_14 ?_
  refine lv_icmp_gt (tgt := 83) hx hb dX5_carry_17 (by decide) (fun c_7 => ?_) (fun c_7 => ?_)
  · skip
    have g_8 := n_lt (a := bn) (b := i1) c_7 (by omega) (by omega)
    refine lv_aload_n hx hb dX5_carry_83 rfl (lv_at hl 0 rfl) ?_
    refine lv_iconst (v := 0) hx hb dX5_carry_84 (by decide) ?_
    refine va_put (D := (dC, dI)) (ci := 5) (v := .int 0) (ty := .boolean) (C := RX5) (T := TX5) (N := 6) hx hb hts (fun w h => wM_c (iX5 w h)) tyX5 tyX5_ok nmX5 hown hK hP hD hS 1 rfl rfl 1 (by decide) (hts _ (wM_c wd_492)) (fun _ h9 => h9) rfl (by decide +kernel) rfl rfl (Nat.le_of_ble_eq_true rfl) dX5_carry_85 (fun H locs hP hD hS => ?_)
    obtain ⟨hP, hD⟩ : s3_w (dC, dI) classes A [(ld_rest, .inl (k_ld_rest, 14, .inl re1)), (ld, .inr (5, [.ref ld_gas, .int 0, .ref bk, .ref ld_coming, .ref ld_waiting, .ref ld_rest])), (bk, .inr (0, [.int (nI bw), .ref bk_tail, .ref bk_head, .ref bk_hinder, .ref bk_size, .ref bk_walk, .ref bk_draught, .ref bk_doorIn, .ref bk_fanIn, .ref bk_faceIn, .int (nI bn), .int bk_day, .ref gr])), (gr, .inr (3, [.int (nI gd), .ref gr_doorBy, .int (nI gp), .ref gr_pairFirst, .ref gr_pairSecond, .int (nI gf), .ref gr_fanPush, .ref gr_fanFall, .ref gr_fanCost, .int (nI ge), .ref gr_faceWay, .ref gr_faceGas, .ref gr_faceNeed])), (bk_tail, .inl (k_bk_tail, 14, .inl f_bk_tail)), (bk_head, .inl (k_bk_head, 14, .inl f_bk_head)), (bk_faceIn, .inl (k_bk_faceIn, 14, .inl f_bk_faceIn)), (gr_faceGas, .inl (k_gr_faceGas, 4, .inl f_gr_faceGas)), (ai, .inl (k_ai, 14, .inl f_ai)), (ld_gas, .inl (k_ld_gas, 14, .inl ga1)), (ld_coming, .inl (k_ld_coming, 10, .inl co1)), (ld_waiting, .inl (k_ld_waiting, 10, .inl wa1))] H := ⟨hP, hD⟩
    refine lv_iconst (v := 0) hx hb dX5_carry_88 (by decide) ?_
    refine lv_istore_n (lv' := [(3, .int 0), (0, .ref ld), (1, .ref ai), (2, .int go1)]) hx hb dX5_carry_89 rfl hl (by decide) rfl (fun ls hl => ?_)
    refine W_lp2 (I := fun (i3 : Nat) (rg3 : Int32) H locs ls => (i3 ≤ bn) ∧ va_P (dC, dI) classes [(ld_rest, .inl (k_ld_rest, 14, .inl re1)), (ld, .inr (5, [.ref ld_gas, .int rg3, .ref bk, .ref ld_coming, .ref ld_waiting, .ref ld_rest])), (bk, .inr (0, [.int (nI bw), .ref bk_tail, .ref bk_head, .ref bk_hinder, .ref bk_size, .ref bk_walk, .ref bk_draught, .ref bk_doorIn, .ref bk_fanIn, .ref bk_faceIn, .int (nI bn), .int bk_day, .ref gr])), (gr, .inr (3, [.int (nI gd), .ref gr_doorBy, .int (nI gp), .ref gr_pairFirst, .ref gr_pairSecond, .int (nI gf), .ref gr_fanPush, .ref gr_fanFall, .ref gr_fanCost, .int (nI ge), .ref gr_faceWay, .ref gr_faceGas, .ref gr_faceNeed])), (bk_tail, .inl (k_bk_tail, 14, .inl f_bk_tail)), (bk_head, .inl (k_bk_head, 14, .inl f_bk_head)), (bk_faceIn, .inl (k_bk_faceIn, 14, .inl f_bk_faceIn)), (gr_faceGas, .inl (k_gr_faceGas, 4, .inl f_gr_faceGas)), (ai, .inl (k_ai, 14, .inl f_ai)), (ld_gas, .inl (k_ld_gas, 14, .inl ga1)), (ld_coming, .inl (k_ld_coming, 10, .inl co1)), (ld_waiting, .inl (k_ld_waiting, 10, .inl wa1))] H ∧ va_D A [(ld_rest, .inl (k_ld_rest, 14, .inl re1)), (ld, .inr (5, [.ref ld_gas, .int rg3, .ref bk, .ref ld_coming, .ref ld_waiting, .ref ld_rest])), (bk, .inr (0, [.int (nI bw), .ref bk_tail, .ref bk_head, .ref bk_hinder, .ref bk_size, .ref bk_walk, .ref bk_draught, .ref bk_doorIn, .ref bk_fanIn, .ref bk_faceIn, .int (nI bn), .int bk_day, .ref gr])), (gr, .inr (3, [.int (nI gd), .ref gr_doorBy, .int (nI gp), .ref gr_pairFirst, .ref gr_pairSecond, .int (nI gf), .ref gr_fanPush, .ref gr_fanFall, .ref gr_fanCost, .int (nI ge), .ref gr_faceWay, .ref gr_faceGas, .ref gr_faceNeed])), (bk_tail, .inl (k_bk_tail, 14, .inl f_bk_tail)), (bk_head, .inl (k_bk_head, 14, .inl f_bk_head)), (bk_faceIn, .inl (k_bk_faceIn, 14, .inl f_bk_faceIn)), (gr_faceGas, .inl (k_gr_faceGas, 4, .inl f_gr_faceGas)), (ai, .inl (k_ai, 14, .inl f_ai)), (ld_gas, .inl (k_ld_gas, 14, .inl ga1)), (ld_coming, .inl (k_ld_coming, 10, .inl co1)), (ld_waiting, .inl (k_ld_waiting, 10, .inl wa1))] ∧ va_S A s.heap H locs ∧ lv_has ls 5 [(0, .ref ld), (3, .int (nI i3))]) (μ := fun (i3 : Nat) (rg3 : Int32) => bn - i3) ?_ 0 0 _ _ _ ⟨(by first | with_reducible assumption | omega | exact vp_in_iff.mpr (by omega) | exact vp_in_nI (by omega) (by omega) | exact ⟨by omega, by omega⟩), hP, hD, hS, lv_sub hl [1, 0] rfl⟩
    intro i3 rg3 H locs ls hI ih_9
    obtain ⟨hi3, hP, hD, hS, hl⟩ := hI
    refine lv_iload_n hx hb dX5_carry_90 rfl (lv_at hl 1 rfl) ?_
    refine lv_aload_n hx hb dX5_carry_91 rfl (lv_at hl 0 rfl) ?_
    refine va_get (D := (dC, dI)) (ci := 5) (v := .ref bk) (C := RX5) (T := TX5) (N := 6) hx hb hts (fun w h => wM_c (iX5 w h)) hown hK hP 1 rfl rfl 2 (by decide) (hts _ (wM_c wd_495)) (fun _ h9 => h9) rfl dX5_carry_92 ?_
    refine va_get (D := (dC, dI)) (ci := 0) (v := .int (nI bn)) (C := RX0) (T := TX0) (N := 13) hx hb hts (fun w h => wM_c (iX0 w h)) hown hK hP 2 rfl rfl 10 (by decide) (hts _ (wM_c wd_284)) (fun _ h9 => h9) rfl dX5_carry_95 ?_
    refine lv_icmp_ge (tgt := 122) hx hb dX5_carry_98 (by decide) (fun c_10 => ?_) (fun c_10 => ?_)
    · skip
      have g_11 := n_ge (a := i3) (b := bn) c_10 (by omega) (by omega)
      have hK9 := hK.sub (tys' := [(k_bk_tail, .int), (k_bk_head, .int), (k_bk_faceIn, .int), (k_gr_faceGas, .int), (k_ai, .int), (k_ld_gas, .int), (k_ld_coming, .int), (k_ld_waiting, .int), (k_ld_rest, .int)]) [0, 1, 2, 3, 4, 5, 6, 7, 8] rfl
      exact W.vret hx hb hr (fun t ht hW => ⟨⟨(), rfl, trivial, rg3, ga1, co1, wa1, re1, by rw [ht]; exact hP.sub [1, 2, 3, 4, 5, 6, 7, 8, 9, 10, 11, 0] rfl, va_K.moved hW.alike hK9, hD.sub [1, 2, 3, 4, 5, 6, 7, 8, 9, 10, 11, 0] (by decide) rfl⟩, hS.F ht⟩) hS.2.2 dX5_carry_122
    · skip
      have g_12 := n_nge (a := i3) (b := bn) c_10 (by omega) (by omega)
      refine lv_aload_n hx hb dX5_carry_101 rfl (lv_at hl 0 rfl) ?_
      refine va_get (D := (dC, dI)) (ci := 5) (v := .ref ld_waiting) (C := RX5) (T := TX5) (N := 6) hx hb hts (fun w h => wM_c (iX5 w h)) hown hK hP 1 rfl rfl 4 (by decide) (hts _ (wM_c wd_497)) (fun _ h9 => h9) rfl dX5_carry_102 ?_
      refine lv_iload_n hx hb dX5_carry_105 rfl (lv_at hl 1 rfl) ?_
      refine va_iald hx hb hK hP 11 7 rfl rfl (vp_in_nI (n := i3) (by omega) (by omega)) dX5_carry_106 ?_
      refine lv_topi (fun v_13 ev_13 => ?_)
      have nv_13 : v_13 = wa1 i3 := by rw [ev_13]; exact congrArg _ (nI_clamp (by omega))
      refine lv_iconst (v := (-1)) hx hb dX5_carry_107 (by decide) ?_
      refine lv_icmp_eq (tgt := 116) hx hb dX5_carry_108 (by decide) (fun c_14 => ?_) (fun c_14 => ?_)
      · skip
        have g_15 : v_13.toInt = (-1 : Int) := i_eq c_14
        refine lv_iinc (v := (nI (i3 + 1))) (lv' := [(3, .int (nI (i3 + 1))), (0, .ref ld)]) hx hb dX5_carry_116 hl (k := 1) rfl (nI_add _ 1) (by decide) rfl (fun ls hl => ?_)
        refine lv_goto (tgt := 90) hx hb dX5_carry_119 (by decide) ?_
        exact ih_9 (i3 + 1) rg3 _ _ _ ⟨(by first | with_reducible assumption | omega | exact vp_in_iff.mpr (by omega) | exact vp_in_nI (by omega) (by omega) | exact ⟨by omega, by omega⟩), hP.sub [0, 1, 2, 3, 4, 5, 6, 7, 8, 9, 10, 11] rfl, hD.sub [0, 1, 2, 3, 4, 5, 6, 7, 8, 9, 10, 11] (by decide) rfl, hS, lv_sub hl [1, 0] rfl⟩ (by omega)
      · skip
        have g_16 : v_13.toInt ≠ (-1 : Int) := i_ne c_14
        refine lv_aload_n hx hb dX5_carry_111 rfl (lv_at hl 0 rfl) ?_
        refine lv_iconst (v := 1) hx hb dX5_carry_112 (by decide) ?_
        refine va_put (D := (dC, dI)) (ci := 5) (v := .int 1) (ty := .boolean) (C := RX5) (T := TX5) (N := 6) hx hb hts (fun w h => wM_c (iX5 w h)) tyX5 tyX5_ok nmX5 hown hK hP hD hS 1 rfl rfl 1 (by decide) (hts _ (wM_c wd_492)) (fun _ h9 => h9) rfl (by decide +kernel) rfl rfl (Nat.le_of_ble_eq_true rfl) dX5_carry_113 (fun H locs hP hD hS => ?_)
        obtain ⟨hP, hD⟩ : s3_w (dC, dI) classes A [(ld_rest, .inl (k_ld_rest, 14, .inl re1)), (ld, .inr (5, [.ref ld_gas, .int 1, .ref bk, .ref ld_coming, .ref ld_waiting, .ref ld_rest])), (bk, .inr (0, [.int (nI bw), .ref bk_tail, .ref bk_head, .ref bk_hinder, .ref bk_size, .ref bk_walk, .ref bk_draught, .ref bk_doorIn, .ref bk_fanIn, .ref bk_faceIn, .int (nI bn), .int bk_day, .ref gr])), (gr, .inr (3, [.int (nI gd), .ref gr_doorBy, .int (nI gp), .ref gr_pairFirst, .ref gr_pairSecond, .int (nI gf), .ref gr_fanPush, .ref gr_fanFall, .ref gr_fanCost, .int (nI ge), .ref gr_faceWay, .ref gr_faceGas, .ref gr_faceNeed])), (bk_tail, .inl (k_bk_tail, 14, .inl f_bk_tail)), (bk_head, .inl (k_bk_head, 14, .inl f_bk_head)), (bk_faceIn, .inl (k_bk_faceIn, 14, .inl f_bk_faceIn)), (gr_faceGas, .inl (k_gr_faceGas, 4, .inl f_gr_faceGas)), (ai, .inl (k_ai, 14, .inl f_ai)), (ld_gas, .inl (k_ld_gas, 14, .inl ga1)), (ld_coming, .inl (k_ld_coming, 10, .inl co1)), (ld_waiting, .inl (k_ld_waiting, 10, .inl wa1))] H := ⟨hP, hD⟩
        refine lv_iinc (v := (nI (i3 + 1))) (lv' := [(3, .int (nI (i3 + 1))), (0, .ref ld)]) hx hb dX5_carry_116 hl (k := 1) rfl (nI_add _ 1) (by decide) rfl (fun ls hl => ?_)
        refine lv_goto (tgt := 90) hx hb dX5_carry_119 (by decide) ?_
        exact ih_9 (i3 + 1) 1 _ _ _ ⟨(by first | with_reducible assumption | omega | exact vp_in_iff.mpr (by omega) | exact vp_in_nI (by omega) (by omega) | exact ⟨by omega, by omega⟩), hP.sub [0, 1, 2, 3, 4, 5, 6, 7, 8, 9, 10, 11] rfl, hD.sub [0, 1, 2, 3, 4, 5, 6, 7, 8, 9, 10, 11] (by decide) rfl, hS, lv_sub hl [1, 0] rfl⟩ (by omega)
  · skip
    have g_17 := n_nlt (a := bn) (b := i1) c_7 (by omega) (by omega)
    refine lv_iload_n hx hb dX5_carry_20 rfl (lv_at hl 2 rfl) ?_
    refine lv_if_eq (tgt := 83) hx hb dX5_carry_21 (by decide) (fun c_18 => ?_) (fun c_18 => ?_)
    · skip
      have g_19 : go1.toInt = (0 : Int) := i_eq c_18
      refine lv_aload_n hx hb dX5_carry_83 rfl (lv_at hl 0 rfl) ?_
      refine lv_iconst (v := 0) hx hb dX5_carry_84 (by decide) ?_
      refine va_put (D := (dC, dI)) (ci := 5) (v := .int 0) (ty := .boolean) (C := RX5) (T := TX5) (N := 6) hx hb hts (fun w h => wM_c (iX5 w h)) tyX5 tyX5_ok nmX5 hown hK hP hD hS 1 rfl rfl 1 (by decide) (hts _ (wM_c wd_492)) (fun _ h9 => h9) rfl (by decide +kernel) rfl rfl (Nat.le_of_ble_eq_true rfl) dX5_carry_85 (fun H locs hP hD hS => ?_)
      obtain ⟨hP, hD⟩ : s3_w (dC, dI) classes A [(ld_rest, .inl (k_ld_rest, 14, .inl re1)), (ld, .inr (5, [.ref ld_gas, .int 0, .ref bk, .ref ld_coming, .ref ld_waiting, .ref ld_rest])), (bk, .inr (0, [.int (nI bw), .ref bk_tail, .ref bk_head, .ref bk_hinder, .ref bk_size, .ref bk_walk, .ref bk_draught, .ref bk_doorIn, .ref bk_fanIn, .ref bk_faceIn, .int (nI bn), .int bk_day, .ref gr])), (gr, .inr (3, [.int (nI gd), .ref gr_doorBy, .int (nI gp), .ref gr_pairFirst, .ref gr_pairSecond, .int (nI gf), .ref gr_fanPush, .ref gr_fanFall, .ref gr_fanCost, .int (nI ge), .ref gr_faceWay, .ref gr_faceGas, .ref gr_faceNeed])), (bk_tail, .inl (k_bk_tail, 14, .inl f_bk_tail)), (bk_head, .inl (k_bk_head, 14, .inl f_bk_head)), (bk_faceIn, .inl (k_bk_faceIn, 14, .inl f_bk_faceIn)), (gr_faceGas, .inl (k_gr_faceGas, 4, .inl f_gr_faceGas)), (ai, .inl (k_ai, 14, .inl f_ai)), (ld_gas, .inl (k_ld_gas, 14, .inl ga1)), (ld_coming, .inl (k_ld_coming, 10, .inl co1)), (ld_waiting, .inl (k_ld_waiting, 10, .inl wa1))] H := ⟨hP, hD⟩
      refine lv_iconst (v := 0) hx hb dX5_carry_88 (by decide) ?_
      refine lv_istore_n (lv' := [(3, .int 0), (0, .ref ld), (1, .ref ai), (2, .int go1)]) hx hb dX5_carry_89 rfl hl (by decide) rfl (fun ls hl => ?_)
      refine W_lp2 (I := fun (i3 : Nat) (rg3 : Int32) H locs ls => (i3 ≤ bn) ∧ va_P (dC, dI) classes [(ld_rest, .inl (k_ld_rest, 14, .inl re1)), (ld, .inr (5, [.ref ld_gas, .int rg3, .ref bk, .ref ld_coming, .ref ld_waiting, .ref ld_rest])), (bk, .inr (0, [.int (nI bw), .ref bk_tail, .ref bk_head, .ref bk_hinder, .ref bk_size, .ref bk_walk, .ref bk_draught, .ref bk_doorIn, .ref bk_fanIn, .ref bk_faceIn, .int (nI bn), .int bk_day, .ref gr])), (gr, .inr (3, [.int (nI gd), .ref gr_doorBy, .int (nI gp), .ref gr_pairFirst, .ref gr_pairSecond, .int (nI gf), .ref gr_fanPush, .ref gr_fanFall, .ref gr_fanCost, .int (nI ge), .ref gr_faceWay, .ref gr_faceGas, .ref gr_faceNeed])), (bk_tail, .inl (k_bk_tail, 14, .inl f_bk_tail)), (bk_head, .inl (k_bk_head, 14, .inl f_bk_head)), (bk_faceIn, .inl (k_bk_faceIn, 14, .inl f_bk_faceIn)), (gr_faceGas, .inl (k_gr_faceGas, 4, .inl f_gr_faceGas)), (ai, .inl (k_ai, 14, .inl f_ai)), (ld_gas, .inl (k_ld_gas, 14, .inl ga1)), (ld_coming, .inl (k_ld_coming, 10, .inl co1)), (ld_waiting, .inl (k_ld_waiting, 10, .inl wa1))] H ∧ va_D A [(ld_rest, .inl (k_ld_rest, 14, .inl re1)), (ld, .inr (5, [.ref ld_gas, .int rg3, .ref bk, .ref ld_coming, .ref ld_waiting, .ref ld_rest])), (bk, .inr (0, [.int (nI bw), .ref bk_tail, .ref bk_head, .ref bk_hinder, .ref bk_size, .ref bk_walk, .ref bk_draught, .ref bk_doorIn, .ref bk_fanIn, .ref bk_faceIn, .int (nI bn), .int bk_day, .ref gr])), (gr, .inr (3, [.int (nI gd), .ref gr_doorBy, .int (nI gp), .ref gr_pairFirst, .ref gr_pairSecond, .int (nI gf), .ref gr_fanPush, .ref gr_fanFall, .ref gr_fanCost, .int (nI ge), .ref gr_faceWay, .ref gr_faceGas, .ref gr_faceNeed])), (bk_tail, .inl (k_bk_tail, 14, .inl f_bk_tail)), (bk_head, .inl (k_bk_head, 14, .inl f_bk_head)), (bk_faceIn, .inl (k_bk_faceIn, 14, .inl f_bk_faceIn)), (gr_faceGas, .inl (k_gr_faceGas, 4, .inl f_gr_faceGas)), (ai, .inl (k_ai, 14, .inl f_ai)), (ld_gas, .inl (k_ld_gas, 14, .inl ga1)), (ld_coming, .inl (k_ld_coming, 10, .inl co1)), (ld_waiting, .inl (k_ld_waiting, 10, .inl wa1))] ∧ va_S A s.heap H locs ∧ lv_has ls 5 [(0, .ref ld), (3, .int (nI i3))]) (μ := fun (i3 : Nat) (rg3 : Int32) => bn - i3) ?_ 0 0 _ _ _ ⟨(by first | with_reducible assumption | omega | exact vp_in_iff.mpr (by omega) | exact vp_in_nI (by omega) (by omega) | exact ⟨by omega, by omega⟩), hP, hD, hS, lv_sub hl [1, 0] rfl⟩
      intro i3 rg3 H locs ls hI ih_20
      obtain ⟨hi3, hP, hD, hS, hl⟩ := hI
      refine lv_iload_n hx hb dX5_carry_90 rfl (lv_at hl 1 rfl) ?_
      refine lv_aload_n hx hb dX5_carry_91 rfl (lv_at hl 0 rfl) ?_
      refine va_get (D := (dC, dI)) (ci := 5) (v := .ref bk) (C := RX5) (T := TX5) (N := 6) hx hb hts (fun w h => wM_c (iX5 w h)) hown hK hP 1 rfl rfl 2 (by decide) (hts _ (wM_c wd_495)) (fun _ h9 => h9) rfl dX5_carry_92 ?_
      refine va_get (D := (dC, dI)) (ci := 0) (v := .int (nI bn)) (C := RX0) (T := TX0) (N := 13) hx hb hts (fun w h => wM_c (iX0 w h)) hown hK hP 2 rfl rfl 10 (by decide) (hts _ (wM_c wd_284)) (fun _ h9 => h9) rfl dX5_carry_95 ?_
      refine lv_icmp_ge (tgt := 122) hx hb dX5_carry_98 (by decide) (fun c_21 => ?_) (fun c_21 => ?_)
      · skip
        have g_22 := n_ge (a := i3) (b := bn) c_21 (by omega) (by omega)
        have hK9 := hK.sub (tys' := [(k_bk_tail, .int), (k_bk_head, .int), (k_bk_faceIn, .int), (k_gr_faceGas, .int), (k_ai, .int), (k_ld_gas, .int), (k_ld_coming, .int), (k_ld_waiting, .int), (k_ld_rest, .int)]) [0, 1, 2, 3, 4, 5, 6, 7, 8] rfl
        exact W.vret hx hb hr (fun t ht hW => ⟨⟨(), rfl, trivial, rg3, ga1, co1, wa1, re1, by rw [ht]; exact hP.sub [1, 2, 3, 4, 5, 6, 7, 8, 9, 10, 11, 0] rfl, va_K.moved hW.alike hK9, hD.sub [1, 2, 3, 4, 5, 6, 7, 8, 9, 10, 11, 0] (by decide) rfl⟩, hS.F ht⟩) hS.2.2 dX5_carry_122
      · skip
        have g_23 := n_nge (a := i3) (b := bn) c_21 (by omega) (by omega)
        refine lv_aload_n hx hb dX5_carry_101 rfl (lv_at hl 0 rfl) ?_
        refine va_get (D := (dC, dI)) (ci := 5) (v := .ref ld_waiting) (C := RX5) (T := TX5) (N := 6) hx hb hts (fun w h => wM_c (iX5 w h)) hown hK hP 1 rfl rfl 4 (by decide) (hts _ (wM_c wd_497)) (fun _ h9 => h9) rfl dX5_carry_102 ?_
        refine lv_iload_n hx hb dX5_carry_105 rfl (lv_at hl 1 rfl) ?_
        refine va_iald hx hb hK hP 11 7 rfl rfl (vp_in_nI (n := i3) (by omega) (by omega)) dX5_carry_106 ?_
        refine lv_topi (fun v_24 ev_24 => ?_)
        have nv_24 : v_24 = wa1 i3 := by rw [ev_24]; exact congrArg _ (nI_clamp (by omega))
        refine lv_iconst (v := (-1)) hx hb dX5_carry_107 (by decide) ?_
        refine lv_icmp_eq (tgt := 116) hx hb dX5_carry_108 (by decide) (fun c_25 => ?_) (fun c_25 => ?_)
        · skip
          have g_26 : v_24.toInt = (-1 : Int) := i_eq c_25
          refine lv_iinc (v := (nI (i3 + 1))) (lv' := [(3, .int (nI (i3 + 1))), (0, .ref ld)]) hx hb dX5_carry_116 hl (k := 1) rfl (nI_add _ 1) (by decide) rfl (fun ls hl => ?_)
          refine lv_goto (tgt := 90) hx hb dX5_carry_119 (by decide) ?_
          exact ih_20 (i3 + 1) rg3 _ _ _ ⟨(by first | with_reducible assumption | omega | exact vp_in_iff.mpr (by omega) | exact vp_in_nI (by omega) (by omega) | exact ⟨by omega, by omega⟩), hP.sub [0, 1, 2, 3, 4, 5, 6, 7, 8, 9, 10, 11] rfl, hD.sub [0, 1, 2, 3, 4, 5, 6, 7, 8, 9, 10, 11] (by decide) rfl, hS, lv_sub hl [1, 0] rfl⟩ (by omega)
        · skip
          have g_27 : v_24.toInt ≠ (-1 : Int) := i_ne c_25
          refine lv_aload_n hx hb dX5_carry_111 rfl (lv_at hl 0 rfl) ?_
          refine lv_iconst (v := 1) hx hb dX5_carry_112 (by decide) ?_
          refine va_put (D := (dC, dI)) (ci := 5) (v := .int 1) (ty := .boolean) (C := RX5) (T := TX5) (N := 6) hx hb hts (fun w h => wM_c (iX5 w h)) tyX5 tyX5_ok nmX5 hown hK hP hD hS 1 rfl rfl 1 (by decide) (hts _ (wM_c wd_492)) (fun _ h9 => h9) rfl (by decide +kernel) rfl rfl (Nat.le_of_ble_eq_true rfl) dX5_carry_113 (fun H locs hP hD hS => ?_)
          obtain ⟨hP, hD⟩ : s3_w (dC, dI) classes A [(ld_rest, .inl (k_ld_rest, 14, .inl re1)), (ld, .inr (5, [.ref ld_gas, .int 1, .ref bk, .ref ld_coming, .ref ld_waiting, .ref ld_rest])), (bk, .inr (0, [.int (nI bw), .ref bk_tail, .ref bk_head, .ref bk_hinder, .ref bk_size, .ref bk_walk, .ref bk_draught, .ref bk_doorIn, .ref bk_fanIn, .ref bk_faceIn, .int (nI bn), .int bk_day, .ref gr])), (gr, .inr (3, [.int (nI gd), .ref gr_doorBy, .int (nI gp), .ref gr_pairFirst, .ref gr_pairSecond, .int (nI gf), .ref gr_fanPush, .ref gr_fanFall, .ref gr_fanCost, .int (nI ge), .ref gr_faceWay, .ref gr_faceGas, .ref gr_faceNeed])), (bk_tail, .inl (k_bk_tail, 14, .inl f_bk_tail)), (bk_head, .inl (k_bk_head, 14, .inl f_bk_head)), (bk_faceIn, .inl (k_bk_faceIn, 14, .inl f_bk_faceIn)), (gr_faceGas, .inl (k_gr_faceGas, 4, .inl f_gr_faceGas)), (ai, .inl (k_ai, 14, .inl f_ai)), (ld_gas, .inl (k_ld_gas, 14, .inl ga1)), (ld_coming, .inl (k_ld_coming, 10, .inl co1)), (ld_waiting, .inl (k_ld_waiting, 10, .inl wa1))] H := ⟨hP, hD⟩
          refine lv_iinc (v := (nI (i3 + 1))) (lv' := [(3, .int (nI (i3 + 1))), (0, .ref ld)]) hx hb dX5_carry_116 hl (k := 1) rfl (nI_add _ 1) (by decide) rfl (fun ls hl => ?_)
          refine lv_goto (tgt := 90) hx hb dX5_carry_119 (by decide) ?_
          exact ih_20 (i3 + 1) 1 _ _ _ ⟨(by first | with_reducible assumption | omega | exact vp_in_iff.mpr (by omega) | exact vp_in_nI (by omega) (by omega) | exact ⟨by omega, by omega⟩), hP.sub [0, 1, 2, 3, 4, 5, 6, 7, 8, 9, 10, 11] rfl, hD.sub [0, 1, 2, 3, 4, 5, 6, 7, 8, 9, 10, 11] (by decide) rfl, hS, lv_sub hl [1, 0] rfl⟩ (by omega)
    · skip
      have g_28 : go1.toInt ≠ (0 : Int) := i_ne c_18
      refine lv_iconst (v := 0) hx hb dX5_carry_24 (by decide) ?_
      refine lv_istore_n (lv' := [(2, .int 0), (0, .ref ld), (1, .ref ai), (3, .int (nI i1))]) hx hb dX5_carry_25 rfl hl (by decide) rfl (fun ls hl => ?_)
      refine lv_iconst (v := 0) hx hb dX5_carry_26 (by decide) ?_
      refine lv_istore (lv' := [(4, .int 0), (2, .int 0), (0, .ref ld), (1, .ref ai), (3, .int (nI i1))]) hx hb dX5_carry_27 hl (by decide) rfl (fun ls hl => ?_)
      refine W_lp6 (I := fun (go2 : Int32) (i2 : Nat) (ga2 : Nat → Int32) (co2 : Nat → Int32) (wa2 : Nat → Int32) (re2 : Nat → Int32) H locs ls => (i2 ≤ bn) ∧ va_P (dC, dI) classes [(ld_rest, .inl (k_ld_rest, 14, .inl re2)), (ld, .inr (5, [.ref ld_gas, .int ld_ringed, .ref bk, .ref ld_coming, .ref ld_waiting, .ref ld_rest])), (bk, .inr (0, [.int (nI bw), .ref bk_tail, .ref bk_head, .ref bk_hinder, .ref bk_size, .ref bk_walk, .ref bk_draught, .ref bk_doorIn, .ref bk_fanIn, .ref bk_faceIn, .int (nI bn), .int bk_day, .ref gr])), (gr, .inr (3, [.int (nI gd), .ref gr_doorBy, .int (nI gp), .ref gr_pairFirst, .ref gr_pairSecond, .int (nI gf), .ref gr_fanPush, .ref gr_fanFall, .ref gr_fanCost, .int (nI ge), .ref gr_faceWay, .ref gr_faceGas, .ref gr_faceNeed])), (bk_tail, .inl (k_bk_tail, 14, .inl f_bk_tail)), (bk_head, .inl (k_bk_head, 14, .inl f_bk_head)), (bk_faceIn, .inl (k_bk_faceIn, 14, .inl f_bk_faceIn)), (gr_faceGas, .inl (k_gr_faceGas, 4, .inl f_gr_faceGas)), (ai, .inl (k_ai, 14, .inl f_ai)), (ld_gas, .inl (k_ld_gas, 14, .inl ga2)), (ld_coming, .inl (k_ld_coming, 10, .inl co2)), (ld_waiting, .inl (k_ld_waiting, 10, .inl wa2))] H ∧ va_D A [(ld_rest, .inl (k_ld_rest, 14, .inl re2)), (ld, .inr (5, [.ref ld_gas, .int ld_ringed, .ref bk, .ref ld_coming, .ref ld_waiting, .ref ld_rest])), (bk, .inr (0, [.int (nI bw), .ref bk_tail, .ref bk_head, .ref bk_hinder, .ref bk_size, .ref bk_walk, .ref bk_draught, .ref bk_doorIn, .ref bk_fanIn, .ref bk_faceIn, .int (nI bn), .int bk_day, .ref gr])), (gr, .inr (3, [.int (nI gd), .ref gr_doorBy, .int (nI gp), .ref gr_pairFirst, .ref gr_pairSecond, .int (nI gf), .ref gr_fanPush, .ref gr_fanFall, .ref gr_fanCost, .int (nI ge), .ref gr_faceWay, .ref gr_faceGas, .ref gr_faceNeed])), (bk_tail, .inl (k_bk_tail, 14, .inl f_bk_tail)), (bk_head, .inl (k_bk_head, 14, .inl f_bk_head)), (bk_faceIn, .inl (k_bk_faceIn, 14, .inl f_bk_faceIn)), (gr_faceGas, .inl (k_gr_faceGas, 4, .inl f_gr_faceGas)), (ai, .inl (k_ai, 14, .inl f_ai)), (ld_gas, .inl (k_ld_gas, 14, .inl ga2)), (ld_coming, .inl (k_ld_coming, 10, .inl co2)), (ld_waiting, .inl (k_ld_waiting, 10, .inl wa2))] ∧ va_S A s.heap H locs ∧ lv_has ls 5 [(0, .ref ld), (1, .ref ai), (2, .int go2), (3, .int (nI i1)), (4, .int (nI i2))]) (μ := fun (go2 : Int32) (i2 : Nat) (ga2 : Nat → Int32) (co2 : Nat → Int32) (wa2 : Nat → Int32) (re2 : Nat → Int32) => bn - i2) ?_ 0 0 ga1 co1 wa1 re1 _ _ _ ⟨(by first | with_reducible assumption | omega | exact vp_in_iff.mpr (by omega) | exact vp_in_nI (by omega) (by omega) | exact ⟨by omega, by omega⟩), hP, hD, hS, lv_sub hl [2, 3, 1, 4, 0] rfl⟩
      intro go2 i2 ga2 co2 wa2 re2 H locs ls hI ih_29
      obtain ⟨hi2, hP, hD, hS, hl⟩ := hI
      refine lv_iload hx hb dX5_carry_29 (lv_at hl 4 rfl) ?_
      refine lv_aload_n hx hb dX5_carry_31 rfl (lv_at hl 0 rfl) ?_
      refine va_get (D := (dC, dI)) (ci := 5) (v := .ref bk) (C := RX5) (T := TX5) (N := 6) hx hb hts (fun w h => wM_c (iX5 w h)) hown hK hP 1 rfl rfl 2 (by decide) (hts _ (wM_c wd_495)) (fun _ h9 => h9) rfl dX5_carry_32 ?_
      refine va_get (D := (dC, dI)) (ci := 0) (v := .int (nI bn)) (C := RX0) (T := TX0) (N := 13) hx hb hts (fun w h => wM_c (iX0 w h)) hown hK hP 2 rfl rfl 10 (by decide) (hts _ (wM_c wd_284)) (fun _ h9 => h9) rfl dX5_carry_35 ?_
      refine lv_icmp_ge (tgt := 77) hx hb dX5_carry_38 (by decide) (fun c_30 => ?_) (fun c_30 => ?_)
      · skip
        have g_31 := n_ge (a := i2) (b := bn) c_30 (by omega) (by omega)
        refine lv_iinc (v := (nI (i1 + 1))) (lv' := [(3, .int (nI (i1 + 1))), (0, .ref ld), (1, .ref ai), (2, .int go2), (4, .int (nI i2))]) hx hb dX5_carry_77 hl (k := 3) rfl (nI_add _ 1) (by decide) rfl (fun ls hl => ?_)
        refine lv_goto (tgt := 9) hx hb dX5_carry_80 (by decide) ?_
        exact ih_6 go2 (i1 + 1) ga2 co2 wa2 re2 _ _ _ ⟨(by first | with_reducible assumption | omega | exact vp_in_iff.mpr (by omega) | exact vp_in_nI (by omega) (by omega) | exact ⟨by omega, by omega⟩), hP.sub [0, 1, 2, 3, 4, 5, 6, 7, 8, 9, 10, 11] rfl, hD.sub [0, 1, 2, 3, 4, 5, 6, 7, 8, 9, 10, 11] (by decide) rfl, hS, lv_sub hl [1, 2, 3, 0] rfl⟩ (by omega)
      · skip
        have g_32 := n_nge (a := i2) (b := bn) c_30 (by omega) (by omega)
        refine lv_aload_n hx hb dX5_carry_41 rfl (lv_at hl 0 rfl) ?_
        refine va_get (D := (dC, dI)) (ci := 5) (v := .ref ld_waiting) (C := RX5) (T := TX5) (N := 6) hx hb hts (fun w h => wM_c (iX5 w h)) hown hK hP 1 rfl rfl 4 (by decide) (hts _ (wM_c wd_497)) (fun _ h9 => h9) rfl dX5_carry_42 ?_
        refine lv_iload hx hb dX5_carry_45 (lv_at hl 4 rfl) ?_
        refine va_iald hx hb hK hP 11 7 rfl rfl (vp_in_nI (n := i2) (by omega) (by omega)) dX5_carry_47 ?_
        refine lv_topi (fun v_33 ev_33 => ?_)
        have nv_33 : v_33 = wa2 i2 := by rw [ev_33]; exact congrArg _ (nI_clamp (by omega))
        refine lv_if_eq (tgt := 54) hx hb dX5_carry_48 (by decide) (fun c_34 => ?_) (fun c_34 => ?_)
        · skip
          have g_35 : v_33.toInt = (0 : Int) := i_eq c_34
          refine lv_aload_n hx hb dX5_carry_54 rfl (lv_at hl 0 rfl) ?_
          refine va_get (D := (dC, dI)) (ci := 5) (v := .ref ld_waiting) (C := RX5) (T := TX5) (N := 6) hx hb hts (fun w h => wM_c (iX5 w h)) hown hK hP 1 rfl rfl 4 (by decide) (hts _ (wM_c wd_497)) (fun _ h9 => h9) rfl dX5_carry_55 ?_
          refine lv_iload hx hb dX5_carry_58 (lv_at hl 4 rfl) ?_
          refine lv_iconst (v := (-1)) hx hb dX5_carry_60 (by decide) ?_
          refine va_iast hx hb hK hP hD hS 11 7 rfl rfl (vp_in_nI (n := i2) (by omega) (by omega)) dX5_carry_61 (fun H locs hP hD hS => ?_)
          obtain ⟨f_36, ef_36⟩ : ∃ f9, f9 = (upd wa2 (nI i2).toNatClampNeg (-1)) := ⟨_, rfl⟩
          obtain ⟨hP, hD⟩ : s3_w (dC, dI) classes A [(ld_rest, .inl (k_ld_rest, 14, .inl re2)), (ld, .inr (5, [.ref ld_gas, .int ld_ringed, .ref bk, .ref ld_coming, .ref ld_waiting, .ref ld_rest])), (bk, .inr (0, [.int (nI bw), .ref bk_tail, .ref bk_head, .ref bk_hinder, .ref bk_size, .ref bk_walk, .ref bk_draught, .ref bk_doorIn, .ref bk_fanIn, .ref bk_faceIn, .int (nI bn), .int bk_day, .ref gr])), (gr, .inr (3, [.int (nI gd), .ref gr_doorBy, .int (nI gp), .ref gr_pairFirst, .ref gr_pairSecond, .int (nI gf), .ref gr_fanPush, .ref gr_fanFall, .ref gr_fanCost, .int (nI ge), .ref gr_faceWay, .ref gr_faceGas, .ref gr_faceNeed])), (bk_tail, .inl (k_bk_tail, 14, .inl f_bk_tail)), (bk_head, .inl (k_bk_head, 14, .inl f_bk_head)), (bk_faceIn, .inl (k_bk_faceIn, 14, .inl f_bk_faceIn)), (gr_faceGas, .inl (k_gr_faceGas, 4, .inl f_gr_faceGas)), (ai, .inl (k_ai, 14, .inl f_ai)), (ld_gas, .inl (k_ld_gas, 14, .inl ga2)), (ld_coming, .inl (k_ld_coming, 10, .inl co2)), (ld_waiting, .inl (k_ld_waiting, 10, .inl f_36))] H := ⟨(by rw [ef_36]; exact hP), (by rw [ef_36]; exact hD)⟩
          refine lv_aload_n hx hb dX5_carry_62 rfl (lv_at hl 0 rfl) ?_
          refine lv_iload hx hb dX5_carry_63 (lv_at hl 4 rfl) ?_
          refine lv_aload_n hx hb dX5_carry_65 rfl (lv_at hl 1 rfl) ?_
          obtain ⟨hPc, hDc, hFc⟩ := s3_c (ws' := [(ld, .inr (5, [.ref ld_gas, .int ld_ringed, .ref bk, .ref ld_coming, .ref ld_waiting, .ref ld_rest])), (bk, .inr (0, [.int (nI bw), .ref bk_tail, .ref bk_head, .ref bk_hinder, .ref bk_size, .ref bk_walk, .ref bk_draught, .ref bk_doorIn, .ref bk_fanIn, .ref bk_faceIn, .int (nI bn), .int bk_day, .ref gr])), (bk_tail, .inl (k_bk_tail, 14, .inl f_bk_tail)), (bk_head, .inl (k_bk_head, 14, .inl f_bk_head)), (ai, .inl (k_ai, 14, .inl f_ai)), (ld_gas, .inl (k_ld_gas, 14, .inl ga2)), (ld_coming, .inl (k_ld_coming, 10, .inl co2)), (ld_waiting, .inl (k_ld_waiting, 10, .inl f_36)), (ld_rest, .inl (k_ld_rest, 14, .inl re2))]) [1, 2, 4, 5, 8, 9, 10, 11, 0] hP hD hS hA rfl (by decide)
          have hKc := hK.sub (tys' := [(k_bk_tail, .int), (k_bk_head, .int), (k_ai, .int), (k_ld_gas, .int), (k_ld_coming, .int), (k_ld_waiting, .int), (k_ld_rest, .int)]) [0, 1, 4, 5, 6, 7, 8] rfl
          refine va_callv (va_runV (As := [.int (nI i2), .ref ai]) (rest := []) ⟨hx, hb, hml, hown, hts⟩ (c5_sendOn l dC dI n0 atx H.size ld ld_gas ld_ringed bk ld_coming ld_waiting ld_rest bw bk_tail bk_head bk_hinder bk_size bk_walk bk_draught bk_doorIn bk_fanIn bk_faceIn bn bk_day gr k_bk_tail f_bk_tail k_bk_head f_bk_head ai k_ai f_ai k_ld_gas ga2 k_ld_coming co2 k_ld_waiting f_36 k_ld_rest re2 (nI i2) (by first | with_reducible assumption | omega | exact vp_in_iff.mpr (by omega) | exact vp_in_nI (by omega) (by omega) | exact ⟨by omega, by omega⟩) (by first | with_reducible assumption | omega | exact vp_in_iff.mpr (by omega) | exact vp_in_nI (by omega) (by omega) | exact ⟨by omega, by omega⟩) (by first | with_reducible assumption | omega | exact vp_in_iff.mpr (by omega) | exact vp_in_nI (by omega) (by omega) | exact ⟨by omega, by omega⟩) (by first | with_reducible assumption | omega | exact vp_in_iff.mpr (by omega) | exact vp_in_nI (by omega) (by omega) | exact ⟨by omega, by omega⟩) (by first | with_reducible assumption | omega | exact vp_in_iff.mpr (by omega) | exact vp_in_nI (by omega) (by omega) | exact ⟨by omega, by omega⟩) (by first | with_reducible assumption | omega | exact vp_in_iff.mpr (by omega) | exact vp_in_nI (by omega) (by omega) | exact ⟨by omega, by omega⟩)) (cwV 2 hts (gV (fun w h => wM_c h) wd_1116 wd_1113 wd_1115 wd_41 wd_121) rfl rfl rfl (by decide +kernel) ⟨Nat.le_of_ble_eq_true rfl, Nat.le_of_ble_eq_true rfl⟩) ⟨fun a U g mk q => by obtain ⟨q0, q1, q2, qG, qP, qK, qD⟩ := q; exact ⟨q0, q1, q2, GW.blind qG, qP, va_K.moved (u := U) (U := U.calling g mk a) (Vm.Alike.refl U.vm) qK, qD⟩, va_recv hKc hPc (ci := 5) (q0 := 0) rfl rfl, fun U hU hW => ⟨rfl, by rw [hU], Nat.le_trans hn0 hS.1, GW.go hW hU hG (fun q hq hA9 => hS.2.1 q hq (fun h => hA9 (hA0 q h))), by rw [hU]; exact hPc, va_K.moved hW.alike hKc, hDc.weaken (fun _ _ _ h => hA0 _ h)⟩⟩ rfl rfl hl.1 rfl (lv_room (Nat.le_of_ble_eq_true rfl)) dX5_carry_66 ⟨Nat.le_of_ble_eq_true rfl, Nat.le_of_ble_eq_true rfl⟩) hS (fun q _ h => hFc q h) hFc (fun u t H1 locs ht hvm hw_38 hB hz1 hk1 hS => ?_)
          obtain ⟨ga9_39, co9_40, wa9_41, re9_42, hP1, hK1, hD1⟩ := hB
          rw [ht] at hP1
          obtain ⟨hP, hD⟩ := s3_j (L := [(gr, .inr (3, [.int (nI gd), .ref gr_doorBy, .int (nI gp), .ref gr_pairFirst, .ref gr_pairSecond, .int (nI gf), .ref gr_fanPush, .ref gr_fanFall, .ref gr_fanCost, .int (nI ge), .ref gr_faceWay, .ref gr_faceGas, .ref gr_faceNeed])), (bk_faceIn, .inl (k_bk_faceIn, 14, .inl f_bk_faceIn)), (gr_faceGas, .inl (k_gr_faceGas, 4, .inl f_gr_faceGas)), (ld, .inr (5, [.ref ld_gas, .int ld_ringed, .ref bk, .ref ld_coming, .ref ld_waiting, .ref ld_rest])), (bk, .inr (0, [.int (nI bw), .ref bk_tail, .ref bk_head, .ref bk_hinder, .ref bk_size, .ref bk_walk, .ref bk_draught, .ref bk_doorIn, .ref bk_fanIn, .ref bk_faceIn, .int (nI bn), .int bk_day, .ref gr])), (bk_tail, .inl (k_bk_tail, 14, .inl f_bk_tail)), (bk_head, .inl (k_bk_head, 14, .inl f_bk_head)), (ai, .inl (k_ai, 14, .inl f_ai)), (ld_gas, .inl (k_ld_gas, 14, .inl ga9_39)), (ld_coming, .inl (k_ld_coming, 10, .inl co9_40)), (ld_waiting, .inl (k_ld_waiting, 10, .inl wa9_41)), (ld_rest, .inl (k_ld_rest, 14, .inl re9_42))]) 3 hP hD [1, 2, 4, 5, 8, 9, 10, 11, 0] [3, 6, 7] hk1 hFc hP1 hD1 rfl rfl rfl (by decide) (by decide)
          generalize H1 = H at hP hS ⊢
          refine lv_iconst (v := 1) hx hb dX5_carry_69 (by decide) ?_
          refine lv_istore_n (lv' := [(2, .int 1), (0, .ref ld), (1, .ref ai), (3, .int (nI i1)), (4, .int (nI i2))]) hx hb dX5_carry_70 rfl hl (by decide) rfl (fun ls hl => ?_)
          refine lv_iinc (v := (nI (i2 + 1))) (lv' := [(4, .int (nI (i2 + 1))), (2, .int 1), (0, .ref ld), (1, .ref ai), (3, .int (nI i1))]) hx hb dX5_carry_71 hl (k := 4) rfl (nI_add _ 1) (by decide) rfl (fun ls hl => ?_)
          refine lv_goto (tgt := 29) hx hb dX5_carry_74 (by decide) ?_
          exact ih_29 1 (i2 + 1) ga9_39 co9_40 wa9_41 re9_42 _ _ _ ⟨(by first | with_reducible assumption | omega | exact vp_in_iff.mpr (by omega) | exact vp_in_nI (by omega) (by omega) | exact ⟨by omega, by omega⟩), hP.sub [11, 3, 4, 0, 5, 6, 1, 2, 7, 8, 9, 10] rfl, hD.sub [11, 3, 4, 0, 5, 6, 1, 2, 7, 8, 9, 10] (by decide) rfl, hS, lv_sub hl [2, 3, 1, 4, 0] rfl⟩ (by omega)
        · skip
          have g_43 : v_33.toInt ≠ (0 : Int) := i_ne c_34
          refine lv_goto (tgt := 71) hx hb dX5_carry_51 (by decide) ?_
          refine lv_iinc (v := (nI (i2 + 1))) (lv' := [(4, .int (nI (i2 + 1))), (0, .ref ld), (1, .ref ai), (2, .int go2), (3, .int (nI i1))]) hx hb dX5_carry_71 hl (k := 4) rfl (nI_add _ 1) (by decide) rfl (fun ls hl => ?_)
          refine lv_goto (tgt := 29) hx hb dX5_carry_74 (by decide) ?_
          exact ih_29 go2 (i2 + 1) ga2 co2 wa2 re2 _ _ _ ⟨(by first | with_reducible assumption | omega | exact vp_in_iff.mpr (by omega) | exact vp_in_nI (by omega) (by omega) | exact ⟨by omega, by omega⟩), hP.sub [0, 1, 2, 3, 4, 5, 6, 7, 8, 9, 10, 11] rfl, hD.sub [0, 1, 2, 3, 4, 5, 6, 7, 8, 9, 10, 11] (by decide) rfl, hS, lv_sub hl [1, 2, 3, 4, 0] rfl⟩ (by omega)
