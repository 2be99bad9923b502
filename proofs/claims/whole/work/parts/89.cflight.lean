theorem wd_48 : Cond.selects "MineAir$Flight" (⟨"MineAir$Flight", "drift", "(II)Z"⟩ : MethodName) (⟨"MineAir$Flight", "drift", "(II)Z"⟩ : MethodName) ∈ wG := wG_of 48 (by decide +kernel) (by decide +kernel)
theorem wd_51 : Cond.selects "MineAir$Flight" (⟨"MineAir$Flight", "walk", "(III)Z"⟩ : MethodName) (⟨"MineAir$Flight", "walk", "(III)Z"⟩ : MethodName) ∈ wG := wG_of 51 (by decide +kernel) (by decide +kernel)
theorem wd_58 : Cond.selects "MineAir$Flight" (⟨"MineAir$Flight", "knotBefore", "(I)I"⟩ : MethodName) (⟨"MineAir$Flight", "knotBefore", "(I)I"⟩ : MethodName) ∈ wG := wG_of 58 (by decide +kernel) (by decide +kernel)
theorem wd_59 : Cond.selects "MineAir$Flight" (⟨"MineAir$Flight", "isEarly", "(III)Z"⟩ : MethodName) (⟨"MineAir$Flight", "isEarly", "(III)Z"⟩ : MethodName) ∈ wG := wG_of 59 (by decide +kernel) (by decide +kernel)
theorem wd_124 : Cond.initialized "MineAir$Flight" ∈ wG := wG_of 124 (by decide +kernel) (by decide +kernel)
theorem wd_239 : Cond.fieldLink "MineAir$Flight" 35 "MineAir$Book" "ways" "I" ∈ wG := wG_of 239 (by decide +kernel) (by decide +kernel)
theorem wd_248 : Cond.fieldLink "MineAir$Flight" 84 "MineAir$Book" "tail" "[I" ∈ wG := wG_of 248 (by decide +kernel) (by decide +kernel)
theorem wd_253 : Cond.fieldLink "MineAir$Flight" 87 "MineAir$Book" "head" "[I" ∈ wG := wG_of 253 (by decide +kernel) (by decide +kernel)
theorem wd_260 : Cond.fieldLink "MineAir$Flight" 77 "MineAir$Book" "size" "[I" ∈ wG := wG_of 260 (by decide +kernel) (by decide +kernel)
theorem wd_265 : Cond.fieldLink "MineAir$Flight" 94 "MineAir$Book" "walk" "[I" ∈ wG := wG_of 265 (by decide +kernel) (by decide +kernel)
theorem wd_290 : Cond.fieldLink "MineAir$Flight" 68 "MineAir$Book" "day" "I" ∈ wG := wG_of 290 (by decide +kernel) (by decide +kernel)
theorem wd_398 : Cond.fieldLink "MineAir$Flight" 80 "MineAir$State" "fallen" "[Z" ∈ wG := wG_of 398 (by decide +kernel) (by decide +kernel)
theorem wd_403 : Cond.fieldLink "MineAir$Flight" 41 "MineAir$State" "fire" "[I" ∈ wG := wG_of 403 (by decide +kernel) (by decide +kernel)
theorem wd_617 : Cond.fieldLink "MineAir$Flight" 15 "MineAir$Flight" "smokeAt" "[I" ∈ wG := wG_of 617 (by decide +kernel) (by decide +kernel)
theorem wd_619 : Cond.fieldLink "MineAir$Flight" 18 "MineAir$Flight" "reach" "[I" ∈ wG := wG_of 619 (by decide +kernel) (by decide +kernel)
theorem wd_621 : Cond.fieldLink "MineAir$Flight" 21 "MineAir$Flight" "route" "[I" ∈ wG := wG_of 621 (by decide +kernel) (by decide +kernel)
theorem wd_623 : Cond.fieldLink "MineAir$Flight" 27 "MineAir$Flight" "book" "LMineAir$Book;" ∈ wG := wG_of 623 (by decide +kernel) (by decide +kernel)
theorem wd_624 : Cond.fieldLink "MineAir$Flight" 31 "MineAir$Flight" "state" "LMineAir$State;" ∈ wG := wG_of 624 (by decide +kernel) (by decide +kernel)
theorem wd_625 : Cond.fieldLink "MineAir$Flight" 24 "MineAir$Flight" "smokeIn" "[I" ∈ wG := wG_of 625 (by decide +kernel) (by decide +kernel)
theorem wd_649 : Cond.fieldLink "MineAir$Readings" 21 "MineAir$Readings" "count" "I" ∈ wG := wG_of 649 (by decide +kernel) (by decide +kernel)
theorem wd_651 : Cond.fieldLink "MineAir$Readings" 9 "MineAir$Readings" "way" "[I" ∈ wG := wG_of 651 (by decide +kernel) (by decide +kernel)
theorem wd_652 : Cond.fieldLink "MineAir$Readings" 15 "MineAir$Readings" "low" "[I" ∈ wG := wG_of 652 (by decide +kernel) (by decide +kernel)
theorem wd_653 : Cond.fieldLink "MineAir$Readings" 18 "MineAir$Readings" "high" "[I" ∈ wG := wG_of 653 (by decide +kernel) (by decide +kernel)
theorem wd_1216 : Cond.instanceMethod (⟨"MineAir$Flight", "source", "()I"⟩ : MethodName) ∈ wG := wG_of 1216 (by decide +kernel) (by decide +kernel)
theorem wd_1217 : Cond.selects "MineAir$Flight" (⟨"MineAir$Flight", "source", "()I"⟩ : MethodName) (⟨"MineAir$Flight", "source", "()I"⟩ : MethodName) ∈ wG := wG_of 1217 (by decide +kernel) (by decide +kernel)
theorem wd_1218 : Cond.code (⟨"MineAir$Flight", "source", "()I"⟩ : MethodName) prog_3_method_2_code 2 (Option.some Jvm.ClassFile.FieldType.int) ∈ wG := wG_of 1218 (by decide +kernel) (by decide +kernel)
theorem wd_1223 : Cond.constant "MineAir$Flight" 46 2147483647 ∈ wG := wG_of 1223 (by decide +kernel) (by decide +kernel)
theorem wd_1224 : Cond.methodLink "MineAir$Flight" 47 (⟨"java/util/Arrays", "fill", "([II)V"⟩ : MethodName) ∈ wG := wG_of 1224 (by decide +kernel) (by decide +kernel)
theorem wd_1225 : Cond.methodLink "MineAir$Flight" 53 (⟨"MineAir$Flight", "source", "()I"⟩ : MethodName) ∈ wG := wG_of 1225 (by decide +kernel) (by decide +kernel)
theorem wd_1226 : Cond.methodLink "MineAir$Flight" 57 (⟨"MineAir$Flight", "drift", "(II)Z"⟩ : MethodName) ∈ wG := wG_of 1226 (by decide +kernel) (by decide +kernel)
theorem wd_1228 : Cond.instanceMethod (⟨"MineAir$Flight", "drift", "(II)Z"⟩ : MethodName) ∈ wG := wG_of 1228 (by decide +kernel) (by decide +kernel)
theorem wd_1229 : Cond.code (⟨"MineAir$Flight", "drift", "(II)Z"⟩ : MethodName) prog_3_method_4_code 7 (Option.some Jvm.ClassFile.FieldType.boolean) ∈ wG := wG_of 1229 (by decide +kernel) (by decide +kernel)
theorem wd_1230 : Cond.methodLink "MineAir$Flight" 61 (⟨"MineAir$Book", "startOf", "(II)I"⟩ : MethodName) ∈ wG := wG_of 1230 (by decide +kernel) (by decide +kernel)
theorem wd_1231 : Cond.methodLink "MineAir$Flight" 65 (⟨"MineAir$Book", "endOf", "(II)I"⟩ : MethodName) ∈ wG := wG_of 1231 (by decide +kernel) (by decide +kernel)
theorem wd_1232 : Cond.methodLink "MineAir$Flight" 71 (⟨"java/lang/Math", "abs", "(I)I"⟩ : MethodName) ∈ wG := wG_of 1232 (by decide +kernel) (by decide +kernel)
theorem wd_1254 : Cond.methodLink "MineAir$Flight" 90 (⟨"MineAir$Flight", "walk", "(III)Z"⟩ : MethodName) ∈ wG := wG_of 1254 (by decide +kernel) (by decide +kernel)
theorem wd_1256 : Cond.instanceMethod (⟨"MineAir$Flight", "walk", "(III)Z"⟩ : MethodName) ∈ wG := wG_of 1256 (by decide +kernel) (by decide +kernel)
theorem wd_1257 : Cond.code (⟨"MineAir$Flight", "walk", "(III)Z"⟩ : MethodName) prog_3_method_6_code 5 (Option.some Jvm.ClassFile.FieldType.boolean) ∈ wG := wG_of 1257 (by decide +kernel) (by decide +kernel)
theorem wd_1409 : Cond.methodLink "MineAir$Flight" 96 (⟨"MineAir$Flight", "knotBefore", "(I)I"⟩ : MethodName) ∈ wG := wG_of 1409 (by decide +kernel) (by decide +kernel)
theorem wd_1411 : Cond.instanceMethod (⟨"MineAir$Flight", "knotBefore", "(I)I"⟩ : MethodName) ∈ wG := wG_of 1411 (by decide +kernel) (by decide +kernel)
theorem wd_1412 : Cond.code (⟨"MineAir$Flight", "knotBefore", "(I)I"⟩ : MethodName) prog_3_method_8_code 3 (Option.some Jvm.ClassFile.FieldType.int) ∈ wG := wG_of 1412 (by decide +kernel) (by decide +kernel)
theorem wd_1413 : Cond.methodLink "MineAir$Flight" 99 (⟨"MineAir$Flight", "isEarly", "(III)Z"⟩ : MethodName) ∈ wG := wG_of 1413 (by decide +kernel) (by decide +kernel)
theorem wd_1415 : Cond.instanceMethod (⟨"MineAir$Flight", "isEarly", "(III)Z"⟩ : MethodName) ∈ wG := wG_of 1415 (by decide +kernel) (by decide +kernel)
theorem wd_1416 : Cond.code (⟨"MineAir$Flight", "isEarly", "(III)Z"⟩ : MethodName) prog_3_method_9_code 4 (Option.some Jvm.ClassFile.FieldType.boolean) ∈ wG := wG_of 1416 (by decide +kernel) (by decide +kernel)
theorem dX1_drift_0 : decode cX1_drift 0 = .ok (.aload_n 0, 1) := by decide +kernel
theorem dX1_drift_1 : decode cX1_drift 1 = .ok (.getfield 27, 3) := by decide +kernel
theorem dX1_drift_4 : decode cX1_drift 4 = .ok (.iload_n 1, 1) := by decide +kernel
theorem dX1_drift_5 : decode cX1_drift 5 = .ok (.iload_n 2, 1) := by decide +kernel
theorem dX1_drift_6 : decode cX1_drift 6 = .ok (.invokevirtual 61, 3) := by decide +kernel
theorem dX1_drift_9 : decode cX1_drift 9 = .ok (.istore_n 3, 1) := by decide +kernel
theorem dX1_drift_10 : decode cX1_drift 10 = .ok (.aload_n 0, 1) := by decide +kernel
theorem dX1_drift_11 : decode cX1_drift 11 = .ok (.getfield 27, 3) := by decide +kernel
theorem dX1_drift_14 : decode cX1_drift 14 = .ok (.iload_n 1, 1) := by decide +kernel
theorem dX1_drift_15 : decode cX1_drift 15 = .ok (.iload_n 2, 1) := by decide +kernel
theorem dX1_drift_16 : decode cX1_drift 16 = .ok (.invokevirtual 65, 3) := by decide +kernel
theorem dX1_drift_19 : decode cX1_drift 19 = .ok (.istore 4, 2) := by decide +kernel
theorem dX1_drift_21 : decode cX1_drift 21 = .ok (.iload_n 3, 1) := by decide +kernel
theorem dX1_drift_22 : decode cX1_drift 22 = .ok (.aload_n 0, 1) := by decide +kernel
theorem dX1_drift_23 : decode cX1_drift 23 = .ok (.getfield 27, 3) := by decide +kernel
theorem dX1_drift_26 : decode cX1_drift 26 = .ok (.getfield 68, 3) := by decide +kernel
theorem dX1_drift_29 : decode cX1_drift 29 = .ok (.if_icmp .eq 30, 3) := by decide +kernel
theorem dX1_drift_32 : decode cX1_drift 32 = .ok (.aload_n 0, 1) := by decide +kernel
theorem dX1_drift_33 : decode cX1_drift 33 = .ok (.getfield 24, 3) := by decide +kernel
theorem dX1_drift_36 : decode cX1_drift 36 = .ok (.iload_n 3, 1) := by decide +kernel
theorem dX1_drift_37 : decode cX1_drift 37 = .ok (.iaload, 1) := by decide +kernel
theorem dX1_drift_38 : decode cX1_drift 38 = .ok (.aload_n 0, 1) := by decide +kernel
theorem dX1_drift_39 : decode cX1_drift 39 = .ok (.getfield 15, 3) := by decide +kernel
theorem dX1_drift_42 : decode cX1_drift 42 = .ok (.iload_n 1, 1) := by decide +kernel
theorem dX1_drift_43 : decode cX1_drift 43 = .ok (.iaload, 1) := by decide +kernel
theorem dX1_drift_44 : decode cX1_drift 44 = .ok (.if_icmp .ge 15, 3) := by decide +kernel
theorem dX1_drift_47 : decode cX1_drift 47 = .ok (.aload_n 0, 1) := by decide +kernel
theorem dX1_drift_48 : decode cX1_drift 48 = .ok (.getfield 15, 3) := by decide +kernel
theorem dX1_drift_51 : decode cX1_drift 51 = .ok (.iload_n 1, 1) := by decide +kernel
theorem dX1_drift_52 : decode cX1_drift 52 = .ok (.aload_n 0, 1) := by decide +kernel
theorem dX1_drift_53 : decode cX1_drift 53 = .ok (.getfield 24, 3) := by decide +kernel
theorem dX1_drift_56 : decode cX1_drift 56 = .ok (.iload_n 3, 1) := by decide +kernel
theorem dX1_drift_57 : decode cX1_drift 57 = .ok (.iaload, 1) := by decide +kernel
theorem dX1_drift_58 : decode cX1_drift 58 = .ok (.iastore, 1) := by decide +kernel
theorem dX1_drift_59 : decode cX1_drift 59 = .ok (.aload_n 0, 1) := by decide +kernel
theorem dX1_drift_60 : decode cX1_drift 60 = .ok (.getfield 15, 3) := by decide +kernel
theorem dX1_drift_63 : decode cX1_drift 63 = .ok (.iload_n 1, 1) := by decide +kernel
theorem dX1_drift_64 : decode cX1_drift 64 = .ok (.iaload, 1) := by decide +kernel
theorem dX1_drift_65 : decode cX1_drift 65 = .ok (.ldc 46, 2) := by decide +kernel
theorem dX1_drift_67 : decode cX1_drift 67 = .ok (.if_icmp .ne 5, 3) := by decide +kernel
theorem dX1_drift_70 : decode cX1_drift 70 = .ok (.iconst 0, 1) := by decide +kernel
theorem dX1_drift_71 : decode cX1_drift 71 = .ok (.ireturn, 1) := by decide +kernel
theorem dX1_drift_72 : decode cX1_drift 72 = .ok (.iload_n 2, 1) := by decide +kernel
theorem dX1_drift_73 : decode cX1_drift 73 = .ok (.invokestatic 71, 3) := by decide +kernel
theorem dX1_drift_76 : decode cX1_drift 76 = .ok (.istore 5, 2) := by decide +kernel
theorem dX1_drift_78 : decode cX1_drift 78 = .ok (.aload_n 0, 1) := by decide +kernel
theorem dX1_drift_79 : decode cX1_drift 79 = .ok (.getfield 15, 3) := by decide +kernel
theorem dX1_drift_82 : decode cX1_drift 82 = .ok (.iload_n 1, 1) := by decide +kernel
theorem dX1_drift_83 : decode cX1_drift 83 = .ok (.iaload, 1) := by decide +kernel
theorem dX1_drift_84 : decode cX1_drift 84 = .ok (.aload_n 0, 1) := by decide +kernel
theorem dX1_drift_85 : decode cX1_drift 85 = .ok (.getfield 27, 3) := by decide +kernel
theorem dX1_drift_88 : decode cX1_drift 88 = .ok (.getfield 77, 3) := by decide +kernel
theorem dX1_drift_91 : decode cX1_drift 91 = .ok (.iload_n 1, 1) := by decide +kernel
theorem dX1_drift_92 : decode cX1_drift 92 = .ok (.iaload, 1) := by decide +kernel
theorem dX1_drift_93 : decode cX1_drift 93 = .ok (.iload 5, 2) := by decide +kernel
theorem dX1_drift_95 : decode cX1_drift 95 = .ok (.iadd, 1) := by decide +kernel
theorem dX1_drift_96 : decode cX1_drift 96 = .ok (.iconst 1, 1) := by decide +kernel
theorem dX1_drift_97 : decode cX1_drift 97 = .ok (.isub, 1) := by decide +kernel
theorem dX1_drift_98 : decode cX1_drift 98 = .ok (.iload 5, 2) := by decide +kernel
theorem dX1_drift_100 : decode cX1_drift 100 = .ok (.idiv, 1) := by decide +kernel
theorem dX1_drift_101 : decode cX1_drift 101 = .ok (.iadd, 1) := by decide +kernel
theorem dX1_drift_102 : decode cX1_drift 102 = .ok (.istore 6, 2) := by decide +kernel
theorem dX1_drift_104 : decode cX1_drift 104 = .ok (.iload 6, 2) := by decide +kernel
theorem dX1_drift_106 : decode cX1_drift 106 = .ok (.aload_n 0, 1) := by decide +kernel
theorem dX1_drift_107 : decode cX1_drift 107 = .ok (.getfield 24, 3) := by decide +kernel
theorem dX1_drift_110 : decode cX1_drift 110 = .ok (.iload 4, 2) := by decide +kernel
theorem dX1_drift_112 : decode cX1_drift 112 = .ok (.iaload, 1) := by decide +kernel
theorem dX1_drift_113 : decode cX1_drift 113 = .ok (.if_icmp .lt 5, 3) := by decide +kernel
theorem dX1_drift_116 : decode cX1_drift 116 = .ok (.iconst 0, 1) := by decide +kernel
theorem dX1_drift_117 : decode cX1_drift 117 = .ok (.ireturn, 1) := by decide +kernel
theorem dX1_drift_118 : decode cX1_drift 118 = .ok (.aload_n 0, 1) := by decide +kernel
theorem dX1_drift_119 : decode cX1_drift 119 = .ok (.getfield 24, 3) := by decide +kernel
theorem dX1_drift_122 : decode cX1_drift 122 = .ok (.iload 4, 2) := by decide +kernel
theorem dX1_drift_124 : decode cX1_drift 124 = .ok (.iload 6, 2) := by decide +kernel
theorem dX1_drift_126 : decode cX1_drift 126 = .ok (.iastore, 1) := by decide +kernel
theorem dX1_drift_127 : decode cX1_drift 127 = .ok (.iconst 1, 1) := by decide +kernel
theorem dX1_drift_128 : decode cX1_drift 128 = .ok (.ireturn, 1) := by decide +kernel
theorem dX1_isEarly_0 : decode cX1_isEarly 0 = .ok (.aload_n 0, 1) := by decide +kernel
theorem dX1_isEarly_1 : decode cX1_isEarly 1 = .ok (.getfield 18, 3) := by decide +kernel
theorem dX1_isEarly_4 : decode cX1_isEarly 4 = .ok (.iload_n 2, 1) := by decide +kernel
theorem dX1_isEarly_5 : decode cX1_isEarly 5 = .ok (.iaload, 1) := by decide +kernel
theorem dX1_isEarly_6 : decode cX1_isEarly 6 = .ok (.ldc 46, 2) := by decide +kernel
theorem dX1_isEarly_8 : decode cX1_isEarly 8 = .ok (.if_icmp .eq 32, 3) := by decide +kernel
theorem dX1_isEarly_11 : decode cX1_isEarly 11 = .ok (.aload_n 0, 1) := by decide +kernel
theorem dX1_isEarly_12 : decode cX1_isEarly 12 = .ok (.getfield 18, 3) := by decide +kernel
theorem dX1_isEarly_15 : decode cX1_isEarly 15 = .ok (.iload_n 2, 1) := by decide +kernel
theorem dX1_isEarly_16 : decode cX1_isEarly 16 = .ok (.iaload, 1) := by decide +kernel
theorem dX1_isEarly_17 : decode cX1_isEarly 17 = .ok (.aload_n 0, 1) := by decide +kernel
theorem dX1_isEarly_18 : decode cX1_isEarly 18 = .ok (.getfield 27, 3) := by decide +kernel
theorem dX1_isEarly_21 : decode cX1_isEarly 21 = .ok (.getfield 94, 3) := by decide +kernel
theorem dX1_isEarly_24 : decode cX1_isEarly 24 = .ok (.iload_n 1, 1) := by decide +kernel
theorem dX1_isEarly_25 : decode cX1_isEarly 25 = .ok (.iaload, 1) := by decide +kernel
theorem dX1_isEarly_26 : decode cX1_isEarly 26 = .ok (.iadd, 1) := by decide +kernel
theorem dX1_isEarly_27 : decode cX1_isEarly 27 = .ok (.aload_n 0, 1) := by decide +kernel
theorem dX1_isEarly_28 : decode cX1_isEarly 28 = .ok (.getfield 18, 3) := by decide +kernel
theorem dX1_isEarly_31 : decode cX1_isEarly 31 = .ok (.iload_n 3, 1) := by decide +kernel
theorem dX1_isEarly_32 : decode cX1_isEarly 32 = .ok (.iaload, 1) := by decide +kernel
theorem dX1_isEarly_33 : decode cX1_isEarly 33 = .ok (.if_icmp .gt 7, 3) := by decide +kernel
theorem dX1_isEarly_36 : decode cX1_isEarly 36 = .ok (.iconst 1, 1) := by decide +kernel
theorem dX1_isEarly_37 : decode cX1_isEarly 37 = .ok (.goto 4, 3) := by decide +kernel
theorem dX1_isEarly_40 : decode cX1_isEarly 40 = .ok (.iconst 0, 1) := by decide +kernel
theorem dX1_isEarly_41 : decode cX1_isEarly 41 = .ok (.ireturn, 1) := by decide +kernel
theorem dX1_knotBefore_0 : decode cX1_knotBefore 0 = .ok (.iconst 0, 1) := by decide +kernel
theorem dX1_knotBefore_1 : decode cX1_knotBefore 1 = .ok (.istore_n 2, 1) := by decide +kernel
theorem dX1_knotBefore_2 : decode cX1_knotBefore 2 = .ok (.iload_n 2, 1) := by decide +kernel
theorem dX1_knotBefore_3 : decode cX1_knotBefore 3 = .ok (.aload_n 0, 1) := by decide +kernel
theorem dX1_knotBefore_4 : decode cX1_knotBefore 4 = .ok (.getfield 27, 3) := by decide +kernel
theorem dX1_knotBefore_7 : decode cX1_knotBefore 7 = .ok (.getfield 35, 3) := by decide +kernel
theorem dX1_knotBefore_10 : decode cX1_knotBefore 10 = .ok (.if_icmp .ge 121, 3) := by decide +kernel
theorem dX1_knotBefore_13 : decode cX1_knotBefore 13 = .ok (.aload_n 0, 1) := by decide +kernel
theorem dX1_knotBefore_14 : decode cX1_knotBefore 14 = .ok (.getfield 31, 3) := by decide +kernel
theorem dX1_knotBefore_17 : decode cX1_knotBefore 17 = .ok (.getfield 80, 3) := by decide +kernel
theorem dX1_knotBefore_20 : decode cX1_knotBefore 20 = .ok (.iload_n 2, 1) := by decide +kernel
theorem dX1_knotBefore_21 : decode cX1_knotBefore 21 = .ok (.baload, 1) := by decide +kernel
theorem dX1_knotBefore_22 : decode cX1_knotBefore 22 = .ok (.ifCond .ne 103, 3) := by decide +kernel
theorem dX1_knotBefore_25 : decode cX1_knotBefore 25 = .ok (.aload_n 0, 1) := by decide +kernel
theorem dX1_knotBefore_26 : decode cX1_knotBefore 26 = .ok (.getfield 15, 3) := by decide +kernel
theorem dX1_knotBefore_29 : decode cX1_knotBefore 29 = .ok (.iload_n 2, 1) := by decide +kernel
theorem dX1_knotBefore_30 : decode cX1_knotBefore 30 = .ok (.iaload, 1) := by decide +kernel
theorem dX1_knotBefore_31 : decode cX1_knotBefore 31 = .ok (.aload_n 0, 1) := by decide +kernel
theorem dX1_knotBefore_32 : decode cX1_knotBefore 32 = .ok (.getfield 18, 3) := by decide +kernel
theorem dX1_knotBefore_35 : decode cX1_knotBefore 35 = .ok (.iload_n 1, 1) := by decide +kernel
theorem dX1_knotBefore_36 : decode cX1_knotBefore 36 = .ok (.iaload, 1) := by decide +kernel
theorem dX1_knotBefore_37 : decode cX1_knotBefore 37 = .ok (.if_icmp .gt 6, 3) := by decide +kernel
theorem dX1_knotBefore_40 : decode cX1_knotBefore 40 = .ok (.goto 85, 3) := by decide +kernel
theorem dX1_knotBefore_43 : decode cX1_knotBefore 43 = .ok (.aload_n 0, 1) := by decide +kernel
theorem dX1_knotBefore_44 : decode cX1_knotBefore 44 = .ok (.getfield 27, 3) := by decide +kernel
theorem dX1_knotBefore_47 : decode cX1_knotBefore 47 = .ok (.getfield 87, 3) := by decide +kernel
theorem dX1_knotBefore_50 : decode cX1_knotBefore 50 = .ok (.iload_n 2, 1) := by decide +kernel
theorem dX1_knotBefore_51 : decode cX1_knotBefore 51 = .ok (.iaload, 1) := by decide +kernel
theorem dX1_knotBefore_52 : decode cX1_knotBefore 52 = .ok (.iload_n 1, 1) := by decide +kernel
theorem dX1_knotBefore_53 : decode cX1_knotBefore 53 = .ok (.if_icmp .ne 31, 3) := by decide +kernel
theorem dX1_knotBefore_56 : decode cX1_knotBefore 56 = .ok (.aload_n 0, 1) := by decide +kernel
theorem dX1_knotBefore_57 : decode cX1_knotBefore 57 = .ok (.iload_n 2, 1) := by decide +kernel
theorem dX1_knotBefore_58 : decode cX1_knotBefore 58 = .ok (.aload_n 0, 1) := by decide +kernel
theorem dX1_knotBefore_59 : decode cX1_knotBefore 59 = .ok (.getfield 27, 3) := by decide +kernel
theorem dX1_knotBefore_62 : decode cX1_knotBefore 62 = .ok (.getfield 84, 3) := by decide +kernel
theorem dX1_knotBefore_65 : decode cX1_knotBefore 65 = .ok (.iload_n 2, 1) := by decide +kernel
theorem dX1_knotBefore_66 : decode cX1_knotBefore 66 = .ok (.iaload, 1) := by decide +kernel
theorem dX1_knotBefore_67 : decode cX1_knotBefore 67 = .ok (.iload_n 1, 1) := by decide +kernel
theorem dX1_knotBefore_68 : decode cX1_knotBefore 68 = .ok (.invokevirtual 99, 3) := by decide +kernel
theorem dX1_knotBefore_71 : decode cX1_knotBefore 71 = .ok (.ifCond .eq 13, 3) := by decide +kernel
theorem dX1_knotBefore_74 : decode cX1_knotBefore 74 = .ok (.aload_n 0, 1) := by decide +kernel
theorem dX1_knotBefore_75 : decode cX1_knotBefore 75 = .ok (.getfield 27, 3) := by decide +kernel
theorem dX1_knotBefore_78 : decode cX1_knotBefore 78 = .ok (.getfield 84, 3) := by decide +kernel
theorem dX1_knotBefore_81 : decode cX1_knotBefore 81 = .ok (.iload_n 2, 1) := by decide +kernel
theorem dX1_knotBefore_82 : decode cX1_knotBefore 82 = .ok (.iaload, 1) := by decide +kernel
theorem dX1_knotBefore_83 : decode cX1_knotBefore 83 = .ok (.ireturn, 1) := by decide +kernel
theorem dX1_knotBefore_84 : decode cX1_knotBefore 84 = .ok (.aload_n 0, 1) := by decide +kernel
theorem dX1_knotBefore_85 : decode cX1_knotBefore 85 = .ok (.getfield 27, 3) := by decide +kernel
theorem dX1_knotBefore_88 : decode cX1_knotBefore 88 = .ok (.getfield 84, 3) := by decide +kernel
theorem dX1_knotBefore_91 : decode cX1_knotBefore 91 = .ok (.iload_n 2, 1) := by decide +kernel
theorem dX1_knotBefore_92 : decode cX1_knotBefore 92 = .ok (.iaload, 1) := by decide +kernel
theorem dX1_knotBefore_93 : decode cX1_knotBefore 93 = .ok (.iload_n 1, 1) := by decide +kernel
theorem dX1_knotBefore_94 : decode cX1_knotBefore 94 = .ok (.if_icmp .ne 31, 3) := by decide +kernel
theorem dX1_knotBefore_97 : decode cX1_knotBefore 97 = .ok (.aload_n 0, 1) := by decide +kernel
theorem dX1_knotBefore_98 : decode cX1_knotBefore 98 = .ok (.iload_n 2, 1) := by decide +kernel
theorem dX1_knotBefore_99 : decode cX1_knotBefore 99 = .ok (.aload_n 0, 1) := by decide +kernel
theorem dX1_knotBefore_100 : decode cX1_knotBefore 100 = .ok (.getfield 27, 3) := by decide +kernel
theorem dX1_knotBefore_103 : decode cX1_knotBefore 103 = .ok (.getfield 87, 3) := by decide +kernel
theorem dX1_knotBefore_106 : decode cX1_knotBefore 106 = .ok (.iload_n 2, 1) := by decide +kernel
theorem dX1_knotBefore_107 : decode cX1_knotBefore 107 = .ok (.iaload, 1) := by decide +kernel
theorem dX1_knotBefore_108 : decode cX1_knotBefore 108 = .ok (.iload_n 1, 1) := by decide +kernel
theorem dX1_knotBefore_109 : decode cX1_knotBefore 109 = .ok (.invokevirtual 99, 3) := by decide +kernel
theorem dX1_knotBefore_112 : decode cX1_knotBefore 112 = .ok (.ifCond .eq 13, 3) := by decide +kernel
theorem dX1_knotBefore_115 : decode cX1_knotBefore 115 = .ok (.aload_n 0, 1) := by decide +kernel
theorem dX1_knotBefore_116 : decode cX1_knotBefore 116 = .ok (.getfield 27, 3) := by decide +kernel
theorem dX1_knotBefore_119 : decode cX1_knotBefore 119 = .ok (.getfield 87, 3) := by decide +kernel
theorem dX1_knotBefore_122 : decode cX1_knotBefore 122 = .ok (.iload_n 2, 1) := by decide +kernel
theorem dX1_knotBefore_123 : decode cX1_knotBefore 123 = .ok (.iaload, 1) := by decide +kernel
theorem dX1_knotBefore_124 : decode cX1_knotBefore 124 = .ok (.ireturn, 1) := by decide +kernel
theorem dX1_knotBefore_125 : decode cX1_knotBefore 125 = .ok (.iinc 2 1, 3) := by decide +kernel
theorem dX1_knotBefore_128 : decode cX1_knotBefore 128 = .ok (.goto (-126), 3) := by decide +kernel
theorem dX1_knotBefore_131 : decode cX1_knotBefore 131 = .ok (.iconst (-1), 1) := by decide +kernel
theorem dX1_knotBefore_132 : decode cX1_knotBefore 132 = .ok (.ireturn, 1) := by decide +kernel
theorem dX1_source_0 : decode cX1_source 0 = .ok (.iconst 0, 1) := by decide +kernel
theorem dX1_source_1 : decode cX1_source 1 = .ok (.istore_n 1, 1) := by decide +kernel
theorem dX1_source_2 : decode cX1_source 2 = .ok (.iload_n 1, 1) := by decide +kernel
theorem dX1_source_3 : decode cX1_source 3 = .ok (.aload_n 0, 1) := by decide +kernel
theorem dX1_source_4 : decode cX1_source 4 = .ok (.getfield 27, 3) := by decide +kernel
theorem dX1_source_7 : decode cX1_source 7 = .ok (.getfield 35, 3) := by decide +kernel
theorem dX1_source_10 : decode cX1_source 10 = .ok (.if_icmp .ge 23, 3) := by decide +kernel
theorem dX1_source_13 : decode cX1_source 13 = .ok (.aload_n 0, 1) := by decide +kernel
theorem dX1_source_14 : decode cX1_source 14 = .ok (.getfield 31, 3) := by decide +kernel
theorem dX1_source_17 : decode cX1_source 17 = .ok (.getfield 41, 3) := by decide +kernel
theorem dX1_source_20 : decode cX1_source 20 = .ok (.iload_n 1, 1) := by decide +kernel
theorem dX1_source_21 : decode cX1_source 21 = .ok (.iaload, 1) := by decide +kernel
theorem dX1_source_22 : decode cX1_source 22 = .ok (.ifCond .eq 5, 3) := by decide +kernel
theorem dX1_source_25 : decode cX1_source 25 = .ok (.iload_n 1, 1) := by decide +kernel
theorem dX1_source_26 : decode cX1_source 26 = .ok (.ireturn, 1) := by decide +kernel
theorem dX1_source_27 : decode cX1_source 27 = .ok (.iinc 1 1, 3) := by decide +kernel
theorem dX1_source_30 : decode cX1_source 30 = .ok (.goto (-28), 3) := by decide +kernel
theorem dX1_source_33 : decode cX1_source 33 = .ok (.iconst (-1), 1) := by decide +kernel
theorem dX1_source_34 : decode cX1_source 34 = .ok (.ireturn, 1) := by decide +kernel
theorem dX1_spread_0 : decode cX1_spread 0 = .ok (.aload_n 0, 1) := by decide +kernel
theorem dX1_spread_1 : decode cX1_spread 1 = .ok (.getfield 15, 3) := by decide +kernel
theorem dX1_spread_4 : decode cX1_spread 4 = .ok (.ldc 46, 2) := by decide +kernel
theorem dX1_spread_6 : decode cX1_spread 6 = .ok (.invokestatic 47, 3) := by decide +kernel
theorem dX1_spread_9 : decode cX1_spread 9 = .ok (.aload_n 0, 1) := by decide +kernel
theorem dX1_spread_10 : decode cX1_spread 10 = .ok (.getfield 24, 3) := by decide +kernel
theorem dX1_spread_13 : decode cX1_spread 13 = .ok (.ldc 46, 2) := by decide +kernel
theorem dX1_spread_15 : decode cX1_spread 15 = .ok (.invokestatic 47, 3) := by decide +kernel
theorem dX1_spread_18 : decode cX1_spread 18 = .ok (.aload_n 0, 1) := by decide +kernel
theorem dX1_spread_19 : decode cX1_spread 19 = .ok (.invokevirtual 53, 3) := by decide +kernel
theorem dX1_spread_22 : decode cX1_spread 22 = .ok (.istore_n 2, 1) := by decide +kernel
theorem dX1_spread_23 : decode cX1_spread 23 = .ok (.iload_n 2, 1) := by decide +kernel
theorem dX1_spread_24 : decode cX1_spread 24 = .ok (.iconst (-1), 1) := by decide +kernel
theorem dX1_spread_25 : decode cX1_spread 25 = .ok (.if_icmp .ne 4, 3) := by decide +kernel
theorem dX1_spread_28 : decode cX1_spread 28 = .ok (.return_, 1) := by decide +kernel
theorem dX1_spread_29 : decode cX1_spread 29 = .ok (.aload_n 0, 1) := by decide +kernel
theorem dX1_spread_30 : decode cX1_spread 30 = .ok (.getfield 15, 3) := by decide +kernel
theorem dX1_spread_33 : decode cX1_spread 33 = .ok (.iload_n 2, 1) := by decide +kernel
theorem dX1_spread_34 : decode cX1_spread 34 = .ok (.iconst 0, 1) := by decide +kernel
theorem dX1_spread_35 : decode cX1_spread 35 = .ok (.iastore, 1) := by decide +kernel
theorem dX1_spread_36 : decode cX1_spread 36 = .ok (.iconst 1, 1) := by decide +kernel
theorem dX1_spread_37 : decode cX1_spread 37 = .ok (.istore_n 3, 1) := by decide +kernel
theorem dX1_spread_38 : decode cX1_spread 38 = .ok (.iconst 0, 1) := by decide +kernel
theorem dX1_spread_39 : decode cX1_spread 39 = .ok (.istore 4, 2) := by decide +kernel
theorem dX1_spread_41 : decode cX1_spread 41 = .ok (.iload 4, 2) := by decide +kernel
theorem dX1_spread_43 : decode cX1_spread 43 = .ok (.bipush 14, 2) := by decide +kernel
theorem dX1_spread_45 : decode cX1_spread 45 = .ok (.if_icmp .gt 58, 3) := by decide +kernel
theorem dX1_spread_48 : decode cX1_spread 48 = .ok (.iload_n 3, 1) := by decide +kernel
theorem dX1_spread_49 : decode cX1_spread 49 = .ok (.ifCond .eq 54, 3) := by decide +kernel
theorem dX1_spread_52 : decode cX1_spread 52 = .ok (.iconst 0, 1) := by decide +kernel
theorem dX1_spread_53 : decode cX1_spread 53 = .ok (.istore_n 3, 1) := by decide +kernel
theorem dX1_spread_54 : decode cX1_spread 54 = .ok (.iconst 0, 1) := by decide +kernel
theorem dX1_spread_55 : decode cX1_spread 55 = .ok (.istore 5, 2) := by decide +kernel
theorem dX1_spread_57 : decode cX1_spread 57 = .ok (.iload 5, 2) := by decide +kernel
theorem dX1_spread_59 : decode cX1_spread 59 = .ok (.aload_n 0, 1) := by decide +kernel
theorem dX1_spread_60 : decode cX1_spread 60 = .ok (.getfield 27, 3) := by decide +kernel
theorem dX1_spread_63 : decode cX1_spread 63 = .ok (.getfield 35, 3) := by decide +kernel
theorem dX1_spread_66 : decode cX1_spread 66 = .ok (.if_icmp .ge 31, 3) := by decide +kernel
theorem dX1_spread_69 : decode cX1_spread 69 = .ok (.aload_n 1, 1) := by decide +kernel
theorem dX1_spread_70 : decode cX1_spread 70 = .ok (.iload 5, 2) := by decide +kernel
theorem dX1_spread_72 : decode cX1_spread 72 = .ok (.iaload, 1) := by decide +kernel
theorem dX1_spread_73 : decode cX1_spread 73 = .ok (.ifCond .eq 18, 3) := by decide +kernel
theorem dX1_spread_76 : decode cX1_spread 76 = .ok (.aload_n 0, 1) := by decide +kernel
theorem dX1_spread_77 : decode cX1_spread 77 = .ok (.iload 5, 2) := by decide +kernel
theorem dX1_spread_79 : decode cX1_spread 79 = .ok (.aload_n 1, 1) := by decide +kernel
theorem dX1_spread_80 : decode cX1_spread 80 = .ok (.iload 5, 2) := by decide +kernel
theorem dX1_spread_82 : decode cX1_spread 82 = .ok (.iaload, 1) := by decide +kernel
theorem dX1_spread_83 : decode cX1_spread 83 = .ok (.invokevirtual 57, 3) := by decide +kernel
theorem dX1_spread_86 : decode cX1_spread 86 = .ok (.ifCond .eq 5, 3) := by decide +kernel
theorem dX1_spread_89 : decode cX1_spread 89 = .ok (.iconst 1, 1) := by decide +kernel
theorem dX1_spread_90 : decode cX1_spread 90 = .ok (.istore_n 3, 1) := by decide +kernel
theorem dX1_spread_91 : decode cX1_spread 91 = .ok (.iinc 5 1, 3) := by decide +kernel
theorem dX1_spread_94 : decode cX1_spread 94 = .ok (.goto (-37), 3) := by decide +kernel
theorem dX1_spread_97 : decode cX1_spread 97 = .ok (.iinc 4 1, 3) := by decide +kernel
theorem dX1_spread_100 : decode cX1_spread 100 = .ok (.goto (-59), 3) := by decide +kernel
theorem dX1_spread_103 : decode cX1_spread 103 = .ok (.return_, 1) := by decide +kernel
theorem dX1_traceBack_0 : decode cX1_traceBack 0 = .ok (.iconst 0, 1) := by decide +kernel
theorem dX1_traceBack_1 : decode cX1_traceBack 1 = .ok (.istore_n 2, 1) := by decide +kernel
theorem dX1_traceBack_2 : decode cX1_traceBack 2 = .ok (.aload_n 0, 1) := by decide +kernel
theorem dX1_traceBack_3 : decode cX1_traceBack 3 = .ok (.getfield 21, 3) := by decide +kernel
theorem dX1_traceBack_6 : decode cX1_traceBack 6 = .ok (.iconst 0, 1) := by decide +kernel
theorem dX1_traceBack_7 : decode cX1_traceBack 7 = .ok (.aload_n 0, 1) := by decide +kernel
theorem dX1_traceBack_8 : decode cX1_traceBack 8 = .ok (.getfield 27, 3) := by decide +kernel
theorem dX1_traceBack_11 : decode cX1_traceBack 11 = .ok (.getfield 68, 3) := by decide +kernel
theorem dX1_traceBack_14 : decode cX1_traceBack 14 = .ok (.iastore, 1) := by decide +kernel
theorem dX1_traceBack_15 : decode cX1_traceBack 15 = .ok (.iconst 0, 1) := by decide +kernel
theorem dX1_traceBack_16 : decode cX1_traceBack 16 = .ok (.istore_n 3, 1) := by decide +kernel
theorem dX1_traceBack_17 : decode cX1_traceBack 17 = .ok (.iload_n 3, 1) := by decide +kernel
theorem dX1_traceBack_18 : decode cX1_traceBack 18 = .ok (.bipush 10, 2) := by decide +kernel
theorem dX1_traceBack_20 : decode cX1_traceBack 20 = .ok (.if_icmp .ge 50, 3) := by decide +kernel
theorem dX1_traceBack_23 : decode cX1_traceBack 23 = .ok (.aload_n 0, 1) := by decide +kernel
theorem dX1_traceBack_24 : decode cX1_traceBack 24 = .ok (.getfield 21, 3) := by decide +kernel
theorem dX1_traceBack_27 : decode cX1_traceBack 27 = .ok (.iload_n 2, 1) := by decide +kernel
theorem dX1_traceBack_28 : decode cX1_traceBack 28 = .ok (.iaload, 1) := by decide +kernel
theorem dX1_traceBack_29 : decode cX1_traceBack 29 = .ok (.iload_n 1, 1) := by decide +kernel
theorem dX1_traceBack_30 : decode cX1_traceBack 30 = .ok (.if_icmp .eq 40, 3) := by decide +kernel
theorem dX1_traceBack_33 : decode cX1_traceBack 33 = .ok (.aload_n 0, 1) := by decide +kernel
theorem dX1_traceBack_34 : decode cX1_traceBack 34 = .ok (.aload_n 0, 1) := by decide +kernel
theorem dX1_traceBack_35 : decode cX1_traceBack 35 = .ok (.getfield 21, 3) := by decide +kernel
theorem dX1_traceBack_38 : decode cX1_traceBack 38 = .ok (.iload_n 2, 1) := by decide +kernel
theorem dX1_traceBack_39 : decode cX1_traceBack 39 = .ok (.iaload, 1) := by decide +kernel
theorem dX1_traceBack_40 : decode cX1_traceBack 40 = .ok (.invokevirtual 96, 3) := by decide +kernel
theorem dX1_traceBack_43 : decode cX1_traceBack 43 = .ok (.istore 4, 2) := by decide +kernel
theorem dX1_traceBack_45 : decode cX1_traceBack 45 = .ok (.iload 4, 2) := by decide +kernel
theorem dX1_traceBack_47 : decode cX1_traceBack 47 = .ok (.iconst (-1), 1) := by decide +kernel
theorem dX1_traceBack_48 : decode cX1_traceBack 48 = .ok (.if_icmp .ne 5, 3) := by decide +kernel
theorem dX1_traceBack_51 : decode cX1_traceBack 51 = .ok (.iload_n 2, 1) := by decide +kernel
theorem dX1_traceBack_52 : decode cX1_traceBack 52 = .ok (.ireturn, 1) := by decide +kernel
theorem dX1_traceBack_53 : decode cX1_traceBack 53 = .ok (.iinc 2 1, 3) := by decide +kernel
theorem dX1_traceBack_56 : decode cX1_traceBack 56 = .ok (.aload_n 0, 1) := by decide +kernel
theorem dX1_traceBack_57 : decode cX1_traceBack 57 = .ok (.getfield 21, 3) := by decide +kernel
theorem dX1_traceBack_60 : decode cX1_traceBack 60 = .ok (.iload_n 2, 1) := by decide +kernel
theorem dX1_traceBack_61 : decode cX1_traceBack 61 = .ok (.iload 4, 2) := by decide +kernel
theorem dX1_traceBack_63 : decode cX1_traceBack 63 = .ok (.iastore, 1) := by decide +kernel
theorem dX1_traceBack_64 : decode cX1_traceBack 64 = .ok (.iinc 3 1, 3) := by decide +kernel
theorem dX1_traceBack_67 : decode cX1_traceBack 67 = .ok (.goto (-50), 3) := by decide +kernel
theorem dX1_traceBack_70 : decode cX1_traceBack 70 = .ok (.iload_n 2, 1) := by decide +kernel
theorem dX1_traceBack_71 : decode cX1_traceBack 71 = .ok (.ireturn, 1) := by decide +kernel
theorem dX1_walk_0 : decode cX1_walk 0 = .ok (.aload_n 0, 1) := by decide +kernel
theorem dX1_walk_1 : decode cX1_walk 1 = .ok (.getfield 18, 3) := by decide +kernel
theorem dX1_walk_4 : decode cX1_walk 4 = .ok (.iload_n 2, 1) := by decide +kernel
theorem dX1_walk_5 : decode cX1_walk 5 = .ok (.iaload, 1) := by decide +kernel
theorem dX1_walk_6 : decode cX1_walk 6 = .ok (.ldc 46, 2) := by decide +kernel
theorem dX1_walk_8 : decode cX1_walk 8 = .ok (.if_icmp .ne 5, 3) := by decide +kernel
theorem dX1_walk_11 : decode cX1_walk 11 = .ok (.iconst 0, 1) := by decide +kernel
theorem dX1_walk_12 : decode cX1_walk 12 = .ok (.ireturn, 1) := by decide +kernel
theorem dX1_walk_13 : decode cX1_walk 13 = .ok (.aload_n 0, 1) := by decide +kernel
theorem dX1_walk_14 : decode cX1_walk 14 = .ok (.getfield 18, 3) := by decide +kernel
theorem dX1_walk_17 : decode cX1_walk 17 = .ok (.iload_n 2, 1) := by decide +kernel
theorem dX1_walk_18 : decode cX1_walk 18 = .ok (.iaload, 1) := by decide +kernel
theorem dX1_walk_19 : decode cX1_walk 19 = .ok (.aload_n 0, 1) := by decide +kernel
theorem dX1_walk_20 : decode cX1_walk 20 = .ok (.getfield 27, 3) := by decide +kernel
theorem dX1_walk_23 : decode cX1_walk 23 = .ok (.getfield 94, 3) := by decide +kernel
theorem dX1_walk_26 : decode cX1_walk 26 = .ok (.iload_n 1, 1) := by decide +kernel
theorem dX1_walk_27 : decode cX1_walk 27 = .ok (.iaload, 1) := by decide +kernel
theorem dX1_walk_28 : decode cX1_walk 28 = .ok (.iadd, 1) := by decide +kernel
theorem dX1_walk_29 : decode cX1_walk 29 = .ok (.istore 4, 2) := by decide +kernel
theorem dX1_walk_31 : decode cX1_walk 31 = .ok (.iload 4, 2) := by decide +kernel
theorem dX1_walk_33 : decode cX1_walk 33 = .ok (.aload_n 0, 1) := by decide +kernel
theorem dX1_walk_34 : decode cX1_walk 34 = .ok (.getfield 18, 3) := by decide +kernel
theorem dX1_walk_37 : decode cX1_walk 37 = .ok (.iload_n 3, 1) := by decide +kernel
theorem dX1_walk_38 : decode cX1_walk 38 = .ok (.iaload, 1) := by decide +kernel
theorem dX1_walk_39 : decode cX1_walk 39 = .ok (.if_icmp .ge 14, 3) := by decide +kernel
theorem dX1_walk_42 : decode cX1_walk 42 = .ok (.aload_n 0, 1) := by decide +kernel
theorem dX1_walk_43 : decode cX1_walk 43 = .ok (.getfield 15, 3) := by decide +kernel
theorem dX1_walk_46 : decode cX1_walk 46 = .ok (.iload_n 1, 1) := by decide +kernel
theorem dX1_walk_47 : decode cX1_walk 47 = .ok (.iaload, 1) := by decide +kernel
theorem dX1_walk_48 : decode cX1_walk 48 = .ok (.iload 4, 2) := by decide +kernel
theorem dX1_walk_50 : decode cX1_walk 50 = .ok (.if_icmp .gt 5, 3) := by decide +kernel
theorem dX1_walk_53 : decode cX1_walk 53 = .ok (.iconst 0, 1) := by decide +kernel
theorem dX1_walk_54 : decode cX1_walk 54 = .ok (.ireturn, 1) := by decide +kernel
theorem dX1_walk_55 : decode cX1_walk 55 = .ok (.aload_n 0, 1) := by decide +kernel
theorem dX1_walk_56 : decode cX1_walk 56 = .ok (.getfield 18, 3) := by decide +kernel
theorem dX1_walk_59 : decode cX1_walk 59 = .ok (.iload_n 3, 1) := by decide +kernel
theorem dX1_walk_60 : decode cX1_walk 60 = .ok (.iload 4, 2) := by decide +kernel
theorem dX1_walk_62 : decode cX1_walk 62 = .ok (.iastore, 1) := by decide +kernel
theorem dX1_walk_63 : decode cX1_walk 63 = .ok (.iconst 1, 1) := by decide +kernel
theorem dX1_walk_64 : decode cX1_walk 64 = .ok (.ireturn, 1) := by decide +kernel
theorem dX1_walkFrom_0 : decode cX1_walkFrom 0 = .ok (.aload_n 0, 1) := by decide +kernel
theorem dX1_walkFrom_1 : decode cX1_walkFrom 1 = .ok (.getfield 18, 3) := by decide +kernel
theorem dX1_walkFrom_4 : decode cX1_walkFrom 4 = .ok (.ldc 46, 2) := by decide +kernel
theorem dX1_walkFrom_6 : decode cX1_walkFrom 6 = .ok (.invokestatic 47, 3) := by decide +kernel
theorem dX1_walkFrom_9 : decode cX1_walkFrom 9 = .ok (.aload_n 0, 1) := by decide +kernel
theorem dX1_walkFrom_10 : decode cX1_walkFrom 10 = .ok (.getfield 18, 3) := by decide +kernel
theorem dX1_walkFrom_13 : decode cX1_walkFrom 13 = .ok (.iload_n 1, 1) := by decide +kernel
theorem dX1_walkFrom_14 : decode cX1_walkFrom 14 = .ok (.iconst 0, 1) := by decide +kernel
theorem dX1_walkFrom_15 : decode cX1_walkFrom 15 = .ok (.iastore, 1) := by decide +kernel
theorem dX1_walkFrom_16 : decode cX1_walkFrom 16 = .ok (.iconst 1, 1) := by decide +kernel
theorem dX1_walkFrom_17 : decode cX1_walkFrom 17 = .ok (.istore_n 2, 1) := by decide +kernel
theorem dX1_walkFrom_18 : decode cX1_walkFrom 18 = .ok (.iconst 0, 1) := by decide +kernel
theorem dX1_walkFrom_19 : decode cX1_walkFrom 19 = .ok (.istore_n 3, 1) := by decide +kernel
theorem dX1_walkFrom_20 : decode cX1_walkFrom 20 = .ok (.iload_n 3, 1) := by decide +kernel
theorem dX1_walkFrom_21 : decode cX1_walkFrom 21 = .ok (.bipush 10, 2) := by decide +kernel
theorem dX1_walkFrom_23 : decode cX1_walkFrom 23 = .ok (.if_icmp .gt 114, 3) := by decide +kernel
theorem dX1_walkFrom_26 : decode cX1_walkFrom 26 = .ok (.iload_n 2, 1) := by decide +kernel
theorem dX1_walkFrom_27 : decode cX1_walkFrom 27 = .ok (.ifCond .eq 110, 3) := by decide +kernel
theorem dX1_walkFrom_30 : decode cX1_walkFrom 30 = .ok (.iconst 0, 1) := by decide +kernel
theorem dX1_walkFrom_31 : decode cX1_walkFrom 31 = .ok (.istore_n 2, 1) := by decide +kernel
theorem dX1_walkFrom_32 : decode cX1_walkFrom 32 = .ok (.iconst 0, 1) := by decide +kernel
theorem dX1_walkFrom_33 : decode cX1_walkFrom 33 = .ok (.istore 4, 2) := by decide +kernel
theorem dX1_walkFrom_35 : decode cX1_walkFrom 35 = .ok (.iload 4, 2) := by decide +kernel
theorem dX1_walkFrom_37 : decode cX1_walkFrom 37 = .ok (.aload_n 0, 1) := by decide +kernel
theorem dX1_walkFrom_38 : decode cX1_walkFrom 38 = .ok (.getfield 27, 3) := by decide +kernel
theorem dX1_walkFrom_41 : decode cX1_walkFrom 41 = .ok (.getfield 35, 3) := by decide +kernel
theorem dX1_walkFrom_44 : decode cX1_walkFrom 44 = .ok (.if_icmp .ge 87, 3) := by decide +kernel
theorem dX1_walkFrom_47 : decode cX1_walkFrom 47 = .ok (.aload_n 0, 1) := by decide +kernel
theorem dX1_walkFrom_48 : decode cX1_walkFrom 48 = .ok (.getfield 31, 3) := by decide +kernel
theorem dX1_walkFrom_51 : decode cX1_walkFrom 51 = .ok (.getfield 80, 3) := by decide +kernel
theorem dX1_walkFrom_54 : decode cX1_walkFrom 54 = .ok (.iload 4, 2) := by decide +kernel
theorem dX1_walkFrom_56 : decode cX1_walkFrom 56 = .ok (.baload, 1) := by decide +kernel
theorem dX1_walkFrom_57 : decode cX1_walkFrom 57 = .ok (.ifCond .eq 6, 3) := by decide +kernel
theorem dX1_walkFrom_60 : decode cX1_walkFrom 60 = .ok (.goto 65, 3) := by decide +kernel
theorem dX1_walkFrom_63 : decode cX1_walkFrom 63 = .ok (.aload_n 0, 1) := by decide +kernel
theorem dX1_walkFrom_64 : decode cX1_walkFrom 64 = .ok (.iload 4, 2) := by decide +kernel
theorem dX1_walkFrom_66 : decode cX1_walkFrom 66 = .ok (.aload_n 0, 1) := by decide +kernel
theorem dX1_walkFrom_67 : decode cX1_walkFrom 67 = .ok (.getfield 27, 3) := by decide +kernel
theorem dX1_walkFrom_70 : decode cX1_walkFrom 70 = .ok (.getfield 84, 3) := by decide +kernel
theorem dX1_walkFrom_73 : decode cX1_walkFrom 73 = .ok (.iload 4, 2) := by decide +kernel
theorem dX1_walkFrom_75 : decode cX1_walkFrom 75 = .ok (.iaload, 1) := by decide +kernel
theorem dX1_walkFrom_76 : decode cX1_walkFrom 76 = .ok (.aload_n 0, 1) := by decide +kernel
theorem dX1_walkFrom_77 : decode cX1_walkFrom 77 = .ok (.getfield 27, 3) := by decide +kernel
theorem dX1_walkFrom_80 : decode cX1_walkFrom 80 = .ok (.getfield 87, 3) := by decide +kernel
theorem dX1_walkFrom_83 : decode cX1_walkFrom 83 = .ok (.iload 4, 2) := by decide +kernel
theorem dX1_walkFrom_85 : decode cX1_walkFrom 85 = .ok (.iaload, 1) := by decide +kernel
theorem dX1_walkFrom_86 : decode cX1_walkFrom 86 = .ok (.invokevirtual 90, 3) := by decide +kernel
theorem dX1_walkFrom_89 : decode cX1_walkFrom 89 = .ok (.ifCond .eq 5, 3) := by decide +kernel
theorem dX1_walkFrom_92 : decode cX1_walkFrom 92 = .ok (.iconst 1, 1) := by decide +kernel
theorem dX1_walkFrom_93 : decode cX1_walkFrom 93 = .ok (.istore_n 2, 1) := by decide +kernel
theorem dX1_walkFrom_94 : decode cX1_walkFrom 94 = .ok (.aload_n 0, 1) := by decide +kernel
theorem dX1_walkFrom_95 : decode cX1_walkFrom 95 = .ok (.iload 4, 2) := by decide +kernel
theorem dX1_walkFrom_97 : decode cX1_walkFrom 97 = .ok (.aload_n 0, 1) := by decide +kernel
theorem dX1_walkFrom_98 : decode cX1_walkFrom 98 = .ok (.getfield 27, 3) := by decide +kernel
theorem dX1_walkFrom_101 : decode cX1_walkFrom 101 = .ok (.getfield 87, 3) := by decide +kernel
theorem dX1_walkFrom_104 : decode cX1_walkFrom 104 = .ok (.iload 4, 2) := by decide +kernel
theorem dX1_walkFrom_106 : decode cX1_walkFrom 106 = .ok (.iaload, 1) := by decide +kernel
theorem dX1_walkFrom_107 : decode cX1_walkFrom 107 = .ok (.aload_n 0, 1) := by decide +kernel
theorem dX1_walkFrom_108 : decode cX1_walkFrom 108 = .ok (.getfield 27, 3) := by decide +kernel
theorem dX1_walkFrom_111 : decode cX1_walkFrom 111 = .ok (.getfield 84, 3) := by decide +kernel
theorem dX1_walkFrom_114 : decode cX1_walkFrom 114 = .ok (.iload 4, 2) := by decide +kernel
theorem dX1_walkFrom_116 : decode cX1_walkFrom 116 = .ok (.iaload, 1) := by decide +kernel
theorem dX1_walkFrom_117 : decode cX1_walkFrom 117 = .ok (.invokevirtual 90, 3) := by decide +kernel
theorem dX1_walkFrom_120 : decode cX1_walkFrom 120 = .ok (.ifCond .eq 5, 3) := by decide +kernel
theorem dX1_walkFrom_123 : decode cX1_walkFrom 123 = .ok (.iconst 1, 1) := by decide +kernel
theorem dX1_walkFrom_124 : decode cX1_walkFrom 124 = .ok (.istore_n 2, 1) := by decide +kernel
theorem dX1_walkFrom_125 : decode cX1_walkFrom 125 = .ok (.iinc 4 1, 3) := by decide +kernel
theorem dX1_walkFrom_128 : decode cX1_walkFrom 128 = .ok (.goto (-93), 3) := by decide +kernel
theorem dX1_walkFrom_131 : decode cX1_walkFrom 131 = .ok (.iinc 3 1, 3) := by decide +kernel
theorem dX1_walkFrom_134 : decode cX1_walkFrom 134 = .ok (.goto (-114), 3) := by decide +kernel
theorem dX1_walkFrom_137 : decode cX1_walkFrom 137 = .ok (.return_, 1) := by decide +kernel
theorem dX8_add_0 : decode cX8_add 0 = .ok (.aload_n 0, 1) := by decide +kernel
theorem dX8_add_1 : decode cX8_add 1 = .ok (.getfield 9, 3) := by decide +kernel
theorem dX8_add_4 : decode cX8_add 4 = .ok (.aload_n 0, 1) := by decide +kernel
theorem dX8_add_5 : decode cX8_add 5 = .ok (.getfield 21, 3) := by decide +kernel
theorem dX8_add_8 : decode cX8_add 8 = .ok (.iload_n 1, 1) := by decide +kernel
theorem dX8_add_9 : decode cX8_add 9 = .ok (.iastore, 1) := by decide +kernel
theorem dX8_add_10 : decode cX8_add 10 = .ok (.aload_n 0, 1) := by decide +kernel
theorem dX8_add_11 : decode cX8_add 11 = .ok (.getfield 15, 3) := by decide +kernel
theorem dX8_add_14 : decode cX8_add 14 = .ok (.aload_n 0, 1) := by decide +kernel
theorem dX8_add_15 : decode cX8_add 15 = .ok (.getfield 21, 3) := by decide +kernel
theorem dX8_add_18 : decode cX8_add 18 = .ok (.iload_n 2, 1) := by decide +kernel
theorem dX8_add_19 : decode cX8_add 19 = .ok (.iastore, 1) := by decide +kernel
theorem dX8_add_20 : decode cX8_add 20 = .ok (.aload_n 0, 1) := by decide +kernel
theorem dX8_add_21 : decode cX8_add 21 = .ok (.getfield 18, 3) := by decide +kernel
theorem dX8_add_24 : decode cX8_add 24 = .ok (.aload_n 0, 1) := by decide +kernel
theorem dX8_add_25 : decode cX8_add 25 = .ok (.getfield 21, 3) := by decide +kernel
theorem dX8_add_28 : decode cX8_add 28 = .ok (.iload_n 3, 1) := by decide +kernel
theorem dX8_add_29 : decode cX8_add 29 = .ok (.iastore, 1) := by decide +kernel
theorem dX8_add_30 : decode cX8_add 30 = .ok (.aload_n 0, 1) := by decide +kernel
theorem dX8_add_31 : decode cX8_add 31 = .ok (.dup, 1) := by decide +kernel
theorem dX8_add_32 : decode cX8_add 32 = .ok (.getfield 21, 3) := by decide +kernel
theorem dX8_add_35 : decode cX8_add 35 = .ok (.iconst 1, 1) := by decide +kernel
theorem dX8_add_36 : decode cX8_add 36 = .ok (.iadd, 1) := by decide +kernel
theorem dX8_add_37 : decode cX8_add 37 = .ok (.putfield 21, 3) := by decide +kernel
theorem dX8_add_40 : decode cX8_add 40 = .ok (.return_, 1) := by decide +kernel
theorem dX8_hold_0 : decode cX8_hold 0 = .ok (.iconst 0, 1) := by decide +kernel
theorem dX8_hold_1 : decode cX8_hold 1 = .ok (.istore_n 2, 1) := by decide +kernel
theorem dX8_hold_2 : decode cX8_hold 2 = .ok (.iload_n 2, 1) := by decide +kernel
theorem dX8_hold_3 : decode cX8_hold 3 = .ok (.aload_n 0, 1) := by decide +kernel
theorem dX8_hold_4 : decode cX8_hold 4 = .ok (.getfield 21, 3) := by decide +kernel
theorem dX8_hold_7 : decode cX8_hold 7 = .ok (.if_icmp .ge 40, 3) := by decide +kernel
theorem dX8_hold_10 : decode cX8_hold 10 = .ok (.aload_n 1, 1) := by decide +kernel
theorem dX8_hold_11 : decode cX8_hold 11 = .ok (.aload_n 0, 1) := by decide +kernel
theorem dX8_hold_12 : decode cX8_hold 12 = .ok (.getfield 9, 3) := by decide +kernel
theorem dX8_hold_15 : decode cX8_hold 15 = .ok (.iload_n 2, 1) := by decide +kernel
theorem dX8_hold_16 : decode cX8_hold 16 = .ok (.iaload, 1) := by decide +kernel
theorem dX8_hold_17 : decode cX8_hold 17 = .ok (.iaload, 1) := by decide +kernel
theorem dX8_hold_18 : decode cX8_hold 18 = .ok (.istore_n 3, 1) := by decide +kernel
theorem dX8_hold_19 : decode cX8_hold 19 = .ok (.iload_n 3, 1) := by decide +kernel
theorem dX8_hold_20 : decode cX8_hold 20 = .ok (.aload_n 0, 1) := by decide +kernel
theorem dX8_hold_21 : decode cX8_hold 21 = .ok (.getfield 15, 3) := by decide +kernel
theorem dX8_hold_24 : decode cX8_hold 24 = .ok (.iload_n 2, 1) := by decide +kernel
theorem dX8_hold_25 : decode cX8_hold 25 = .ok (.iaload, 1) := by decide +kernel
theorem dX8_hold_26 : decode cX8_hold 26 = .ok (.if_icmp .lt 13, 3) := by decide +kernel
theorem dX8_hold_29 : decode cX8_hold 29 = .ok (.iload_n 3, 1) := by decide +kernel
theorem dX8_hold_30 : decode cX8_hold 30 = .ok (.aload_n 0, 1) := by decide +kernel
theorem dX8_hold_31 : decode cX8_hold 31 = .ok (.getfield 18, 3) := by decide +kernel
theorem dX8_hold_34 : decode cX8_hold 34 = .ok (.iload_n 2, 1) := by decide +kernel
theorem dX8_hold_35 : decode cX8_hold 35 = .ok (.iaload, 1) := by decide +kernel
theorem dX8_hold_36 : decode cX8_hold 36 = .ok (.if_icmp .le 5, 3) := by decide +kernel
theorem dX8_hold_39 : decode cX8_hold 39 = .ok (.iconst 0, 1) := by decide +kernel
theorem dX8_hold_40 : decode cX8_hold 40 = .ok (.ireturn, 1) := by decide +kernel
theorem dX8_hold_41 : decode cX8_hold 41 = .ok (.iinc 2 1, 3) := by decide +kernel
theorem dX8_hold_44 : decode cX8_hold 44 = .ok (.goto (-42), 3) := by decide +kernel
theorem dX8_hold_47 : decode cX8_hold 47 = .ok (.iconst 1, 1) := by decide +kernel
theorem dX8_hold_48 : decode cX8_hold 48 = .ok (.ireturn, 1) := by decide +kernel
set_option maxHeartbeats 4000000 in
set_option maxRecDepth 100000 in
theorem c8_add (l : Launch) (dC : Nat → ClassId) (dI : Nat → Nat → Nat) (n0 : Nat) (atx : Nat → Nat × Nat) (sz : Nat) (rq : Nat) (rc : Nat) (rq_way : Nat) (rq_low : Nat) (rq_high : Nat) (k_rq_way : ClassId) (f_rq_way : Nat → Int32) (k_rq_low : ClassId) (f_rq_low : Nat → Int32) (k_rq_high : ClassId) (f_rq_high : Nat → Int32) (w : Int32) (v : Int32) (u3 : Int32) (hrc : rc < 8) (q_rw : rg f_rq_way 8 0 14) (hw2 : 0 ≤ w.toInt ∧ w.toInt < 14) : Met l yX8_add (wM yX8_add cX8_add 4 none) ({ frames := 0, cells := 0, slots := 0, locals := 0 }) (va_Pc [.ref rq, .int w, .int v, .int u3] (fun U => U.heap.size = sz ∧ n0 ≤ sz ∧ GW n0 atx U ∧ va_P (dC, dI) classes [(rq, .inr (8, [.int (nI rc), .ref rq_way, .ref rq_low, .ref rq_high])), (rq_way, .inl (k_rq_way, 8, .inl f_rq_way)), (rq_low, .inl (k_rq_low, 8, .inl f_rq_low)), (rq_high, .inl (k_rq_high, 8, .inl f_rq_high))] U.heap ∧ va_K (dC, dI) classes [(k_rq_way, .int), (k_rq_low, .int), (k_rq_high, .int)] U ∧ va_D (fun q => n0 ≤ q) [(rq, .inr (8, [.int (nI rc), .ref rq_way, .ref rq_low, .ref rq_high])), (rq_way, .inl (k_rq_way, 8, .inl f_rq_way)), (rq_low, .inl (k_rq_low, 8, .inl f_rq_low)), (rq_high, .inl (k_rq_high, 8, .inl f_rq_high))])) (va_Qv (fun _ : Unit => True) (fun (_ : Unit) (t : State) => ∃ (wy9 : Nat → Int32), ∃ (lo9 : Nat → Int32), ∃ (hi9 : Nat → Int32), (rg wy9 8 0 14) ∧ va_P (dC, dI) classes [(rq, .inr (8, [.int (nI (rc + 1)), .ref rq_way, .ref rq_low, .ref rq_high])), (rq_way, .inl (k_rq_way, 8, .inl wy9)), (rq_low, .inl (k_rq_low, 8, .inl lo9)), (rq_high, .inl (k_rq_high, 8, .inl hi9))] t.heap ∧ va_K (dC, dI) classes [(k_rq_way, .int), (k_rq_low, .int), (k_rq_high, .int)] t ∧ va_D (va_A [(rq, .inr (8, [.int (nI rc), .ref rq_way, .ref rq_low, .ref rq_high])), (rq_way, .inl (k_rq_way, 8, .inl f_rq_way)), (rq_low, .inl (k_rq_low, 8, .inl f_rq_low)), (rq_high, .inl (k_rq_high, 8, .inl f_rq_high))] sz) [(rq, .inr (8, [.int (nI (rc + 1)), .ref rq_way, .ref rq_low, .ref rq_high])), (rq_way, .inl (k_rq_way, 8, .inl wy9)), (rq_low, .inl (k_rq_low, 8, .inl lo9)), (rq_high, .inl (k_rq_high, 8, .inl hi9))]) (va_A [(rq, .inr (8, [.int (nI rc), .ref rq_way, .ref rq_low, .ref rq_high])), (rq_way, .inl (k_rq_way, 8, .inl f_rq_way)), (rq_low, .inl (k_rq_low, 8, .inl f_rq_low)), (rq_high, .inl (k_rq_high, 8, .inl f_rq_high))] sz)) 0 0 (va_A [(rq, .inr (8, [.int (nI rc), .ref rq_way, .ref rq_low, .ref rq_high])), (rq_way, .inl (k_rq_way, 8, .inl f_rq_way)), (rq_low, .inl (k_rq_low, 8, .inl f_rq_low)), (rq_high, .inl (k_rq_high, 8, .inl f_rq_high))] sz) := by
  refine Met.ofW (cc := cX8_add) (maxL := 4) (ret := none) (by decide) rfl ?_
  intro p e s m args below meth c s₁ B hml hv
  obtain ⟨rfl, hsz, hn0, hG, hP, hK, hD0⟩ := hv
  have hx := B.exec
  have hb := B.bytes
  have hr := B.returns
  have hts := atoms_spec (ws := wM yX8_add cX8_add 4 none) B.pre
  have hown : s.vm.findClass RX8 = some m.cls := findClass_of_methodNamed B.named
  have hlocks := B.notSynchronized
  subst hsz
  have hD := hD0.self (sz := s.heap.size)
  have hA0 := vA_n0 hD0 hn0
  generalize hAe : va_A [(rq, .inr (8, [.int (nI rc), .ref rq_way, .ref rq_low, .ref rq_high])), (rq_way, .inl (k_rq_way, 8, .inl f_rq_way)), (rq_low, .inl (k_rq_low, 8, .inl f_rq_low)), (rq_high, .inl (k_rq_high, 8, .inl f_rq_high))] s.heap.size = A at hD hA0 ⊢
  have hA : ∀ q : Nat, s.heap.size ≤ q → A q := fun q h => by rw [← hAe]; exact Or.inr h
  have hS : va_S A s.heap s.heap [] := va_S.rf
  have hl := lv_entry ([.ref rq, .int w, .int v, .int u3]) (n := 4) (Nat.le_of_ble_eq_true rfl)
  rw [lg_entry_eq]
  generalize (lg_sl ([.ref rq, .int w, .int v, .int u3]) ++ List.replicate (4 - (lg_sl ([.ref rq, .int w, .int v, .int u3])).length) Slot.unset).toArray = ls at hl ⊢
  have hl : lv_has ls 4 [(0, .ref rq), (1, .int w), (2, .int v), (3, .int u3)] := hl
  refine lv_aload_n hx hb dX8_add_0 rfl (lv_at hl 0 rfl) ?_
  refine va_get (D := (dC, dI)) (ci := 8) (v := .ref rq_way) (C := RX8) (T := TX8) (N := 4) hx hb hts (fun w h => wM_c (iX8 w h)) hown hK hP 0 rfl rfl 1 (by decide) (hts _ (wM_c wd_651)) (fun _ h9 => h9) rfl dX8_add_1 ?_
  refine lv_aload_n hx hb dX8_add_4 rfl (lv_at hl 0 rfl) ?_
  refine va_get (D := (dC, dI)) (ci := 8) (v := .int (nI rc)) (C := RX8) (T := TX8) (N := 4) hx hb hts (fun w h => wM_c (iX8 w h)) hown hK hP 0 rfl rfl 0 (by decide) (hts _ (wM_c wd_649)) (fun _ h9 => h9) rfl dX8_add_5 ?_
  refine lv_iload_n hx hb dX8_add_8 rfl (lv_at hl 1 rfl) ?_
  refine va_iast hx hb hK hP hD hS 1 0 rfl rfl (vp_in_nI (n := rc) (by omega) (by omega)) dX8_add_9 (fun H locs hP hD hS => ?_)
  obtain ⟨f_1, ef_1⟩ : ∃ f9, f9 = (upd f_rq_way (nI rc).toNatClampNeg w) := ⟨_, rfl⟩
  obtain ⟨hP, hD⟩ : s3_w (dC, dI) classes A [(rq, .inr (8, [.int (nI rc), .ref rq_way, .ref rq_low, .ref rq_high])), (rq_way, .inl (k_rq_way, 8, .inl f_1)), (rq_low, .inl (k_rq_low, 8, .inl f_rq_low)), (rq_high, .inl (k_rq_high, 8, .inl f_rq_high))] H := ⟨(by rw [ef_1]; exact hP), (by rw [ef_1]; exact hD)⟩
  have hr_2 : rg f_1 8 0 14 := by rw [ef_1]; exact rg_upd q_rw ⟨by omega, by omega⟩
  refine lv_aload_n hx hb dX8_add_10 rfl (lv_at hl 0 rfl) ?_
  refine va_get (D := (dC, dI)) (ci := 8) (v := .ref rq_low) (C := RX8) (T := TX8) (N := 4) hx hb hts (fun w h => wM_c (iX8 w h)) hown hK hP 0 rfl rfl 2 (by decide) (hts _ (wM_c wd_652)) (fun _ h9 => h9) rfl dX8_add_11 ?_
  refine lv_aload_n hx hb dX8_add_14 rfl (lv_at hl 0 rfl) ?_
  refine va_get (D := (dC, dI)) (ci := 8) (v := .int (nI rc)) (C := RX8) (T := TX8) (N := 4) hx hb hts (fun w h => wM_c (iX8 w h)) hown hK hP 0 rfl rfl 0 (by decide) (hts _ (wM_c wd_649)) (fun _ h9 => h9) rfl dX8_add_15 ?_
  refine lv_iload_n hx hb dX8_add_18 rfl (lv_at hl 2 rfl) ?_
  refine va_iast hx hb hK hP hD hS 2 1 rfl rfl (vp_in_nI (n := rc) (by omega) (by omega)) dX8_add_19 (fun H locs hP hD hS => ?_)
  obtain ⟨f_3, ef_3⟩ : ∃ f9, f9 = (upd f_rq_low (nI rc).toNatClampNeg v) := ⟨_, rfl⟩
  obtain ⟨hP, hD⟩ : s3_w (dC, dI) classes A [(rq, .inr (8, [.int (nI rc), .ref rq_way, .ref rq_low, .ref rq_high])), (rq_way, .inl (k_rq_way, 8, .inl f_1)), (rq_low, .inl (k_rq_low, 8, .inl f_3)), (rq_high, .inl (k_rq_high, 8, .inl f_rq_high))] H := ⟨(by rw [ef_3]; exact hP), (by rw [ef_3]; exact hD)⟩
  refine lv_aload_n hx hb dX8_add_20 rfl (lv_at hl 0 rfl) ?_
  refine va_get (D := (dC, dI)) (ci := 8) (v := .ref rq_high) (C := RX8) (T := TX8) (N := 4) hx hb hts (fun w h => wM_c (iX8 w h)) hown hK hP 0 rfl rfl 3 (by decide) (hts _ (wM_c wd_653)) (fun _ h9 => h9) rfl dX8_add_21 ?_
  refine lv_aload_n hx hb dX8_add_24 rfl (lv_at hl 0 rfl) ?_
  refine va_get (D := (dC, dI)) (ci := 8) (v := .int (nI rc)) (C := RX8) (T := TX8) (N := 4) hx hb hts (fun w h => wM_c (iX8 w h)) hown hK hP 0 rfl rfl 0 (by decide) (hts _ (wM_c wd_649)) (fun _ h9 => h9) rfl dX8_add_25 ?_
  refine lv_iload_n hx hb dX8_add_28 rfl (lv_at hl 3 rfl) ?_
  refine va_iast hx hb hK hP hD hS 3 2 rfl rfl (vp_in_nI (n := rc) (by omega) (by omega)) dX8_add_29 (fun H locs hP hD hS => ?_)
  obtain ⟨f_4, ef_4⟩ : ∃ f9, f9 = (upd f_rq_high (nI rc).toNatClampNeg u3) := ⟨_, rfl⟩
  obtain ⟨hP, hD⟩ : s3_w (dC, dI) classes A [(rq, .inr (8, [.int (nI rc), .ref rq_way, .ref rq_low, .ref rq_high])), (rq_way, .inl (k_rq_way, 8, .inl f_1)), (rq_low, .inl (k_rq_low, 8, .inl f_3)), (rq_high, .inl (k_rq_high, 8, .inl f_4))] H := ⟨(by rw [ef_4]; exact hP), (by rw [ef_4]; exact hD)⟩
  refine lv_aload_n hx hb dX8_add_30 rfl (lv_at hl 0 rfl) ?_
  refine lv_dup hx hb dX8_add_31 rfl ?_
  refine va_get (D := (dC, dI)) (ci := 8) (v := .int (nI rc)) (C := RX8) (T := TX8) (N := 4) hx hb hts (fun w h => wM_c (iX8 w h)) hown hK hP 0 rfl rfl 0 (by decide) (hts _ (wM_c wd_649)) (fun _ h9 => h9) rfl dX8_add_32 ?_
  refine lv_iconst (v := 1) hx hb dX8_add_35 (by decide) ?_
  refine lv_iadd hx hb dX8_add_36 ?_
  refine lv_topi (fun v_5 ev_5 => ?_)
  obtain rfl : v_5 = nI (rc + 1) := ev_5.trans (nI_add rc 1)
  refine va_put (D := (dC, dI)) (ci := 8) (v := .int (nI (rc + 1))) (ty := .int) (C := RX8) (T := TX8) (N := 4) hx hb hts (fun w h => wM_c (iX8 w h)) tyX8 tyX8_ok nmX8 hown hK hP hD hS 0 rfl rfl 0 (by decide) (hts _ (wM_c wd_649)) (fun _ h9 => h9) rfl (by decide +kernel) rfl rfl (Nat.le_of_ble_eq_true rfl) dX8_add_37 (fun H locs hP hD hS => ?_)
  obtain ⟨hP, hD⟩ : s3_w (dC, dI) classes A [(rq, .inr (8, [.int (nI (rc + 1)), .ref rq_way, .ref rq_low, .ref rq_high])), (rq_way, .inl (k_rq_way, 8, .inl f_1)), (rq_low, .inl (k_rq_low, 8, .inl f_3)), (rq_high, .inl (k_rq_high, 8, .inl f_4))] H := ⟨hP, hD⟩
  have hK9 := hK.sub (tys' := [(k_rq_way, .int), (k_rq_low, .int), (k_rq_high, .int)]) [0, 1, 2] rfl
  exact W.vret hx hb hr (fun t ht hW => ⟨⟨(), rfl, trivial, f_1, f_3, f_4, (by assumption), by rw [ht]; exact hP.sub [0, 1, 2, 3] rfl, va_K.moved hW.alike hK9, hD.sub [0, 1, 2, 3] (by decide) rfl⟩, hS.F ht⟩) hS.2.2 dX8_add_40
set_option maxHeartbeats 4000000 in
set_option maxRecDepth 100000 in
theorem c8_hold (l : Launch) (dC : Nat → ClassId) (dI : Nat → Nat → Nat) (n0 : Nat) (atx : Nat → Nat × Nat) (sz : Nat) (rq : Nat) (rc : Nat) (rq_way : Nat) (rq_low : Nat) (rq_high : Nat) (k_rq_way : ClassId) (f_rq_way : Nat → Int32) (k_rq_low : ClassId) (f_rq_low : Nat → Int32) (k_rq_high : ClassId) (f_rq_high : Nat → Int32) (ai : Nat) (k_ai : ClassId) (f_ai : Nat → Int32) (hrc : rc ≤ 8) (q_rw : rg f_rq_way 8 0 14) : Met l yX8_hold (wM yX8_hold cX8_hold 4 (some .boolean)) ({ frames := 0, cells := 0, slots := 0, locals := 0 }) (va_Pc [.ref rq, .ref ai] (fun U => U.heap.size = sz ∧ n0 ≤ sz ∧ GW n0 atx U ∧ va_P (dC, dI) classes [(rq, .inr (8, [.int (nI rc), .ref rq_way, .ref rq_low, .ref rq_high])), (rq_way, .inl (k_rq_way, 8, .inl f_rq_way)), (rq_low, .inl (k_rq_low, 8, .inl f_rq_low)), (rq_high, .inl (k_rq_high, 8, .inl f_rq_high)), (ai, .inl (k_ai, 14, .inl f_ai))] U.heap ∧ va_K (dC, dI) classes [(k_rq_way, .int), (k_rq_low, .int), (k_rq_high, .int), (k_ai, .int)] U ∧ va_D (fun q => n0 ≤ q) [(rq, .inr (8, [.int (nI rc), .ref rq_way, .ref rq_low, .ref rq_high])), (rq_way, .inl (k_rq_way, 8, .inl f_rq_way)), (rq_low, .inl (k_rq_low, 8, .inl f_rq_low)), (rq_high, .inl (k_rq_high, 8, .inl f_rq_high)), (ai, .inl (k_ai, 14, .inl f_ai))])) (va_Qi (fun (r : Int32) (_ : Unit) => r = 0 ∨ r = 1) (fun (_ : Unit) (t : State) => va_P (dC, dI) classes [(rq, .inr (8, [.int (nI rc), .ref rq_way, .ref rq_low, .ref rq_high])), (rq_way, .inl (k_rq_way, 8, .inl f_rq_way)), (rq_low, .inl (k_rq_low, 8, .inl f_rq_low)), (rq_high, .inl (k_rq_high, 8, .inl f_rq_high)), (ai, .inl (k_ai, 14, .inl f_ai))] t.heap ∧ va_K (dC, dI) classes [(k_rq_way, .int), (k_rq_low, .int), (k_rq_high, .int), (k_ai, .int)] t ∧ va_D (va_A [(rq, .inr (8, [.int (nI rc), .ref rq_way, .ref rq_low, .ref rq_high])), (rq_way, .inl (k_rq_way, 8, .inl f_rq_way)), (rq_low, .inl (k_rq_low, 8, .inl f_rq_low)), (rq_high, .inl (k_rq_high, 8, .inl f_rq_high)), (ai, .inl (k_ai, 14, .inl f_ai))] sz) [(rq, .inr (8, [.int (nI rc), .ref rq_way, .ref rq_low, .ref rq_high])), (rq_way, .inl (k_rq_way, 8, .inl f_rq_way)), (rq_low, .inl (k_rq_low, 8, .inl f_rq_low)), (rq_high, .inl (k_rq_high, 8, .inl f_rq_high)), (ai, .inl (k_ai, 14, .inl f_ai))]) (va_A [(rq, .inr (8, [.int (nI rc), .ref rq_way, .ref rq_low, .ref rq_high])), (rq_way, .inl (k_rq_way, 8, .inl f_rq_way)), (rq_low, .inl (k_rq_low, 8, .inl f_rq_low)), (rq_high, .inl (k_rq_high, 8, .inl f_rq_high)), (ai, .inl (k_ai, 14, .inl f_ai))] sz)) 0 0 (va_A [(rq, .inr (8, [.int (nI rc), .ref rq_way, .ref rq_low, .ref rq_high])), (rq_way, .inl (k_rq_way, 8, .inl f_rq_way)), (rq_low, .inl (k_rq_low, 8, .inl f_rq_low)), (rq_high, .inl (k_rq_high, 8, .inl f_rq_high)), (ai, .inl (k_ai, 14, .inl f_ai))] sz) := by
  refine Met.ofW (cc := cX8_hold) (maxL := 4) (ret := (some .boolean)) (by decide) rfl ?_
  intro p e s m args below meth c s₁ B hml hv
  obtain ⟨rfl, hsz, hn0, hG, hP, hK, hD0⟩ := hv
  have hx := B.exec
  have hb := B.bytes
  have hr := B.returns
  have hts := atoms_spec (ws := wM yX8_hold cX8_hold 4 (some .boolean)) B.pre
  have hown : s.vm.findClass RX8 = some m.cls := findClass_of_methodNamed B.named
  have hlocks := B.notSynchronized
  subst hsz
  have hD := hD0.self (sz := s.heap.size)
  have hA0 := vA_n0 hD0 hn0
  generalize hAe : va_A [(rq, .inr (8, [.int (nI rc), .ref rq_way, .ref rq_low, .ref rq_high])), (rq_way, .inl (k_rq_way, 8, .inl f_rq_way)), (rq_low, .inl (k_rq_low, 8, .inl f_rq_low)), (rq_high, .inl (k_rq_high, 8, .inl f_rq_high)), (ai, .inl (k_ai, 14, .inl f_ai))] s.heap.size = A at hD hA0 ⊢
  have hA : ∀ q : Nat, s.heap.size ≤ q → A q := fun q h => by rw [← hAe]; exact Or.inr h
  have hS : va_S A s.heap s.heap [] := va_S.rf
  have hl := lv_entry ([.ref rq, .ref ai]) (n := 4) (Nat.le_of_ble_eq_true rfl)
  rw [lg_entry_eq]
  generalize (lg_sl ([.ref rq, .ref ai]) ++ List.replicate (4 - (lg_sl ([.ref rq, .ref ai])).length) Slot.unset).toArray = ls at hl ⊢
  have hl : lv_has ls 4 [(0, .ref rq), (1, .ref ai)] := hl
  refine lv_iconst (v := 0) hx hb dX8_hold_0 (by decide) ?_
  refine lv_istore_n (lv' := [(2, .int 0), (0, .ref rq), (1, .ref ai)]) hx hb dX8_hold_1 rfl hl (by decide) rfl (fun ls hl => ?_)
  refine W_lp1 (I := fun (i : Nat) H locs ls => (i ≤ rc) ∧ va_P (dC, dI) classes [(rq, .inr (8, [.int (nI rc), .ref rq_way, .ref rq_low, .ref rq_high])), (rq_way, .inl (k_rq_way, 8, .inl f_rq_way)), (rq_low, .inl (k_rq_low, 8, .inl f_rq_low)), (rq_high, .inl (k_rq_high, 8, .inl f_rq_high)), (ai, .inl (k_ai, 14, .inl f_ai))] H ∧ va_D A [(rq, .inr (8, [.int (nI rc), .ref rq_way, .ref rq_low, .ref rq_high])), (rq_way, .inl (k_rq_way, 8, .inl f_rq_way)), (rq_low, .inl (k_rq_low, 8, .inl f_rq_low)), (rq_high, .inl (k_rq_high, 8, .inl f_rq_high)), (ai, .inl (k_ai, 14, .inl f_ai))] ∧ va_S A s.heap H locs ∧ lv_has ls 4 [(0, .ref rq), (1, .ref ai), (2, .int (nI i))]) (μ := fun (i : Nat) => rc - i) ?_ 0 _ _ _ ⟨(by first | with_reducible assumption | omega | exact vp_in_iff.mpr (by omega) | exact vp_in_nI (by omega) (by omega) | exact ⟨by omega, by omega⟩), hP, hD, hS, lv_sub hl [1, 2, 0] rfl⟩
  intro i H locs ls hI ih_1
  obtain ⟨hi, hP, hD, hS, hl⟩ := hI
  refine lv_iload_n hx hb dX8_hold_2 rfl (lv_at hl 2 rfl) ?_
  refine lv_aload_n hx hb dX8_hold_3 rfl (lv_at hl 0 rfl) ?_
  refine va_get (D := (dC, dI)) (ci := 8) (v := .int (nI rc)) (C := RX8) (T := TX8) (N := 4) hx hb hts (fun w h => wM_c (iX8 w h)) hown hK hP 0 rfl rfl 0 (by decide) (hts _ (wM_c wd_649)) (fun _ h9 => h9) rfl dX8_hold_4 ?_
  refine lv_icmp_ge (tgt := 47) hx hb dX8_hold_7 (by decide) (fun c_2 => ?_) (fun c_2 => ?_)
  · skip
    have g_3 := n_ge (a := i) (b := rc) c_2 (by omega) (by omega)
    refine lv_iconst (v := 1) hx hb dX8_hold_47 (by decide) ?_
    have hK9 := hK.sub (tys' := [(k_rq_way, .int), (k_rq_low, .int), (k_rq_high, .int), (k_ai, .int)]) [0, 1, 2, 3] rfl
    exact W.zret (v := 1) hx hb hr rfl (fun t ht hW => ⟨⟨1, (), rfl, (Or.inr rfl), by rw [ht]; exact hP.sub [0, 1, 2, 3, 4] rfl, va_K.moved hW.alike hK9, hD.sub [0, 1, 2, 3, 4] (by decide) rfl⟩, hS.F ht⟩) hS.2.2 dX8_hold_48
  · skip
    have g_4 := n_nge (a := i) (b := rc) c_2 (by omega) (by omega)
    refine lv_aload_n hx hb dX8_hold_10 rfl (lv_at hl 1 rfl) ?_
    refine lv_aload_n hx hb dX8_hold_11 rfl (lv_at hl 0 rfl) ?_
    refine va_get (D := (dC, dI)) (ci := 8) (v := .ref rq_way) (C := RX8) (T := TX8) (N := 4) hx hb hts (fun w h => wM_c (iX8 w h)) hown hK hP 0 rfl rfl 1 (by decide) (hts _ (wM_c wd_651)) (fun _ h9 => h9) rfl dX8_hold_12 ?_
    refine lv_iload_n hx hb dX8_hold_15 rfl (lv_at hl 2 rfl) ?_
    refine va_iald hx hb hK hP 1 0 rfl rfl (vp_in_nI (n := i) (by omega) (by omega)) dX8_hold_16 ?_
    refine lv_topi (fun v_5 ev_5 => ?_)
    have nv_5 : v_5 = f_rq_way i := by rw [ev_5]; exact congrArg _ (nI_clamp (by omega))
    have g_6 : 0 ≤ v_5.toInt ∧ v_5.toInt < 14 := by rw [ev_5]; exact rg_in q_rw (by omega) (by omega)
    refine va_iald hx hb hK hP 4 3 rfl rfl (by first | with_reducible assumption | exact vp_in_iff.mpr (by omega)) dX8_hold_17 ?_
    refine lv_topi (fun v_7 ev_7 => ?_)
    refine lv_istore_n (lv' := [(3, .int v_7), (0, .ref rq), (1, .ref ai), (2, .int (nI i))]) hx hb dX8_hold_18 rfl hl (by decide) rfl (fun ls hl => ?_)
    refine lv_iload_n hx hb dX8_hold_19 rfl (lv_at hl 0 rfl) ?_
    refine lv_aload_n hx hb dX8_hold_20 rfl (lv_at hl 1 rfl) ?_
    refine va_get (D := (dC, dI)) (ci := 8) (v := .ref rq_low) (C := RX8) (T := TX8) (N := 4) hx hb hts (fun w h => wM_c (iX8 w h)) hown hK hP 0 rfl rfl 2 (by decide) (hts _ (wM_c wd_652)) (fun _ h9 => h9) rfl dX8_hold_21 ?_
    refine lv_iload_n hx hb dX8_hold_24 rfl (lv_at hl 3 rfl) ?_
    refine va_iald hx hb hK hP 2 1 rfl rfl (vp_in_nI (n := i) (by omega) (by omega)) dX8_hold_25 ?_
    refine lv_topi (fun v_8 ev_8 => ?_)
    have nv_8 : v_8 = f_rq_low i := by rw [ev_8]; exact congrArg _ (nI_clamp (by omega))
    refine lv_icmp_lt (tgt := 39) hx hb dX8_hold_26 (by decide) (fun c_9 => ?_) (fun c_9 => ?_)
    · skip
      have g_10 : v_7.toInt < v_8.toInt := i_lt c_9
      refine lv_iconst (v := 0) hx hb dX8_hold_39 (by decide) ?_
      have hK9 := hK.sub (tys' := [(k_rq_way, .int), (k_rq_low, .int), (k_rq_high, .int), (k_ai, .int)]) [0, 1, 2, 3] rfl
      exact W.zret (v := 0) hx hb hr rfl (fun t ht hW => ⟨⟨0, (), rfl, (Or.inl rfl), by rw [ht]; exact hP.sub [0, 1, 2, 3, 4] rfl, va_K.moved hW.alike hK9, hD.sub [0, 1, 2, 3, 4] (by decide) rfl⟩, hS.F ht⟩) hS.2.2 dX8_hold_40
    · skip
      have g_11 : v_8.toInt ≤ v_7.toInt := i_nlt c_9
      refine lv_iload_n hx hb dX8_hold_29 rfl (lv_at hl 0 rfl) ?_
      refine lv_aload_n hx hb dX8_hold_30 rfl (lv_at hl 1 rfl) ?_
      refine va_get (D := (dC, dI)) (ci := 8) (v := .ref rq_high) (C := RX8) (T := TX8) (N := 4) hx hb hts (fun w h => wM_c (iX8 w h)) hown hK hP 0 rfl rfl 3 (by decide) (hts _ (wM_c wd_653)) (fun _ h9 => h9) rfl dX8_hold_31 ?_
      refine lv_iload_n hx hb dX8_hold_34 rfl (lv_at hl 3 rfl) ?_
      refine va_iald hx hb hK hP 3 2 rfl rfl (vp_in_nI (n := i) (by omega) (by omega)) dX8_hold_35 ?_
      refine lv_topi (fun v_12 ev_12 => ?_)
      have nv_12 : v_12 = f_rq_high i := by rw [ev_12]; exact congrArg _ (nI_clamp (by omega))
      refine lv_icmp_le (tgt := 41) hx hb dX8_hold_36 (by decide) (fun c_13 => ?_) (fun c_13 => ?_)
      · skip
        have g_14 : v_7.toInt ≤ v_12.toInt := i_le c_13
        refine lv_iinc (v := (nI (i + 1))) (lv' := [(2, .int (nI (i + 1))), (3, .int v_7), (0, .ref rq), (1, .ref ai)]) hx hb dX8_hold_41 hl (k := 3) rfl (nI_add _ 1) (by decide) rfl (fun ls hl => ?_)
        refine lv_goto (tgt := 2) hx hb dX8_hold_44 (by decide) ?_
        exact ih_1 (i + 1) _ _ _ ⟨(by first | with_reducible assumption | omega | exact vp_in_iff.mpr (by omega) | exact vp_in_nI (by omega) (by omega) | exact ⟨by omega, by omega⟩), hP.sub [0, 1, 2, 3, 4] rfl, hD.sub [0, 1, 2, 3, 4] (by decide) rfl, hS, lv_sub hl [2, 3, 0] rfl⟩ (by omega)
      · skip
        have g_15 : v_12.toInt < v_7.toInt := i_nle c_13
        refine lv_iconst (v := 0) hx hb dX8_hold_39 (by decide) ?_
        have hK9 := hK.sub (tys' := [(k_rq_way, .int), (k_rq_low, .int), (k_rq_high, .int), (k_ai, .int)]) [0, 1, 2, 3] rfl
        exact W.zret (v := 0) hx hb hr rfl (fun t ht hW => ⟨⟨0, (), rfl, (Or.inl rfl), by rw [ht]; exact hP.sub [0, 1, 2, 3, 4] rfl, va_K.moved hW.alike hK9, hD.sub [0, 1, 2, 3, 4] (by decide) rfl⟩, hS.F ht⟩) hS.2.2 dX8_hold_40
set_option maxHeartbeats 4000000 in
set_option maxRecDepth 100000 in
theorem c1_source (l : Launch) (dC : Nat → ClassId) (dI : Nat → Nat → Nat) (n0 : Nat) (atx : Nat → Nat × Nat) (sz : Nat) (fl : Nat) (mm : Nat) (fl_knotOf : Nat) (fl_smokeAt : Nat) (fl_reach : Nat) (fl_route : Nat) (bk : Nat) (st : Nat) (fl_smokeIn : Nat) (st_open : Nat) (st_speed : Nat) (st_fallen : Nat) (st_fire : Nat) (st_mark : Int32) (st_moreIn : Int32) (st_more : Int32) (bw : Nat) (bk_tail : Nat) (bk_head : Nat) (bk_hinder : Nat) (bk_size : Nat) (bk_walk : Nat) (bk_draught : Nat) (bk_doorIn : Nat) (bk_fanIn : Nat) (bk_faceIn : Nat) (bn : Nat) (bk_day : Int32) (gr : Nat) (k_st_fire : ClassId) (f_st_fire : Nat → Int32) (hbw : bw ≤ 14) (hbn : bn ≤ 10) (q_day : -1 ≤ bk_day.toInt ∧ bk_day.toInt < 10) : Met l yX1_source (wM yX1_source cX1_source 2 (some .int)) ({ frames := 0, cells := 0, slots := 0, locals := 0 }) (va_Pc [.ref fl] (fun U => U.heap.size = sz ∧ n0 ≤ sz ∧ GW n0 atx U ∧ va_P (dC, dI) classes [(fl, .inr (1, [.int (nI mm), .ref fl_knotOf, .ref fl_smokeAt, .ref fl_reach, .ref fl_route, .ref bk, .ref st, .ref fl_smokeIn])), (st, .inr (9, [.ref st_open, .ref st_speed, .ref st_fallen, .ref st_fire, .int st_mark, .int st_moreIn, .int st_more, .ref bk])), (bk, .inr (0, [.int (nI bw), .ref bk_tail, .ref bk_head, .ref bk_hinder, .ref bk_size, .ref bk_walk, .ref bk_draught, .ref bk_doorIn, .ref bk_fanIn, .ref bk_faceIn, .int (nI bn), .int bk_day, .ref gr])), (st_fire, .inl (k_st_fire, 14, .inl f_st_fire))] U.heap ∧ va_K (dC, dI) classes [(k_st_fire, .int)] U ∧ va_D (fun q => n0 ≤ q) [(fl, .inr (1, [.int (nI mm), .ref fl_knotOf, .ref fl_smokeAt, .ref fl_reach, .ref fl_route, .ref bk, .ref st, .ref fl_smokeIn])), (st, .inr (9, [.ref st_open, .ref st_speed, .ref st_fallen, .ref st_fire, .int st_mark, .int st_moreIn, .int st_more, .ref bk])), (bk, .inr (0, [.int (nI bw), .ref bk_tail, .ref bk_head, .ref bk_hinder, .ref bk_size, .ref bk_walk, .ref bk_draught, .ref bk_doorIn, .ref bk_fanIn, .ref bk_faceIn, .int (nI bn), .int bk_day, .ref gr])), (st_fire, .inl (k_st_fire, 14, .inl f_st_fire))])) (va_Qi (fun (r : Int32) (_ : Unit) => -1 ≤ r.toInt ∧ r.toInt < 14) (fun (_ : Unit) (t : State) => va_P (dC, dI) classes [(fl, .inr (1, [.int (nI mm), .ref fl_knotOf, .ref fl_smokeAt, .ref fl_reach, .ref fl_route, .ref bk, .ref st, .ref fl_smokeIn])), (st, .inr (9, [.ref st_open, .ref st_speed, .ref st_fallen, .ref st_fire, .int st_mark, .int st_moreIn, .int st_more, .ref bk])), (bk, .inr (0, [.int (nI bw), .ref bk_tail, .ref bk_head, .ref bk_hinder, .ref bk_size, .ref bk_walk, .ref bk_draught, .ref bk_doorIn, .ref bk_fanIn, .ref bk_faceIn, .int (nI bn), .int bk_day, .ref gr])), (st_fire, .inl (k_st_fire, 14, .inl f_st_fire))] t.heap ∧ va_K (dC, dI) classes [(k_st_fire, .int)] t ∧ va_D (va_A [(fl, .inr (1, [.int (nI mm), .ref fl_knotOf, .ref fl_smokeAt, .ref fl_reach, .ref fl_route, .ref bk, .ref st, .ref fl_smokeIn])), (st, .inr (9, [.ref st_open, .ref st_speed, .ref st_fallen, .ref st_fire, .int st_mark, .int st_moreIn, .int st_more, .ref bk])), (bk, .inr (0, [.int (nI bw), .ref bk_tail, .ref bk_head, .ref bk_hinder, .ref bk_size, .ref bk_walk, .ref bk_draught, .ref bk_doorIn, .ref bk_fanIn, .ref bk_faceIn, .int (nI bn), .int bk_day, .ref gr])), (st_fire, .inl (k_st_fire, 14, .inl f_st_fire))] sz) [(fl, .inr (1, [.int (nI mm), .ref fl_knotOf, .ref fl_smokeAt, .ref fl_reach, .ref fl_route, .ref bk, .ref st, .ref fl_smokeIn])), (st, .inr (9, [.ref st_open, .ref st_speed, .ref st_fallen, .ref st_fire, .int st_mark, .int st_moreIn, .int st_more, .ref bk])), (bk, .inr (0, [.int (nI bw), .ref bk_tail, .ref bk_head, .ref bk_hinder, .ref bk_size, .ref bk_walk, .ref bk_draught, .ref bk_doorIn, .ref bk_fanIn, .ref bk_faceIn, .int (nI bn), .int bk_day, .ref gr])), (st_fire, .inl (k_st_fire, 14, .inl f_st_fire))]) (va_A [(fl, .inr (1, [.int (nI mm), .ref fl_knotOf, .ref fl_smokeAt, .ref fl_reach, .ref fl_route, .ref bk, .ref st, .ref fl_smokeIn])), (st, .inr (9, [.ref st_open, .ref st_speed, .ref st_fallen, .ref st_fire, .int st_mark, .int st_moreIn, .int st_more, .ref bk])), (bk, .inr (0, [.int (nI bw), .ref bk_tail, .ref bk_head, .ref bk_hinder, .ref bk_size, .ref bk_walk, .ref bk_draught, .ref bk_doorIn, .ref bk_fanIn, .ref bk_faceIn, .int (nI bn), .int bk_day, .ref gr])), (st_fire, .inl (k_st_fire, 14, .inl f_st_fire))] sz)) 0 0 (va_A [(fl, .inr (1, [.int (nI mm), .ref fl_knotOf, .ref fl_smokeAt, .ref fl_reach, .ref fl_route, .ref bk, .ref st, .ref fl_smokeIn])), (st, .inr (9, [.ref st_open, .ref st_speed, .ref st_fallen, .ref st_fire, .int st_mark, .int st_moreIn, .int st_more, .ref bk])), (bk, .inr (0, [.int (nI bw), .ref bk_tail, .ref bk_head, .ref bk_hinder, .ref bk_size, .ref bk_walk, .ref bk_draught, .ref bk_doorIn, .ref bk_fanIn, .ref bk_faceIn, .int (nI bn), .int bk_day, .ref gr])), (st_fire, .inl (k_st_fire, 14, .inl f_st_fire))] sz) := by
  refine Met.ofW (cc := cX1_source) (maxL := 2) (ret := (some .int)) (by decide) rfl ?_
  intro p e s m args below meth c s₁ B hml hv
  obtain ⟨rfl, hsz, hn0, hG, hP, hK, hD0⟩ := hv
  have hx := B.exec
  have hb := B.bytes
  have hr := B.returns
  have hts := atoms_spec (ws := wM yX1_source cX1_source 2 (some .int)) B.pre
  have hown : s.vm.findClass RX1 = some m.cls := findClass_of_methodNamed B.named
  have hlocks := B.notSynchronized
  subst hsz
  have hD := hD0.self (sz := s.heap.size)
  have hA0 := vA_n0 hD0 hn0
  generalize hAe : va_A [(fl, .inr (1, [.int (nI mm), .ref fl_knotOf, .ref fl_smokeAt, .ref fl_reach, .ref fl_route, .ref bk, .ref st, .ref fl_smokeIn])), (st, .inr (9, [.ref st_open, .ref st_speed, .ref st_fallen, .ref st_fire, .int st_mark, .int st_moreIn, .int st_more, .ref bk])), (bk, .inr (0, [.int (nI bw), .ref bk_tail, .ref bk_head, .ref bk_hinder, .ref bk_size, .ref bk_walk, .ref bk_draught, .ref bk_doorIn, .ref bk_fanIn, .ref bk_faceIn, .int (nI bn), .int bk_day, .ref gr])), (st_fire, .inl (k_st_fire, 14, .inl f_st_fire))] s.heap.size = A at hD hA0 ⊢
  have hA : ∀ q : Nat, s.heap.size ≤ q → A q := fun q h => by rw [← hAe]; exact Or.inr h
  have hS : va_S A s.heap s.heap [] := va_S.rf
  have hl := lv_entry ([.ref fl]) (n := 2) (Nat.le_of_ble_eq_true rfl)
  rw [lg_entry_eq]
  generalize (lg_sl ([.ref fl]) ++ List.replicate (2 - (lg_sl ([.ref fl])).length) Slot.unset).toArray = ls at hl ⊢
  have hl : lv_has ls 2 [(0, .ref fl)] := hl
  refine lv_iconst (v := 0) hx hb dX1_source_0 (by decide) ?_
  refine lv_istore_n (lv' := [(1, .int 0), (0, .ref fl)]) hx hb dX1_source_1 rfl hl (by decide) rfl (fun ls hl => ?_)
  refine W_lp1 (I := fun (i : Nat) H locs ls => (i ≤ bw) ∧ va_P (dC, dI) classes [(fl, .inr (1, [.int (nI mm), .ref fl_knotOf, .ref fl_smokeAt, .ref fl_reach, .ref fl_route, .ref bk, .ref st, .ref fl_smokeIn])), (st, .inr (9, [.ref st_open, .ref st_speed, .ref st_fallen, .ref st_fire, .int st_mark, .int st_moreIn, .int st_more, .ref bk])), (bk, .inr (0, [.int (nI bw), .ref bk_tail, .ref bk_head, .ref bk_hinder, .ref bk_size, .ref bk_walk, .ref bk_draught, .ref bk_doorIn, .ref bk_fanIn, .ref bk_faceIn, .int (nI bn), .int bk_day, .ref gr])), (st_fire, .inl (k_st_fire, 14, .inl f_st_fire))] H ∧ va_D A [(fl, .inr (1, [.int (nI mm), .ref fl_knotOf, .ref fl_smokeAt, .ref fl_reach, .ref fl_route, .ref bk, .ref st, .ref fl_smokeIn])), (st, .inr (9, [.ref st_open, .ref st_speed, .ref st_fallen, .ref st_fire, .int st_mark, .int st_moreIn, .int st_more, .ref bk])), (bk, .inr (0, [.int (nI bw), .ref bk_tail, .ref bk_head, .ref bk_hinder, .ref bk_size, .ref bk_walk, .ref bk_draught, .ref bk_doorIn, .ref bk_fanIn, .ref bk_faceIn, .int (nI bn), .int bk_day, .ref gr])), (st_fire, .inl (k_st_fire, 14, .inl f_st_fire))] ∧ va_S A s.heap H locs ∧ lv_has ls 2 [(0, .ref fl), (1, .int (nI i))]) (μ := fun (i : Nat) => bw - i) ?_ 0 _ _ _ ⟨(by first | with_reducible assumption | omega | exact vp_in_iff.mpr (by omega) | exact vp_in_nI (by omega) (by omega) | exact ⟨by omega, by omega⟩), hP, hD, hS, lv_sub hl [1, 0] rfl⟩
  intro i H locs ls hI ih_1
  obtain ⟨hi, hP, hD, hS, hl⟩ := hI
  refine lv_iload_n hx hb dX1_source_2 rfl (lv_at hl 1 rfl) ?_
  refine lv_aload_n hx hb dX1_source_3 rfl (lv_at hl 0 rfl) ?_
  refine va_get (D := (dC, dI)) (ci := 1) (v := .ref bk) (C := RX1) (T := TX1) (N := 8) hx hb hts (fun w h => wM_c (iX1 w h)) hown hK hP 0 rfl rfl 5 (by decide) (hts _ (wM_c wd_623)) (fun _ h9 => h9) rfl dX1_source_4 ?_
  refine va_get (D := (dC, dI)) (ci := 0) (v := .int (nI bw)) (C := RX0) (T := TX0) (N := 13) hx hb hts (fun w h => wM_c (iX0 w h)) hown hK hP 2 rfl rfl 0 (by decide) (hts _ (wM_c wd_239)) (fun _ h9 => h9) rfl dX1_source_7 ?_
  refine lv_icmp_ge (tgt := 33) hx hb dX1_source_10 (by decide) (fun c_2 => ?_) (fun c_2 => ?_)
  · skip
    have g_3 := n_ge (a := i) (b := bw) c_2 (by omega) (by omega)
    refine lv_iconst (v := (-1)) hx hb dX1_source_33 (by decide) ?_
    have hK9 := hK.sub (tys' := [(k_st_fire, .int)]) [0] rfl
    exact W.iret (v := (-1)) hx hb hr (fun t ht hW => ⟨⟨(-1), (), rfl, (by decide), by rw [ht]; exact hP.sub [0, 1, 2, 3] rfl, va_K.moved hW.alike hK9, hD.sub [0, 1, 2, 3] (by decide) rfl⟩, hS.F ht⟩) hS.2.2 dX1_source_34
  · skip
    have g_4 := n_nge (a := i) (b := bw) c_2 (by omega) (by omega)
    refine lv_aload_n hx hb dX1_source_13 rfl (lv_at hl 0 rfl) ?_
    refine va_get (D := (dC, dI)) (ci := 1) (v := .ref st) (C := RX1) (T := TX1) (N := 8) hx hb hts (fun w h => wM_c (iX1 w h)) hown hK hP 0 rfl rfl 6 (by decide) (hts _ (wM_c wd_624)) (fun _ h9 => h9) rfl dX1_source_14 ?_
    refine va_get (D := (dC, dI)) (ci := 9) (v := .ref st_fire) (C := RX9) (T := TX9) (N := 8) hx hb hts (fun w h => wM_c (iX9 w h)) hown hK hP 1 rfl rfl 3 (by decide) (hts _ (wM_c wd_403)) (fun _ h9 => h9) rfl dX1_source_17 ?_
    refine lv_iload_n hx hb dX1_source_20 rfl (lv_at hl 1 rfl) ?_
    refine va_iald hx hb hK hP 3 0 rfl rfl (vp_in_nI (n := i) (by omega) (by omega)) dX1_source_21 ?_
    refine lv_topi (fun v_5 ev_5 => ?_)
    have nv_5 : v_5 = f_st_fire i := by rw [ev_5]; exact congrArg _ (nI_clamp (by omega))
    refine lv_if_eq (tgt := 27) hx hb dX1_source_22 (by decide) (fun c_6 => ?_) (fun c_6 => ?_)
    · skip
      have g_7 : v_5.toInt = (0 : Int) := i_eq c_6
      refine lv_iinc (v := (nI (i + 1))) (lv' := [(1, .int (nI (i + 1))), (0, .ref fl)]) hx hb dX1_source_27 hl (k := 1) rfl (nI_add _ 1) (by decide) rfl (fun ls hl => ?_)
      refine lv_goto (tgt := 2) hx hb dX1_source_30 (by decide) ?_
      exact ih_1 (i + 1) _ _ _ ⟨(by first | with_reducible assumption | omega | exact vp_in_iff.mpr (by omega) | exact vp_in_nI (by omega) (by omega) | exact ⟨by omega, by omega⟩), hP.sub [0, 1, 2, 3] rfl, hD.sub [0, 1, 2, 3] (by decide) rfl, hS, lv_sub hl [1, 0] rfl⟩ (by omega)
    · skip
      have g_8 : v_5.toInt ≠ (0 : Int) := i_ne c_6
      refine lv_iload_n hx hb dX1_source_25 rfl (lv_at hl 1 rfl) ?_
      have hK9 := hK.sub (tys' := [(k_st_fire, .int)]) [0] rfl
      exact W.iret (v := (nI i)) hx hb hr (fun t ht hW => ⟨⟨(nI i), (), rfl, (by dsimp only; rw [nI_toInt (by omega)]; omega), by rw [ht]; exact hP.sub [0, 1, 2, 3] rfl, va_K.moved hW.alike hK9, hD.sub [0, 1, 2, 3] (by decide) rfl⟩, hS.F ht⟩) hS.2.2 dX1_source_26
set_option maxHeartbeats 4000000 in
set_option maxRecDepth 100000 in
theorem c1_drift (l : Launch) (dC : Nat → ClassId) (dI : Nat → Nat → Nat) (n0 : Nat) (atx : Nat → Nat × Nat) (sz : Nat) (fl : Nat) (mm : Nat) (fl_knotOf : Nat) (fl_smokeAt : Nat) (fl_reach : Nat) (fl_route : Nat) (bk : Nat) (st : Nat) (fl_smokeIn : Nat) (bw : Nat) (bk_tail : Nat) (bk_head : Nat) (bk_hinder : Nat) (bk_size : Nat) (bk_walk : Nat) (bk_draught : Nat) (bk_doorIn : Nat) (bk_fanIn : Nat) (bk_faceIn : Nat) (bn : Nat) (bk_day : Int32) (gr : Nat) (k_bk_tail : ClassId) (f_bk_tail : Nat → Int32) (k_bk_head : ClassId) (f_bk_head : Nat → Int32) (k_bk_size : ClassId) (f_bk_size : Nat → Int32) (k_fl_smokeAt : ClassId) (f_fl_smokeAt : Nat → Int32) (k_fl_smokeIn : ClassId) (f_fl_smokeIn : Nat → Int32) (w : Int32) (av : Int32) (hbw : bw ≤ 14) (hbn : bn ≤ 10) (q_day : -1 ≤ bk_day.toInt ∧ bk_day.toInt < 10) (q_tail : rg f_bk_tail 14 0 10) (q_head : rg f_bk_head 14 0 10) (hw : vp_in w 14) (hav : ¬ av = 0) : Met l yX1_drift (wM yX1_drift cX1_drift 7 (some .boolean)) ({ frames := 1, cells := 0, slots := 0, locals := 22 }) (va_Pc [.ref fl, .int w, .int av] (fun U => U.heap.size = sz ∧ n0 ≤ sz ∧ GW n0 atx U ∧ va_P (dC, dI) classes [(fl, .inr (1, [.int (nI mm), .ref fl_knotOf, .ref fl_smokeAt, .ref fl_reach, .ref fl_route, .ref bk, .ref st, .ref fl_smokeIn])), (bk, .inr (0, [.int (nI bw), .ref bk_tail, .ref bk_head, .ref bk_hinder, .ref bk_size, .ref bk_walk, .ref bk_draught, .ref bk_doorIn, .ref bk_fanIn, .ref bk_faceIn, .int (nI bn), .int bk_day, .ref gr])), (bk_tail, .inl (k_bk_tail, 14, .inl f_bk_tail)), (bk_head, .inl (k_bk_head, 14, .inl f_bk_head)), (bk_size, .inl (k_bk_size, 14, .inl f_bk_size)), (fl_smokeAt, .inl (k_fl_smokeAt, 14, .inl f_fl_smokeAt)), (fl_smokeIn, .inl (k_fl_smokeIn, 10, .inl f_fl_smokeIn))] U.heap ∧ va_K (dC, dI) classes [(k_bk_tail, .int), (k_bk_head, .int), (k_bk_size, .int), (k_fl_smokeAt, .int), (k_fl_smokeIn, .int)] U ∧ va_D (fun q => n0 ≤ q) [(fl, .inr (1, [.int (nI mm), .ref fl_knotOf, .ref fl_smokeAt, .ref fl_reach, .ref fl_route, .ref bk, .ref st, .ref fl_smokeIn])), (bk, .inr (0, [.int (nI bw), .ref bk_tail, .ref bk_head, .ref bk_hinder, .ref bk_size, .ref bk_walk, .ref bk_draught, .ref bk_doorIn, .ref bk_fanIn, .ref bk_faceIn, .int (nI bn), .int bk_day, .ref gr])), (bk_tail, .inl (k_bk_tail, 14, .inl f_bk_tail)), (bk_head, .inl (k_bk_head, 14, .inl f_bk_head)), (bk_size, .inl (k_bk_size, 14, .inl f_bk_size)), (fl_smokeAt, .inl (k_fl_smokeAt, 14, .inl f_fl_smokeAt)), (fl_smokeIn, .inl (k_fl_smokeIn, 10, .inl f_fl_smokeIn))])) (va_Qi (fun (r : Int32) (_ : Unit) => r = 0 ∨ r = 1) (fun (_ : Unit) (t : State) => ∃ (sa9 : Nat → Int32), ∃ (si9 : Nat → Int32), va_P (dC, dI) classes [(fl, .inr (1, [.int (nI mm), .ref fl_knotOf, .ref fl_smokeAt, .ref fl_reach, .ref fl_route, .ref bk, .ref st, .ref fl_smokeIn])), (bk, .inr (0, [.int (nI bw), .ref bk_tail, .ref bk_head, .ref bk_hinder, .ref bk_size, .ref bk_walk, .ref bk_draught, .ref bk_doorIn, .ref bk_fanIn, .ref bk_faceIn, .int (nI bn), .int bk_day, .ref gr])), (bk_tail, .inl (k_bk_tail, 14, .inl f_bk_tail)), (bk_head, .inl (k_bk_head, 14, .inl f_bk_head)), (bk_size, .inl (k_bk_size, 14, .inl f_bk_size)), (fl_smokeAt, .inl (k_fl_smokeAt, 14, .inl sa9)), (fl_smokeIn, .inl (k_fl_smokeIn, 10, .inl si9))] t.heap ∧ va_K (dC, dI) classes [(k_bk_tail, .int), (k_bk_head, .int), (k_bk_size, .int), (k_fl_smokeAt, .int), (k_fl_smokeIn, .int)] t ∧ va_D (va_A [(fl, .inr (1, [.int (nI mm), .ref fl_knotOf, .ref fl_smokeAt, .ref fl_reach, .ref fl_route, .ref bk, .ref st, .ref fl_smokeIn])), (bk, .inr (0, [.int (nI bw), .ref bk_tail, .ref bk_head, .ref bk_hinder, .ref bk_size, .ref bk_walk, .ref bk_draught, .ref bk_doorIn, .ref bk_fanIn, .ref bk_faceIn, .int (nI bn), .int bk_day, .ref gr])), (bk_tail, .inl (k_bk_tail, 14, .inl f_bk_tail)), (bk_head, .inl (k_bk_head, 14, .inl f_bk_head)), (bk_size, .inl (k_bk_size, 14, .inl f_bk_size)), (fl_smokeAt, .inl (k_fl_smokeAt, 14, .inl f_fl_smokeAt)), (fl_smokeIn, .inl (k_fl_smokeIn, 10, .inl f_fl_smokeIn))] sz) [(fl, .inr (1, [.int (nI mm), .ref fl_knotOf, .ref fl_smokeAt, .ref fl_reach, .ref fl_route, .ref bk, .ref st, .ref fl_smokeIn])), (bk, .inr (0, [.int (nI bw), .ref bk_tail, .ref bk_head, .ref bk_hinder, .ref bk_size, .ref bk_walk, .ref bk_draught, .ref bk_doorIn, .ref bk_fanIn, .ref bk_faceIn, .int (nI bn), .int bk_day, .ref gr])), (bk_tail, .inl (k_bk_tail, 14, .inl f_bk_tail)), (bk_head, .inl (k_bk_head, 14, .inl f_bk_head)), (bk_size, .inl (k_bk_size, 14, .inl f_bk_size)), (fl_smokeAt, .inl (k_fl_smokeAt, 14, .inl sa9)), (fl_smokeIn, .inl (k_fl_smokeIn, 10, .inl si9))]) (va_A [(fl, .inr (1, [.int (nI mm), .ref fl_knotOf, .ref fl_smokeAt, .ref fl_reach, .ref fl_route, .ref bk, .ref st, .ref fl_smokeIn])), (bk, .inr (0, [.int (nI bw), .ref bk_tail, .ref bk_head, .ref bk_hinder, .ref bk_size, .ref bk_walk, .ref bk_draught, .ref bk_doorIn, .ref bk_fanIn, .ref bk_faceIn, .int (nI bn), .int bk_day, .ref gr])), (bk_tail, .inl (k_bk_tail, 14, .inl f_bk_tail)), (bk_head, .inl (k_bk_head, 14, .inl f_bk_head)), (bk_size, .inl (k_bk_size, 14, .inl f_bk_size)), (fl_smokeAt, .inl (k_fl_smokeAt, 14, .inl f_fl_smokeAt)), (fl_smokeIn, .inl (k_fl_smokeIn, 10, .inl f_fl_smokeIn))] sz)) 0 0 (va_A [(fl, .inr (1, [.int (nI mm), .ref fl_knotOf, .ref fl_smokeAt, .ref fl_reach, .ref fl_route, .ref bk, .ref st, .ref fl_smokeIn])), (bk, .inr (0, [.int (nI bw), .ref bk_tail, .ref bk_head, .ref bk_hinder, .ref bk_size, .ref bk_walk, .ref bk_draught, .ref bk_doorIn, .ref bk_fanIn, .ref bk_faceIn, .int (nI bn), .int bk_day, .ref gr])), (bk_tail, .inl (k_bk_tail, 14, .inl f_bk_tail)), (bk_head, .inl (k_bk_head, 14, .inl f_bk_head)), (bk_size, .inl (k_bk_size, 14, .inl f_bk_size)), (fl_smokeAt, .inl (k_fl_smokeAt, 14, .inl f_fl_smokeAt)), (fl_smokeIn, .inl (k_fl_smokeIn, 10, .inl f_fl_smokeIn))] sz) := by
  refine Met.ofW (cc := cX1_drift) (maxL := 7) (ret := (some .boolean)) (by decide) rfl ?_
  intro p e s m args below meth c s₁ B hml hv
  obtain ⟨rfl, hsz, hn0, hG, hP, hK, hD0⟩ := hv
  have hx := B.exec
  have hb := B.bytes
  have hr := B.returns
  have hts := atoms_spec (ws := wM yX1_drift cX1_drift 7 (some .boolean)) B.pre
  have hown : s.vm.findClass RX1 = some m.cls := findClass_of_methodNamed B.named
  have hlocks := B.notSynchronized
  subst hsz
  have hD := hD0.self (sz := s.heap.size)
  have hA0 := vA_n0 hD0 hn0
  generalize hAe : va_A [(fl, .inr (1, [.int (nI mm), .ref fl_knotOf, .ref fl_smokeAt, .ref fl_reach, .ref fl_route, .ref bk, .ref st, .ref fl_smokeIn])), (bk, .inr (0, [.int (nI bw), .ref bk_tail, .ref bk_head, .ref bk_hinder, .ref bk_size, .ref bk_walk, .ref bk_draught, .ref bk_doorIn, .ref bk_fanIn, .ref bk_faceIn, .int (nI bn), .int bk_day, .ref gr])), (bk_tail, .inl (k_bk_tail, 14, .inl f_bk_tail)), (bk_head, .inl (k_bk_head, 14, .inl f_bk_head)), (bk_size, .inl (k_bk_size, 14, .inl f_bk_size)), (fl_smokeAt, .inl (k_fl_smokeAt, 14, .inl f_fl_smokeAt)), (fl_smokeIn, .inl (k_fl_smokeIn, 10, .inl f_fl_smokeIn))] s.heap.size = A at hD hA0 ⊢
  have hA : ∀ q : Nat, s.heap.size ≤ q → A q := fun q h => by rw [← hAe]; exact Or.inr h
  have hS : va_S A s.heap s.heap [] := va_S.rf
  have hl := lv_entry ([.ref fl, .int w, .int av]) (n := 7) (Nat.le_of_ble_eq_true rfl)
  rw [lg_entry_eq]
  generalize (lg_sl ([.ref fl, .int w, .int av]) ++ List.replicate (7 - (lg_sl ([.ref fl, .int w, .int av])).length) Slot.unset).toArray = ls at hl ⊢
  have hl : lv_has ls 7 [(0, .ref fl), (1, .int w), (2, .int av)] := hl
  refine lv_aload_n hx hb dX1_drift_0 rfl (lv_at hl 0 rfl) ?_
  refine va_get (D := (dC, dI)) (ci := 1) (v := .ref bk) (C := RX1) (T := TX1) (N := 8) hx hb hts (fun w h => wM_c (iX1 w h)) hown hK hP 0 rfl rfl 5 (by decide) (hts _ (wM_c wd_623)) (fun _ h9 => h9) rfl dX1_drift_1 ?_
  refine lv_iload_n hx hb dX1_drift_4 rfl (lv_at hl 1 rfl) ?_
  refine lv_iload_n hx hb dX1_drift_5 rfl (lv_at hl 2 rfl) ?_
  obtain ⟨hPc, hDc, hFc⟩ := s3_c (ws' := [(bk, .inr (0, [.int (nI bw), .ref bk_tail, .ref bk_head, .ref bk_hinder, .ref bk_size, .ref bk_walk, .ref bk_draught, .ref bk_doorIn, .ref bk_fanIn, .ref bk_faceIn, .int (nI bn), .int bk_day, .ref gr])), (bk_tail, .inl (k_bk_tail, 14, .inl f_bk_tail)), (bk_head, .inl (k_bk_head, 14, .inl f_bk_head))]) [1, 2, 3] hP hD hS hA rfl (by decide)
  have hKc := hK.sub (tys' := [(k_bk_tail, .int), (k_bk_head, .int)]) [0, 1] rfl
  refine va_calli (va_runV (As := [.int w, .int av]) (rest := []) ⟨hx, hb, hml, hown, hts⟩ (c0_startOf l dC dI n0 atx s.heap.size bk bw bk_tail bk_head bk_hinder bk_size bk_walk bk_draught bk_doorIn bk_fanIn bk_faceIn bn bk_day gr k_bk_tail f_bk_tail k_bk_head f_bk_head w av (by first | with_reducible assumption | omega | exact vp_in_iff.mpr (by omega) | exact vp_in_nI (by omega) (by omega) | exact ⟨by omega, by omega⟩) (by first | with_reducible assumption | omega | exact vp_in_iff.mpr (by omega) | exact vp_in_nI (by omega) (by omega) | exact ⟨by omega, by omega⟩) (by first | with_reducible assumption | omega | exact vp_in_iff.mpr (by omega) | exact vp_in_nI (by omega) (by omega) | exact ⟨by omega, by omega⟩) (by first | with_reducible assumption | omega | exact vp_in_iff.mpr (by omega) | exact vp_in_nI (by omega) (by omega) | exact ⟨by omega, by omega⟩) (by first | with_reducible assumption | omega | exact vp_in_iff.mpr (by omega) | exact vp_in_nI (by omega) (by omega) | exact ⟨by omega, by omega⟩) (by first | with_reducible assumption | omega | exact vp_in_iff.mpr (by omega) | exact vp_in_nI (by omega) (by omega) | exact ⟨by omega, by omega⟩)) (cwV 2 hts (gV (fun w h => wM_c h) wd_1120 wd_1230 wd_1118 wd_1119 wd_115) rfl rfl rfl (by decide +kernel) ⟨Nat.le_of_ble_eq_true rfl, Nat.le_of_ble_eq_true rfl⟩) ⟨fun a U g mk q => by obtain ⟨q0, q1, q2, qG, qP, qK, qD⟩ := q; exact ⟨q0, q1, q2, GW.blind qG, qP, va_K.moved (u := U) (U := U.calling g mk a) (Vm.Alike.refl U.vm) qK, qD⟩, va_recv hKc hPc (ci := 0) (q0 := 0) rfl rfl, fun U hU hW => ⟨rfl, by rw [hU], Nat.le_trans hn0 hS.1, GW.go hW hU hG (fun q hq hA9 => hS.2.1 q hq (fun h => hA9 (hA0 q h))), by rw [hU]; exact hPc, va_K.moved hW.alike hKc, hDc.weaken (fun _ _ _ h => hA0 _ h)⟩⟩ rfl rfl hl.1 rfl (lv_room (Nat.le_of_ble_eq_true rfl)) dX1_drift_6 ⟨Nat.le_of_ble_eq_true rfl, Nat.le_of_ble_eq_true rfl⟩) hS (fun q _ h => hFc q h) hFc (fun r_1 u t H1 locs ht hvm hw_2 hB hz1 hk1 hS => ?_)
  obtain ⟨hP1, hK1, hD1⟩ := hB
  rw [ht] at hP1
  obtain ⟨hP, hD⟩ := s3_j (L := [(fl, .inr (1, [.int (nI mm), .ref fl_knotOf, .ref fl_smokeAt, .ref fl_reach, .ref fl_route, .ref bk, .ref st, .ref fl_smokeIn])), (bk_size, .inl (k_bk_size, 14, .inl f_bk_size)), (fl_smokeAt, .inl (k_fl_smokeAt, 14, .inl f_fl_smokeAt)), (fl_smokeIn, .inl (k_fl_smokeIn, 10, .inl f_fl_smokeIn)), (bk, .inr (0, [.int (nI bw), .ref bk_tail, .ref bk_head, .ref bk_hinder, .ref bk_size, .ref bk_walk, .ref bk_draught, .ref bk_doorIn, .ref bk_fanIn, .ref bk_faceIn, .int (nI bn), .int bk_day, .ref gr])), (bk_tail, .inl (k_bk_tail, 14, .inl f_bk_tail)), (bk_head, .inl (k_bk_head, 14, .inl f_bk_head))]) 4 hP hD [1, 2, 3] [0, 4, 5, 6] hk1 hFc hP1 hD1 rfl rfl rfl (by decide) (by decide)
  generalize H1 = H at hP hS ⊢
  refine lv_istore_n (lv' := [(3, .int r_1), (0, .ref fl), (1, .int w), (2, .int av)]) hx hb dX1_drift_9 rfl hl (by decide) rfl (fun ls hl => ?_)
  refine lv_aload_n hx hb dX1_drift_10 rfl (lv_at hl 1 rfl) ?_
  refine va_get (D := (dC, dI)) (ci := 1) (v := .ref bk) (C := RX1) (T := TX1) (N := 8) hx hb hts (fun w h => wM_c (iX1 w h)) hown hK hP 0 rfl rfl 5 (by decide) (hts _ (wM_c wd_623)) (fun _ h9 => h9) rfl dX1_drift_11 ?_
  refine lv_iload_n hx hb dX1_drift_14 rfl (lv_at hl 2 rfl) ?_
  refine lv_iload_n hx hb dX1_drift_15 rfl (lv_at hl 3 rfl) ?_
  obtain ⟨hPc, hDc, hFc⟩ := s3_c (ws' := [(bk, .inr (0, [.int (nI bw), .ref bk_tail, .ref bk_head, .ref bk_hinder, .ref bk_size, .ref bk_walk, .ref bk_draught, .ref bk_doorIn, .ref bk_fanIn, .ref bk_faceIn, .int (nI bn), .int bk_day, .ref gr])), (bk_tail, .inl (k_bk_tail, 14, .inl f_bk_tail)), (bk_head, .inl (k_bk_head, 14, .inl f_bk_head))]) [4, 5, 6] hP hD hS hA rfl (by decide)
  have hKc := hK.sub (tys' := [(k_bk_tail, .int), (k_bk_head, .int)]) [0, 1] rfl
  refine va_calli (va_runV (As := [.int w, .int av]) (rest := []) ⟨hx, hb, hml, hown, hts⟩ (c0_endOf l dC dI n0 atx H.size bk bw bk_tail bk_head bk_hinder bk_size bk_walk bk_draught bk_doorIn bk_fanIn bk_faceIn bn bk_day gr k_bk_tail f_bk_tail k_bk_head f_bk_head w av (by first | with_reducible assumption | omega | exact vp_in_iff.mpr (by omega) | exact vp_in_nI (by omega) (by omega) | exact ⟨by omega, by omega⟩) (by first | with_reducible assumption | omega | exact vp_in_iff.mpr (by omega) | exact vp_in_nI (by omega) (by omega) | exact ⟨by omega, by omega⟩) (by first | with_reducible assumption | omega | exact vp_in_iff.mpr (by omega) | exact vp_in_nI (by omega) (by omega) | exact ⟨by omega, by omega⟩) (by first | with_reducible assumption | omega | exact vp_in_iff.mpr (by omega) | exact vp_in_nI (by omega) (by omega) | exact ⟨by omega, by omega⟩) (by first | with_reducible assumption | omega | exact vp_in_iff.mpr (by omega) | exact vp_in_nI (by omega) (by omega) | exact ⟨by omega, by omega⟩) (by first | with_reducible assumption | omega | exact vp_in_iff.mpr (by omega) | exact vp_in_nI (by omega) (by omega) | exact ⟨by omega, by omega⟩)) (cwV 2 hts (gV (fun w h => wM_c h) wd_1112 wd_1231 wd_1110 wd_1111 wd_115) rfl rfl rfl (by decide +kernel) ⟨Nat.le_of_ble_eq_true rfl, Nat.le_of_ble_eq_true rfl⟩) ⟨fun a U g mk q => by obtain ⟨q0, q1, q2, qG, qP, qK, qD⟩ := q; exact ⟨q0, q1, q2, GW.blind qG, qP, va_K.moved (u := U) (U := U.calling g mk a) (Vm.Alike.refl U.vm) qK, qD⟩, va_recv hKc hPc (ci := 0) (q0 := 0) rfl rfl, fun U hU hW => ⟨rfl, by rw [hU], Nat.le_trans hn0 hS.1, GW.go hW hU hG (fun q hq hA9 => hS.2.1 q hq (fun h => hA9 (hA0 q h))), by rw [hU]; exact hPc, va_K.moved hW.alike hKc, hDc.weaken (fun _ _ _ h => hA0 _ h)⟩⟩ rfl rfl hl.1 rfl (lv_room (Nat.le_of_ble_eq_true rfl)) dX1_drift_16 ⟨Nat.le_of_ble_eq_true rfl, Nat.le_of_ble_eq_true rfl⟩) hS (fun q _ h => hFc q h) hFc (fun r_3 u t H1 locs ht hvm hw_4 hB hz1 hk1 hS => ?_)
  obtain ⟨hP1, hK1, hD1⟩ := hB
  rw [ht] at hP1
  obtain ⟨hP, hD⟩ := s3_j (L := [(fl, .inr (1, [.int (nI mm), .ref fl_knotOf, .ref fl_smokeAt, .ref fl_reach, .ref fl_route, .ref bk, .ref st, .ref fl_smokeIn])), (bk_size, .inl (k_bk_size, 14, .inl f_bk_size)), (fl_smokeAt, .inl (k_fl_smokeAt, 14, .inl f_fl_smokeAt)), (fl_smokeIn, .inl (k_fl_smokeIn, 10, .inl f_fl_smokeIn)), (bk, .inr (0, [.int (nI bw), .ref bk_tail, .ref bk_head, .ref bk_hinder, .ref bk_size, .ref bk_walk, .ref bk_draught, .ref bk_doorIn, .ref bk_fanIn, .ref bk_faceIn, .int (nI bn), .int bk_day, .ref gr])), (bk_tail, .inl (k_bk_tail, 14, .inl f_bk_tail)), (bk_head, .inl (k_bk_head, 14, .inl f_bk_head))]) 4 hP hD [4, 5, 6] [0, 1, 2, 3] hk1 hFc hP1 hD1 rfl rfl rfl (by decide) (by decide)
  generalize H1 = H at hP hS ⊢
  refine lv_istore (lv' := [(4, .int r_3), (3, .int r_1), (0, .ref fl), (1, .int w), (2, .int av)]) hx hb dX1_drift_19 hl (by decide) rfl (fun ls hl => ?_)
  refine lv_iload_n hx hb dX1_drift_21 rfl (lv_at hl 1 rfl) ?_
  refine lv_aload_n hx hb dX1_drift_22 rfl (lv_at hl 2 rfl) ?_
  refine va_get (D := (dC, dI)) (ci := 1) (v := .ref bk) (C := RX1) (T := TX1) (N := 8) hx hb hts (fun w h => wM_c (iX1 w h)) hown hK hP 0 rfl rfl 5 (by decide) (hts _ (wM_c wd_623)) (fun _ h9 => h9) rfl dX1_drift_23 ?_
  refine va_get (D := (dC, dI)) (ci := 0) (v := .int bk_day) (C := RX0) (T := TX0) (N := 13) hx hb hts (fun w h => wM_c (iX0 w h)) hown hK hP 4 rfl rfl 11 (by decide) (hts _ (wM_c wd_290)) (fun _ h9 => h9) rfl dX1_drift_26 ?_
  refine lv_icmp_eq (tgt := 59) hx hb dX1_drift_29 (by decide) (fun c_5 => ?_) (fun c_5 => ?_)
  · skip
    have g_6 : r_1.toInt = bk_day.toInt := i_eq c_5
    refine lv_aload_n hx hb dX1_drift_59 rfl (lv_at hl 2 rfl) ?_
    refine va_get (D := (dC, dI)) (ci := 1) (v := .ref fl_smokeAt) (C := RX1) (T := TX1) (N := 8) hx hb hts (fun w h => wM_c (iX1 w h)) hown hK hP 0 rfl rfl 2 (by decide) (hts _ (wM_c wd_617)) (fun _ h9 => h9) rfl dX1_drift_60 ?_
    refine lv_iload_n hx hb dX1_drift_63 rfl (lv_at hl 3 rfl) ?_
    refine va_iald hx hb hK hP 2 3 rfl rfl (by first | with_reducible assumption | exact vp_in_iff.mpr (by omega)) dX1_drift_64 ?_
    refine lv_topi (fun v_7 ev_7 => ?_)
    refine lv_ldc hx hb hown (hts _ (wM_c wd_1223)) dX1_drift_65 ?_
    refine lv_icmp_ne (tgt := 72) hx hb dX1_drift_67 (by decide) (fun c_8 => ?_) (fun c_8 => ?_)
    · skip
      have g_9 : v_7.toInt ≠ (2147483647 : Int) := i_ne c_8
      refine lv_iload_n hx hb dX1_drift_72 rfl (lv_at hl 4 rfl) ?_
      refine va_mabs hx hb (by rw [hml]; exact hl.1.symm) hown (hts _ (wM_c wd_1232)) (hts _ (wM_c wd_1122)) (hts _ (wM_c wd_138)) (hts _ (wM_c wd_math_abs)) (Nat.le_of_ble_eq_true rfl) (Nat.le_of_ble_eq_true rfl) (Nat.le_of_ble_eq_true rfl) (Nat.le_of_ble_eq_true rfl) dX1_drift_73 ?_
      refine lv_topi (fun v_10 ev_10 => ?_)
      refine lv_istore (lv' := [(5, .int v_10), (4, .int r_3), (3, .int r_1), (0, .ref fl), (1, .int w), (2, .int av)]) hx hb dX1_drift_76 hl (by decide) rfl (fun ls hl => ?_)
      refine lv_aload_n hx hb dX1_drift_78 rfl (lv_at hl 3 rfl) ?_
      refine va_get (D := (dC, dI)) (ci := 1) (v := .ref fl_smokeAt) (C := RX1) (T := TX1) (N := 8) hx hb hts (fun w h => wM_c (iX1 w h)) hown hK hP 0 rfl rfl 2 (by decide) (hts _ (wM_c wd_617)) (fun _ h9 => h9) rfl dX1_drift_79 ?_
      refine lv_iload_n hx hb dX1_drift_82 rfl (lv_at hl 4 rfl) ?_
      refine va_iald hx hb hK hP 2 3 rfl rfl (by first | with_reducible assumption | exact vp_in_iff.mpr (by omega)) dX1_drift_83 ?_
      refine lv_topi (fun v_11 ev_11 => ?_)
      refine lv_aload_n hx hb dX1_drift_84 rfl (lv_at hl 3 rfl) ?_
      refine va_get (D := (dC, dI)) (ci := 1) (v := .ref bk) (C := RX1) (T := TX1) (N := 8) hx hb hts (fun w h => wM_c (iX1 w h)) hown hK hP 0 rfl rfl 5 (by decide) (hts _ (wM_c wd_623)) (fun _ h9 => h9) rfl dX1_drift_85 ?_
      refine va_get (D := (dC, dI)) (ci := 0) (v := .ref bk_size) (C := RX0) (T := TX0) (N := 13) hx hb hts (fun w h => wM_c (iX0 w h)) hown hK hP 4 rfl rfl 4 (by decide) (hts _ (wM_c wd_260)) (fun _ h9 => h9) rfl dX1_drift_88 ?_
      refine lv_iload_n hx hb dX1_drift_91 rfl (lv_at hl 4 rfl) ?_
      refine va_iald hx hb hK hP 1 2 rfl rfl (by first | with_reducible assumption | exact vp_in_iff.mpr (by omega)) dX1_drift_92 ?_
      refine lv_topi (fun v_12 ev_12 => ?_)
      refine lv_iload hx hb dX1_drift_93 (lv_at hl 0 rfl) ?_
      refine lv_iadd hx hb dX1_drift_95 ?_
      refine lv_topi (fun v_13 ev_13 => ?_)
      refine lv_iconst (v := 1) hx hb dX1_drift_96 (by decide) ?_
      refine lv_isub hx hb dX1_drift_97 ?_
      refine lv_topi (fun v_14 ev_14 => ?_)
      refine lv_iload hx hb dX1_drift_98 (lv_at hl 0 rfl) ?_
      refine lv_idiv hx hb dX1_drift_100 (mabs_ne ev_10 hav) ?_
      refine lv_topi (fun v_15 ev_15 => ?_)
      refine lv_iadd hx hb dX1_drift_101 ?_
      refine lv_topi (fun v_16 ev_16 => ?_)
      refine lv_istore (lv' := [(6, .int v_16), (5, .int v_10), (4, .int r_3), (3, .int r_1), (0, .ref fl), (1, .int w), (2, .int av)]) hx hb dX1_drift_102 hl (by decide) rfl (fun ls hl => ?_)
      refine lv_iload hx hb dX1_drift_104 (lv_at hl 0 rfl) ?_
      refine lv_aload_n hx hb dX1_drift_106 rfl (lv_at hl 4 rfl) ?_
      refine va_get (D := (dC, dI)) (ci := 1) (v := .ref fl_smokeIn) (C := RX1) (T := TX1) (N := 8) hx hb hts (fun w h => wM_c (iX1 w h)) hown hK hP 0 rfl rfl 7 (by decide) (hts _ (wM_c wd_625)) (fun _ h9 => h9) rfl dX1_drift_107 ?_
      refine lv_iload hx hb dX1_drift_110 (lv_at hl 2 rfl) ?_
      refine va_iald hx hb hK hP 3 4 rfl rfl (by first | with_reducible assumption | exact vp_in_iff.mpr (by omega)) dX1_drift_112 ?_
      refine lv_topi (fun v_17 ev_17 => ?_)
      refine lv_icmp_lt (tgt := 118) hx hb dX1_drift_113 (by decide) (fun c_18 => ?_) (fun c_18 => ?_)
      · skip
        have g_19 : v_16.toInt < v_17.toInt := i_lt c_18
        refine lv_aload_n hx hb dX1_drift_118 rfl (lv_at hl 4 rfl) ?_
        refine va_get (D := (dC, dI)) (ci := 1) (v := .ref fl_smokeIn) (C := RX1) (T := TX1) (N := 8) hx hb hts (fun w h => wM_c (iX1 w h)) hown hK hP 0 rfl rfl 7 (by decide) (hts _ (wM_c wd_625)) (fun _ h9 => h9) rfl dX1_drift_119 ?_
        refine lv_iload hx hb dX1_drift_122 (lv_at hl 2 rfl) ?_
        refine lv_iload hx hb dX1_drift_124 (lv_at hl 0 rfl) ?_
        refine va_iast hx hb hK hP hD hS 3 4 rfl rfl (by first | with_reducible assumption | exact vp_in_iff.mpr (by omega)) dX1_drift_126 (fun H locs hP hD hS => ?_)
        obtain ⟨f_20, ef_20⟩ : ∃ f9, f9 = (upd f_fl_smokeIn r_3.toNatClampNeg v_16) := ⟨_, rfl⟩
        obtain ⟨hP, hD⟩ : s3_w (dC, dI) classes A [(fl, .inr (1, [.int (nI mm), .ref fl_knotOf, .ref fl_smokeAt, .ref fl_reach, .ref fl_route, .ref bk, .ref st, .ref fl_smokeIn])), (bk_size, .inl (k_bk_size, 14, .inl f_bk_size)), (fl_smokeAt, .inl (k_fl_smokeAt, 14, .inl f_fl_smokeAt)), (fl_smokeIn, .inl (k_fl_smokeIn, 10, .inl f_20)), (bk, .inr (0, [.int (nI bw), .ref bk_tail, .ref bk_head, .ref bk_hinder, .ref bk_size, .ref bk_walk, .ref bk_draught, .ref bk_doorIn, .ref bk_fanIn, .ref bk_faceIn, .int (nI bn), .int bk_day, .ref gr])), (bk_tail, .inl (k_bk_tail, 14, .inl f_bk_tail)), (bk_head, .inl (k_bk_head, 14, .inl f_bk_head))] H := ⟨(by rw [ef_20]; exact hP), (by rw [ef_20]; exact hD)⟩
        refine lv_iconst (v := 1) hx hb dX1_drift_127 (by decide) ?_
        have hK9 := hK.sub (tys' := [(k_bk_tail, .int), (k_bk_head, .int), (k_bk_size, .int), (k_fl_smokeAt, .int), (k_fl_smokeIn, .int)]) [0, 1, 2, 3, 4] rfl
        exact W.zret (v := 1) hx hb hr rfl (fun t ht hW => ⟨⟨1, (), rfl, (Or.inr rfl), f_fl_smokeAt, f_20, by rw [ht]; exact hP.sub [0, 4, 5, 6, 1, 2, 3] rfl, va_K.moved hW.alike hK9, hD.sub [0, 4, 5, 6, 1, 2, 3] (by decide) rfl⟩, hS.F ht⟩) hS.2.2 dX1_drift_128
      · skip
        have g_21 : v_17.toInt ≤ v_16.toInt := i_nlt c_18
        refine lv_iconst (v := 0) hx hb dX1_drift_116 (by decide) ?_
        have hK9 := hK.sub (tys' := [(k_bk_tail, .int), (k_bk_head, .int), (k_bk_size, .int), (k_fl_smokeAt, .int), (k_fl_smokeIn, .int)]) [0, 1, 2, 3, 4] rfl
        exact W.zret (v := 0) hx hb hr rfl (fun t ht hW => ⟨⟨0, (), rfl, (Or.inl rfl), f_fl_smokeAt, f_fl_smokeIn, by rw [ht]; exact hP.sub [0, 4, 5, 6, 1, 2, 3] rfl, va_K.moved hW.alike hK9, hD.sub [0, 4, 5, 6, 1, 2, 3] (by decide) rfl⟩, hS.F ht⟩) hS.2.2 dX1_drift_117
    · skip
      have g_22 : v_7.toInt = (2147483647 : Int) := i_eq c_8
      refine lv_iconst (v := 0) hx hb dX1_drift_70 (by decide) ?_
      have hK9 := hK.sub (tys' := [(k_bk_tail, .int), (k_bk_head, .int), (k_bk_size, .int), (k_fl_smokeAt, .int), (k_fl_smokeIn, .int)]) [0, 1, 2, 3, 4] rfl
      exact W.zret (v := 0) hx hb hr rfl (fun t ht hW => ⟨⟨0, (), rfl, (Or.inl rfl), f_fl_smokeAt, f_fl_smokeIn, by rw [ht]; exact hP.sub [0, 4, 5, 6, 1, 2, 3] rfl, va_K.moved hW.alike hK9, hD.sub [0, 4, 5, 6, 1, 2, 3] (by decide) rfl⟩, hS.F ht⟩) hS.2.2 dX1_drift_71
  · skip
    have g_23 : r_1.toInt ≠ bk_day.toInt := i_ne c_5
    refine lv_aload_n hx hb dX1_drift_32 rfl (lv_at hl 2 rfl) ?_
    refine va_get (D := (dC, dI)) (ci := 1) (v := .ref fl_smokeIn) (C := RX1) (T := TX1) (N := 8) hx hb hts (fun w h => wM_c (iX1 w h)) hown hK hP 0 rfl rfl 7 (by decide) (hts _ (wM_c wd_625)) (fun _ h9 => h9) rfl dX1_drift_33 ?_
    refine lv_iload_n hx hb dX1_drift_36 rfl (lv_at hl 1 rfl) ?_
    refine va_iald hx hb hK hP 3 4 rfl rfl (by first | with_reducible assumption | exact vp_in_iff.mpr (by omega)) dX1_drift_37 ?_
    refine lv_topi (fun v_24 ev_24 => ?_)
    refine lv_aload_n hx hb dX1_drift_38 rfl (lv_at hl 2 rfl) ?_
    refine va_get (D := (dC, dI)) (ci := 1) (v := .ref fl_smokeAt) (C := RX1) (T := TX1) (N := 8) hx hb hts (fun w h => wM_c (iX1 w h)) hown hK hP 0 rfl rfl 2 (by decide) (hts _ (wM_c wd_617)) (fun _ h9 => h9) rfl dX1_drift_39 ?_
    refine lv_iload_n hx hb dX1_drift_42 rfl (lv_at hl 3 rfl) ?_
    refine va_iald hx hb hK hP 2 3 rfl rfl (by first | with_reducible assumption | exact vp_in_iff.mpr (by omega)) dX1_drift_43 ?_
    refine lv_topi (fun v_25 ev_25 => ?_)
    refine lv_icmp_ge (tgt := 59) hx hb dX1_drift_44 (by decide) (fun c_26 => ?_) (fun c_26 => ?_)
    · skip
      have g_27 : v_25.toInt ≤ v_24.toInt := i_le c_26
      refine lv_aload_n hx hb dX1_drift_59 rfl (lv_at hl 2 rfl) ?_
      refine va_get (D := (dC, dI)) (ci := 1) (v := .ref fl_smokeAt) (C := RX1) (T := TX1) (N := 8) hx hb hts (fun w h => wM_c (iX1 w h)) hown hK hP 0 rfl rfl 2 (by decide) (hts _ (wM_c wd_617)) (fun _ h9 => h9) rfl dX1_drift_60 ?_
      refine lv_iload_n hx hb dX1_drift_63 rfl (lv_at hl 3 rfl) ?_
      refine va_iald hx hb hK hP 2 3 rfl rfl (by first | with_reducible assumption | exact vp_in_iff.mpr (by omega)) dX1_drift_64 ?_
      refine lv_topi (fun v_28 ev_28 => ?_)
      refine lv_ldc hx hb hown (hts _ (wM_c wd_1223)) dX1_drift_65 ?_
      refine lv_icmp_ne (tgt := 72) hx hb dX1_drift_67 (by decide) (fun c_29 => ?_) (fun c_29 => ?_)
      · skip
        have g_30 : v_28.toInt ≠ (2147483647 : Int) := i_ne c_29
        refine lv_iload_n hx hb dX1_drift_72 rfl (lv_at hl 4 rfl) ?_
        refine va_mabs hx hb (by rw [hml]; exact hl.1.symm) hown (hts _ (wM_c wd_1232)) (hts _ (wM_c wd_1122)) (hts _ (wM_c wd_138)) (hts _ (wM_c wd_math_abs)) (Nat.le_of_ble_eq_true rfl) (Nat.le_of_ble_eq_true rfl) (Nat.le_of_ble_eq_true rfl) (Nat.le_of_ble_eq_true rfl) dX1_drift_73 ?_
        refine lv_topi (fun v_31 ev_31 => ?_)
        refine lv_istore (lv' := [(5, .int v_31), (4, .int r_3), (3, .int r_1), (0, .ref fl), (1, .int w), (2, .int av)]) hx hb dX1_drift_76 hl (by decide) rfl (fun ls hl => ?_)
        refine lv_aload_n hx hb dX1_drift_78 rfl (lv_at hl 3 rfl) ?_
        refine va_get (D := (dC, dI)) (ci := 1) (v := .ref fl_smokeAt) (C := RX1) (T := TX1) (N := 8) hx hb hts (fun w h => wM_c (iX1 w h)) hown hK hP 0 rfl rfl 2 (by decide) (hts _ (wM_c wd_617)) (fun _ h9 => h9) rfl dX1_drift_79 ?_
        refine lv_iload_n hx hb dX1_drift_82 rfl (lv_at hl 4 rfl) ?_
        refine va_iald hx hb hK hP 2 3 rfl rfl (by first | with_reducible assumption | exact vp_in_iff.mpr (by omega)) dX1_drift_83 ?_
        refine lv_topi (fun v_32 ev_32 => ?_)
        refine lv_aload_n hx hb dX1_drift_84 rfl (lv_at hl 3 rfl) ?_
        refine va_get (D := (dC, dI)) (ci := 1) (v := .ref bk) (C := RX1) (T := TX1) (N := 8) hx hb hts (fun w h => wM_c (iX1 w h)) hown hK hP 0 rfl rfl 5 (by decide) (hts _ (wM_c wd_623)) (fun _ h9 => h9) rfl dX1_drift_85 ?_
        refine va_get (D := (dC, dI)) (ci := 0) (v := .ref bk_size) (C := RX0) (T := TX0) (N := 13) hx hb hts (fun w h => wM_c (iX0 w h)) hown hK hP 4 rfl rfl 4 (by decide) (hts _ (wM_c wd_260)) (fun _ h9 => h9) rfl dX1_drift_88 ?_
        refine lv_iload_n hx hb dX1_drift_91 rfl (lv_at hl 4 rfl) ?_
        refine va_iald hx hb hK hP 1 2 rfl rfl (by first | with_reducible assumption | exact vp_in_iff.mpr (by omega)) dX1_drift_92 ?_
        refine lv_topi (fun v_33 ev_33 => ?_)
        refine lv_iload hx hb dX1_drift_93 (lv_at hl 0 rfl) ?_
        refine lv_iadd hx hb dX1_drift_95 ?_
        refine lv_topi (fun v_34 ev_34 => ?_)
        refine lv_iconst (v := 1) hx hb dX1_drift_96 (by decide) ?_
        refine lv_isub hx hb dX1_drift_97 ?_
        refine lv_topi (fun v_35 ev_35 => ?_)
        refine lv_iload hx hb dX1_drift_98 (lv_at hl 0 rfl) ?_
        refine lv_idiv hx hb dX1_drift_100 (mabs_ne ev_31 hav) ?_
        refine lv_topi (fun v_36 ev_36 => ?_)
        refine lv_iadd hx hb dX1_drift_101 ?_
        refine lv_topi (fun v_37 ev_37 => ?_)
        refine lv_istore (lv' := [(6, .int v_37), (5, .int v_31), (4, .int r_3), (3, .int r_1), (0, .ref fl), (1, .int w), (2, .int av)]) hx hb dX1_drift_102 hl (by decide) rfl (fun ls hl => ?_)
        refine lv_iload hx hb dX1_drift_104 (lv_at hl 0 rfl) ?_
        refine lv_aload_n hx hb dX1_drift_106 rfl (lv_at hl 4 rfl) ?_
        refine va_get (D := (dC, dI)) (ci := 1) (v := .ref fl_smokeIn) (C := RX1) (T := TX1) (N := 8) hx hb hts (fun w h => wM_c (iX1 w h)) hown hK hP 0 rfl rfl 7 (by decide) (hts _ (wM_c wd_625)) (fun _ h9 => h9) rfl dX1_drift_107 ?_
        refine lv_iload hx hb dX1_drift_110 (lv_at hl 2 rfl) ?_
        refine va_iald hx hb hK hP 3 4 rfl rfl (by first | with_reducible assumption | exact vp_in_iff.mpr (by omega)) dX1_drift_112 ?_
        refine lv_topi (fun v_38 ev_38 => ?_)
        refine lv_icmp_lt (tgt := 118) hx hb dX1_drift_113 (by decide) (fun c_39 => ?_) (fun c_39 => ?_)
        · skip
          have g_40 : v_37.toInt < v_38.toInt := i_lt c_39
          refine lv_aload_n hx hb dX1_drift_118 rfl (lv_at hl 4 rfl) ?_
          refine va_get (D := (dC, dI)) (ci := 1) (v := .ref fl_smokeIn) (C := RX1) (T := TX1) (N := 8) hx hb hts (fun w h => wM_c (iX1 w h)) hown hK hP 0 rfl rfl 7 (by decide) (hts _ (wM_c wd_625)) (fun _ h9 => h9) rfl dX1_drift_119 ?_
          refine lv_iload hx hb dX1_drift_122 (lv_at hl 2 rfl) ?_
          refine lv_iload hx hb dX1_drift_124 (lv_at hl 0 rfl) ?_
          refine va_iast hx hb hK hP hD hS 3 4 rfl rfl (by first | with_reducible assumption | exact vp_in_iff.mpr (by omega)) dX1_drift_126 (fun H locs hP hD hS => ?_)
          obtain ⟨f_41, ef_41⟩ : ∃ f9, f9 = (upd f_fl_smokeIn r_3.toNatClampNeg v_37) := ⟨_, rfl⟩
          obtain ⟨hP, hD⟩ : s3_w (dC, dI) classes A [(fl, .inr (1, [.int (nI mm), .ref fl_knotOf, .ref fl_smokeAt, .ref fl_reach, .ref fl_route, .ref bk, .ref st, .ref fl_smokeIn])), (bk_size, .inl (k_bk_size, 14, .inl f_bk_size)), (fl_smokeAt, .inl (k_fl_smokeAt, 14, .inl f_fl_smokeAt)), (fl_smokeIn, .inl (k_fl_smokeIn, 10, .inl f_41)), (bk, .inr (0, [.int (nI bw), .ref bk_tail, .ref bk_head, .ref bk_hinder, .ref bk_size, .ref bk_walk, .ref bk_draught, .ref bk_doorIn, .ref bk_fanIn, .ref bk_faceIn, .int (nI bn), .int bk_day, .ref gr])), (bk_tail, .inl (k_bk_tail, 14, .inl f_bk_tail)), (bk_head, .inl (k_bk_head, 14, .inl f_bk_head))] H := ⟨(by rw [ef_41]; exact hP), (by rw [ef_41]; exact hD)⟩
          refine lv_iconst (v := 1) hx hb dX1_drift_127 (by decide) ?_
          have hK9 := hK.sub (tys' := [(k_bk_tail, .int), (k_bk_head, .int), (k_bk_size, .int), (k_fl_smokeAt, .int), (k_fl_smokeIn, .int)]) [0, 1, 2, 3, 4] rfl
          exact W.zret (v := 1) hx hb hr rfl (fun t ht hW => ⟨⟨1, (), rfl, (Or.inr rfl), f_fl_smokeAt, f_41, by rw [ht]; exact hP.sub [0, 4, 5, 6, 1, 2, 3] rfl, va_K.moved hW.alike hK9, hD.sub [0, 4, 5, 6, 1, 2, 3] (by decide) rfl⟩, hS.F ht⟩) hS.2.2 dX1_drift_128
        · skip
          have g_42 : v_38.toInt ≤ v_37.toInt := i_nlt c_39
          refine lv_iconst (v := 0) hx hb dX1_drift_116 (by decide) ?_
          have hK9 := hK.sub (tys' := [(k_bk_tail, .int), (k_bk_head, .int), (k_bk_size, .int), (k_fl_smokeAt, .int), (k_fl_smokeIn, .int)]) [0, 1, 2, 3, 4] rfl
          exact W.zret (v := 0) hx hb hr rfl (fun t ht hW => ⟨⟨0, (), rfl, (Or.inl rfl), f_fl_smokeAt, f_fl_smokeIn, by rw [ht]; exact hP.sub [0, 4, 5, 6, 1, 2, 3] rfl, va_K.moved hW.alike hK9, hD.sub [0, 4, 5, 6, 1, 2, 3] (by decide) rfl⟩, hS.F ht⟩) hS.2.2 dX1_drift_117
      · skip
        have g_43 : v_28.toInt = (2147483647 : Int) := i_eq c_29
        refine lv_iconst (v := 0) hx hb dX1_drift_70 (by decide) ?_
        have hK9 := hK.sub (tys' := [(k_bk_tail, .int), (k_bk_head, .int), (k_bk_size, .int), (k_fl_smokeAt, .int), (k_fl_smokeIn, .int)]) [0, 1, 2, 3, 4] rfl
        exact W.zret (v := 0) hx hb hr rfl (fun t ht hW => ⟨⟨0, (), rfl, (Or.inl rfl), f_fl_smokeAt, f_fl_smokeIn, by rw [ht]; exact hP.sub [0, 4, 5, 6, 1, 2, 3] rfl, va_K.moved hW.alike hK9, hD.sub [0, 4, 5, 6, 1, 2, 3] (by decide) rfl⟩, hS.F ht⟩) hS.2.2 dX1_drift_71
    · skip
      have g_44 : v_24.toInt < v_25.toInt := i_nle c_26
      refine lv_aload_n hx hb dX1_drift_47 rfl (lv_at hl 2 rfl) ?_
      refine va_get (D := (dC, dI)) (ci := 1) (v := .ref fl_smokeAt) (C := RX1) (T := TX1) (N := 8) hx hb hts (fun w h => wM_c (iX1 w h)) hown hK hP 0 rfl rfl 2 (by decide) (hts _ (wM_c wd_617)) (fun _ h9 => h9) rfl dX1_drift_48 ?_
      refine lv_iload_n hx hb dX1_drift_51 rfl (lv_at hl 3 rfl) ?_
      refine lv_aload_n hx hb dX1_drift_52 rfl (lv_at hl 2 rfl) ?_
      refine va_get (D := (dC, dI)) (ci := 1) (v := .ref fl_smokeIn) (C := RX1) (T := TX1) (N := 8) hx hb hts (fun w h => wM_c (iX1 w h)) hown hK hP 0 rfl rfl 7 (by decide) (hts _ (wM_c wd_625)) (fun _ h9 => h9) rfl dX1_drift_53 ?_
      refine lv_iload_n hx hb dX1_drift_56 rfl (lv_at hl 1 rfl) ?_
      refine va_iald hx hb hK hP 3 4 rfl rfl (by first | with_reducible assumption | exact vp_in_iff.mpr (by omega)) dX1_drift_57 ?_
      refine lv_topi (fun v_45 ev_45 => ?_)
      refine va_iast hx hb hK hP hD hS 2 3 rfl rfl (by first | with_reducible assumption | exact vp_in_iff.mpr (by omega)) dX1_drift_58 (fun H locs hP hD hS => ?_)
      obtain ⟨f_46, ef_46⟩ : ∃ f9, f9 = (upd f_fl_smokeAt w.toNatClampNeg v_45) := ⟨_, rfl⟩
      obtain ⟨hP, hD⟩ : s3_w (dC, dI) classes A [(fl, .inr (1, [.int (nI mm), .ref fl_knotOf, .ref fl_smokeAt, .ref fl_reach, .ref fl_route, .ref bk, .ref st, .ref fl_smokeIn])), (bk_size, .inl (k_bk_size, 14, .inl f_bk_size)), (fl_smokeAt, .inl (k_fl_smokeAt, 14, .inl f_46)), (fl_smokeIn, .inl (k_fl_smokeIn, 10, .inl f_fl_smokeIn)), (bk, .inr (0, [.int (nI bw), .ref bk_tail, .ref bk_head, .ref bk_hinder, .ref bk_size, .ref bk_walk, .ref bk_draught, .ref bk_doorIn, .ref bk_fanIn, .ref bk_faceIn, .int (nI bn), .int bk_day, .ref gr])), (bk_tail, .inl (k_bk_tail, 14, .inl f_bk_tail)), (bk_head, .inl (k_bk_head, 14, .inl f_bk_head))] H := ⟨(by rw [ef_46]; exact hP), (by rw [ef_46]; exact hD)⟩
      refine lv_aload_n hx hb dX1_drift_59 rfl (lv_at hl 2 rfl) ?_
      refine va_get (D := (dC, dI)) (ci := 1) (v := .ref fl_smokeAt) (C := RX1) (T := TX1) (N := 8) hx hb hts (fun w h => wM_c (iX1 w h)) hown hK hP 0 rfl rfl 2 (by decide) (hts _ (wM_c wd_617)) (fun _ h9 => h9) rfl dX1_drift_60 ?_
      refine lv_iload_n hx hb dX1_drift_63 rfl (lv_at hl 3 rfl) ?_
      refine va_iald hx hb hK hP 2 3 rfl rfl (by first | with_reducible assumption | exact vp_in_iff.mpr (by omega)) dX1_drift_64 ?_
      refine lv_topi (fun v_47 ev_47 => ?_)
      refine lv_ldc hx hb hown (hts _ (wM_c wd_1223)) dX1_drift_65 ?_
      refine lv_icmp_ne (tgt := 72) hx hb dX1_drift_67 (by decide) (fun c_48 => ?_) (fun c_48 => ?_)
      · skip
        have g_49 : v_47.toInt ≠ (2147483647 : Int) := i_ne c_48
        refine lv_iload_n hx hb dX1_drift_72 rfl (lv_at hl 4 rfl) ?_
        refine va_mabs hx hb (by rw [hml]; exact hl.1.symm) hown (hts _ (wM_c wd_1232)) (hts _ (wM_c wd_1122)) (hts _ (wM_c wd_138)) (hts _ (wM_c wd_math_abs)) (Nat.le_of_ble_eq_true rfl) (Nat.le_of_ble_eq_true rfl) (Nat.le_of_ble_eq_true rfl) (Nat.le_of_ble_eq_true rfl) dX1_drift_73 ?_
        refine lv_topi (fun v_50 ev_50 => ?_)
        refine lv_istore (lv' := [(5, .int v_50), (4, .int r_3), (3, .int r_1), (0, .ref fl), (1, .int w), (2, .int av)]) hx hb dX1_drift_76 hl (by decide) rfl (fun ls hl => ?_)
        refine lv_aload_n hx hb dX1_drift_78 rfl (lv_at hl 3 rfl) ?_
        refine va_get (D := (dC, dI)) (ci := 1) (v := .ref fl_smokeAt) (C := RX1) (T := TX1) (N := 8) hx hb hts (fun w h => wM_c (iX1 w h)) hown hK hP 0 rfl rfl 2 (by decide) (hts _ (wM_c wd_617)) (fun _ h9 => h9) rfl dX1_drift_79 ?_
        refine lv_iload_n hx hb dX1_drift_82 rfl (lv_at hl 4 rfl) ?_
        refine va_iald hx hb hK hP 2 3 rfl rfl (by first | with_reducible assumption | exact vp_in_iff.mpr (by omega)) dX1_drift_83 ?_
        refine lv_topi (fun v_51 ev_51 => ?_)
        refine lv_aload_n hx hb dX1_drift_84 rfl (lv_at hl 3 rfl) ?_
        refine va_get (D := (dC, dI)) (ci := 1) (v := .ref bk) (C := RX1) (T := TX1) (N := 8) hx hb hts (fun w h => wM_c (iX1 w h)) hown hK hP 0 rfl rfl 5 (by decide) (hts _ (wM_c wd_623)) (fun _ h9 => h9) rfl dX1_drift_85 ?_
        refine va_get (D := (dC, dI)) (ci := 0) (v := .ref bk_size) (C := RX0) (T := TX0) (N := 13) hx hb hts (fun w h => wM_c (iX0 w h)) hown hK hP 4 rfl rfl 4 (by decide) (hts _ (wM_c wd_260)) (fun _ h9 => h9) rfl dX1_drift_88 ?_
        refine lv_iload_n hx hb dX1_drift_91 rfl (lv_at hl 4 rfl) ?_
        refine va_iald hx hb hK hP 1 2 rfl rfl (by first | with_reducible assumption | exact vp_in_iff.mpr (by omega)) dX1_drift_92 ?_
        refine lv_topi (fun v_52 ev_52 => ?_)
        refine lv_iload hx hb dX1_drift_93 (lv_at hl 0 rfl) ?_
        refine lv_iadd hx hb dX1_drift_95 ?_
        refine lv_topi (fun v_53 ev_53 => ?_)
        refine lv_iconst (v := 1) hx hb dX1_drift_96 (by decide) ?_
        refine lv_isub hx hb dX1_drift_97 ?_
        refine lv_topi (fun v_54 ev_54 => ?_)
        refine lv_iload hx hb dX1_drift_98 (lv_at hl 0 rfl) ?_
        refine lv_idiv hx hb dX1_drift_100 (mabs_ne ev_50 hav) ?_
        refine lv_topi (fun v_55 ev_55 => ?_)
        refine lv_iadd hx hb dX1_drift_101 ?_
        refine lv_topi (fun v_56 ev_56 => ?_)
        refine lv_istore (lv' := [(6, .int v_56), (5, .int v_50), (4, .int r_3), (3, .int r_1), (0, .ref fl), (1, .int w), (2, .int av)]) hx hb dX1_drift_102 hl (by decide) rfl (fun ls hl => ?_)
        refine lv_iload hx hb dX1_drift_104 (lv_at hl 0 rfl) ?_
        refine lv_aload_n hx hb dX1_drift_106 rfl (lv_at hl 4 rfl) ?_
        refine va_get (D := (dC, dI)) (ci := 1) (v := .ref fl_smokeIn) (C := RX1) (T := TX1) (N := 8) hx hb hts (fun w h => wM_c (iX1 w h)) hown hK hP 0 rfl rfl 7 (by decide) (hts _ (wM_c wd_625)) (fun _ h9 => h9) rfl dX1_drift_107 ?_
        refine lv_iload hx hb dX1_drift_110 (lv_at hl 2 rfl) ?_
        refine va_iald hx hb hK hP 3 4 rfl rfl (by first | with_reducible assumption | exact vp_in_iff.mpr (by omega)) dX1_drift_112 ?_
        refine lv_topi (fun v_57 ev_57 => ?_)
        refine lv_icmp_lt (tgt := 118) hx hb dX1_drift_113 (by decide) (fun c_58 => ?_) (fun c_58 => ?_)
        · skip
          have g_59 : v_56.toInt < v_57.toInt := i_lt c_58
          refine lv_aload_n hx hb dX1_drift_118 rfl (lv_at hl 4 rfl) ?_
          refine va_get (D := (dC, dI)) (ci := 1) (v := .ref fl_smokeIn) (C := RX1) (T := TX1) (N := 8) hx hb hts (fun w h => wM_c (iX1 w h)) hown hK hP 0 rfl rfl 7 (by decide) (hts _ (wM_c wd_625)) (fun _ h9 => h9) rfl dX1_drift_119 ?_
          refine lv_iload hx hb dX1_drift_122 (lv_at hl 2 rfl) ?_
          refine lv_iload hx hb dX1_drift_124 (lv_at hl 0 rfl) ?_
          refine va_iast hx hb hK hP hD hS 3 4 rfl rfl (by first | with_reducible assumption | exact vp_in_iff.mpr (by omega)) dX1_drift_126 (fun H locs hP hD hS => ?_)
          obtain ⟨f_60, ef_60⟩ : ∃ f9, f9 = (upd f_fl_smokeIn r_3.toNatClampNeg v_56) := ⟨_, rfl⟩
          obtain ⟨hP, hD⟩ : s3_w (dC, dI) classes A [(fl, .inr (1, [.int (nI mm), .ref fl_knotOf, .ref fl_smokeAt, .ref fl_reach, .ref fl_route, .ref bk, .ref st, .ref fl_smokeIn])), (bk_size, .inl (k_bk_size, 14, .inl f_bk_size)), (fl_smokeAt, .inl (k_fl_smokeAt, 14, .inl f_46)), (fl_smokeIn, .inl (k_fl_smokeIn, 10, .inl f_60)), (bk, .inr (0, [.int (nI bw), .ref bk_tail, .ref bk_head, .ref bk_hinder, .ref bk_size, .ref bk_walk, .ref bk_draught, .ref bk_doorIn, .ref bk_fanIn, .ref bk_faceIn, .int (nI bn), .int bk_day, .ref gr])), (bk_tail, .inl (k_bk_tail, 14, .inl f_bk_tail)), (bk_head, .inl (k_bk_head, 14, .inl f_bk_head))] H := ⟨(by rw [ef_60]; exact hP), (by rw [ef_60]; exact hD)⟩
          refine lv_iconst (v := 1) hx hb dX1_drift_127 (by decide) ?_
          have hK9 := hK.sub (tys' := [(k_bk_tail, .int), (k_bk_head, .int), (k_bk_size, .int), (k_fl_smokeAt, .int), (k_fl_smokeIn, .int)]) [0, 1, 2, 3, 4] rfl
          exact W.zret (v := 1) hx hb hr rfl (fun t ht hW => ⟨⟨1, (), rfl, (Or.inr rfl), f_46, f_60, by rw [ht]; exact hP.sub [0, 4, 5, 6, 1, 2, 3] rfl, va_K.moved hW.alike hK9, hD.sub [0, 4, 5, 6, 1, 2, 3] (by decide) rfl⟩, hS.F ht⟩) hS.2.2 dX1_drift_128
        · skip
          have g_61 : v_57.toInt ≤ v_56.toInt := i_nlt c_58
          refine lv_iconst (v := 0) hx hb dX1_drift_116 (by decide) ?_
          have hK9 := hK.sub (tys' := [(k_bk_tail, .int), (k_bk_head, .int), (k_bk_size, .int), (k_fl_smokeAt, .int), (k_fl_smokeIn, .int)]) [0, 1, 2, 3, 4] rfl
          exact W.zret (v := 0) hx hb hr rfl (fun t ht hW => ⟨⟨0, (), rfl, (Or.inl rfl), f_46, f_fl_smokeIn, by rw [ht]; exact hP.sub [0, 4, 5, 6, 1, 2, 3] rfl, va_K.moved hW.alike hK9, hD.sub [0, 4, 5, 6, 1, 2, 3] (by decide) rfl⟩, hS.F ht⟩) hS.2.2 dX1_drift_117
      · skip
        have g_62 : v_47.toInt = (2147483647 : Int) := i_eq c_48
        refine lv_iconst (v := 0) hx hb dX1_drift_70 (by decide) ?_
        have hK9 := hK.sub (tys' := [(k_bk_tail, .int), (k_bk_head, .int), (k_bk_size, .int), (k_fl_smokeAt, .int), (k_fl_smokeIn, .int)]) [0, 1, 2, 3, 4] rfl
        exact W.zret (v := 0) hx hb hr rfl (fun t ht hW => ⟨⟨0, (), rfl, (Or.inl rfl), f_46, f_fl_smokeIn, by rw [ht]; exact hP.sub [0, 4, 5, 6, 1, 2, 3] rfl, va_K.moved hW.alike hK9, hD.sub [0, 4, 5, 6, 1, 2, 3] (by decide) rfl⟩, hS.F ht⟩) hS.2.2 dX1_drift_71
set_option maxHeartbeats 4000000 in
set_option maxRecDepth 100000 in
theorem c1_spread (l : Launch) (dC : Nat → ClassId) (dI : Nat → Nat → Nat) (n0 : Nat) (atx : Nat → Nat × Nat) (sz : Nat) (fl : Nat) (mm : Nat) (fl_knotOf : Nat) (fl_smokeAt : Nat) (fl_reach : Nat) (fl_route : Nat) (bk : Nat) (st : Nat) (fl_smokeIn : Nat) (st_open : Nat) (st_speed : Nat) (st_fallen : Nat) (st_fire : Nat) (st_mark : Int32) (st_moreIn : Int32) (st_more : Int32) (bw : Nat) (bk_tail : Nat) (bk_head : Nat) (bk_hinder : Nat) (bk_size : Nat) (bk_walk : Nat) (bk_draught : Nat) (bk_doorIn : Nat) (bk_fanIn : Nat) (bk_faceIn : Nat) (bn : Nat) (bk_day : Int32) (gr : Nat) (k_bk_tail : ClassId) (f_bk_tail : Nat → Int32) (k_bk_head : ClassId) (f_bk_head : Nat → Int32) (k_bk_size : ClassId) (f_bk_size : Nat → Int32) (k_fl_smokeAt : ClassId) (f_fl_smokeAt : Nat → Int32) (k_fl_smokeIn : ClassId) (f_fl_smokeIn : Nat → Int32) (k_st_fire : ClassId) (f_st_fire : Nat → Int32) (ai : Nat) (k_ai : ClassId) (f_ai : Nat → Int32) (hbw : bw ≤ 14) (hbn : bn ≤ 10) (q_day : -1 ≤ bk_day.toInt ∧ bk_day.toInt < 10) (q_tail : rg f_bk_tail 14 0 10) (q_head : rg f_bk_head 14 0 10) : Met l yX1_spread (wM yX1_spread cX1_spread 6 none) ({ frames := 2, cells := 0, slots := 0, locals := 48 }) (va_Pc [.ref fl, .ref ai] (fun U => U.heap.size = sz ∧ n0 ≤ sz ∧ GW n0 atx U ∧ va_P (dC, dI) classes [(fl, .inr (1, [.int (nI mm), .ref fl_knotOf, .ref fl_smokeAt, .ref fl_reach, .ref fl_route, .ref bk, .ref st, .ref fl_smokeIn])), (st, .inr (9, [.ref st_open, .ref st_speed, .ref st_fallen, .ref st_fire, .int st_mark, .int st_moreIn, .int st_more, .ref bk])), (bk, .inr (0, [.int (nI bw), .ref bk_tail, .ref bk_head, .ref bk_hinder, .ref bk_size, .ref bk_walk, .ref bk_draught, .ref bk_doorIn, .ref bk_fanIn, .ref bk_faceIn, .int (nI bn), .int bk_day, .ref gr])), (bk_tail, .inl (k_bk_tail, 14, .inl f_bk_tail)), (bk_head, .inl (k_bk_head, 14, .inl f_bk_head)), (bk_size, .inl (k_bk_size, 14, .inl f_bk_size)), (fl_smokeAt, .inl (k_fl_smokeAt, 14, .inl f_fl_smokeAt)), (fl_smokeIn, .inl (k_fl_smokeIn, 10, .inl f_fl_smokeIn)), (st_fire, .inl (k_st_fire, 14, .inl f_st_fire)), (ai, .inl (k_ai, 14, .inl f_ai))] U.heap ∧ va_K (dC, dI) classes [(k_bk_tail, .int), (k_bk_head, .int), (k_bk_size, .int), (k_fl_smokeAt, .int), (k_fl_smokeIn, .int), (k_st_fire, .int), (k_ai, .int)] U ∧ va_D (fun q => n0 ≤ q) [(fl, .inr (1, [.int (nI mm), .ref fl_knotOf, .ref fl_smokeAt, .ref fl_reach, .ref fl_route, .ref bk, .ref st, .ref fl_smokeIn])), (st, .inr (9, [.ref st_open, .ref st_speed, .ref st_fallen, .ref st_fire, .int st_mark, .int st_moreIn, .int st_more, .ref bk])), (bk, .inr (0, [.int (nI bw), .ref bk_tail, .ref bk_head, .ref bk_hinder, .ref bk_size, .ref bk_walk, .ref bk_draught, .ref bk_doorIn, .ref bk_fanIn, .ref bk_faceIn, .int (nI bn), .int bk_day, .ref gr])), (bk_tail, .inl (k_bk_tail, 14, .inl f_bk_tail)), (bk_head, .inl (k_bk_head, 14, .inl f_bk_head)), (bk_size, .inl (k_bk_size, 14, .inl f_bk_size)), (fl_smokeAt, .inl (k_fl_smokeAt, 14, .inl f_fl_smokeAt)), (fl_smokeIn, .inl (k_fl_smokeIn, 10, .inl f_fl_smokeIn)), (st_fire, .inl (k_st_fire, 14, .inl f_st_fire)), (ai, .inl (k_ai, 14, .inl f_ai))])) (va_Qv (fun _ : Unit => True) (fun (_ : Unit) (t : State) => ∃ (sa9 : Nat → Int32), ∃ (si9 : Nat → Int32), va_P (dC, dI) classes [(fl, .inr (1, [.int (nI mm), .ref fl_knotOf, .ref fl_smokeAt, .ref fl_reach, .ref fl_route, .ref bk, .ref st, .ref fl_smokeIn])), (st, .inr (9, [.ref st_open, .ref st_speed, .ref st_fallen, .ref st_fire, .int st_mark, .int st_moreIn, .int st_more, .ref bk])), (bk, .inr (0, [.int (nI bw), .ref bk_tail, .ref bk_head, .ref bk_hinder, .ref bk_size, .ref bk_walk, .ref bk_draught, .ref bk_doorIn, .ref bk_fanIn, .ref bk_faceIn, .int (nI bn), .int bk_day, .ref gr])), (bk_tail, .inl (k_bk_tail, 14, .inl f_bk_tail)), (bk_head, .inl (k_bk_head, 14, .inl f_bk_head)), (bk_size, .inl (k_bk_size, 14, .inl f_bk_size)), (fl_smokeAt, .inl (k_fl_smokeAt, 14, .inl sa9)), (fl_smokeIn, .inl (k_fl_smokeIn, 10, .inl si9)), (st_fire, .inl (k_st_fire, 14, .inl f_st_fire)), (ai, .inl (k_ai, 14, .inl f_ai))] t.heap ∧ va_K (dC, dI) classes [(k_bk_tail, .int), (k_bk_head, .int), (k_bk_size, .int), (k_fl_smokeAt, .int), (k_fl_smokeIn, .int), (k_st_fire, .int), (k_ai, .int)] t ∧ va_D (va_A [(fl, .inr (1, [.int (nI mm), .ref fl_knotOf, .ref fl_smokeAt, .ref fl_reach, .ref fl_route, .ref bk, .ref st, .ref fl_smokeIn])), (st, .inr (9, [.ref st_open, .ref st_speed, .ref st_fallen, .ref st_fire, .int st_mark, .int st_moreIn, .int st_more, .ref bk])), (bk, .inr (0, [.int (nI bw), .ref bk_tail, .ref bk_head, .ref bk_hinder, .ref bk_size, .ref bk_walk, .ref bk_draught, .ref bk_doorIn, .ref bk_fanIn, .ref bk_faceIn, .int (nI bn), .int bk_day, .ref gr])), (bk_tail, .inl (k_bk_tail, 14, .inl f_bk_tail)), (bk_head, .inl (k_bk_head, 14, .inl f_bk_head)), (bk_size, .inl (k_bk_size, 14, .inl f_bk_size)), (fl_smokeAt, .inl (k_fl_smokeAt, 14, .inl f_fl_smokeAt)), (fl_smokeIn, .inl (k_fl_smokeIn, 10, .inl f_fl_smokeIn)), (st_fire, .inl (k_st_fire, 14, .inl f_st_fire)), (ai, .inl (k_ai, 14, .inl f_ai))] sz) [(fl, .inr (1, [.int (nI mm), .ref fl_knotOf, .ref fl_smokeAt, .ref fl_reach, .ref fl_route, .ref bk, .ref st, .ref fl_smokeIn])), (st, .inr (9, [.ref st_open, .ref st_speed, .ref st_fallen, .ref st_fire, .int st_mark, .int st_moreIn, .int st_more, .ref bk])), (bk, .inr (0, [.int (nI bw), .ref bk_tail, .ref bk_head, .ref bk_hinder, .ref bk_size, .ref bk_walk, .ref bk_draught, .ref bk_doorIn, .ref bk_fanIn, .ref bk_faceIn, .int (nI bn), .int bk_day, .ref gr])), (bk_tail, .inl (k_bk_tail, 14, .inl f_bk_tail)), (bk_head, .inl (k_bk_head, 14, .inl f_bk_head)), (bk_size, .inl (k_bk_size, 14, .inl f_bk_size)), (fl_smokeAt, .inl (k_fl_smokeAt, 14, .inl sa9)), (fl_smokeIn, .inl (k_fl_smokeIn, 10, .inl si9)), (st_fire, .inl (k_st_fire, 14, .inl f_st_fire)), (ai, .inl (k_ai, 14, .inl f_ai))]) (va_A [(fl, .inr (1, [.int (nI mm), .ref fl_knotOf, .ref fl_smokeAt, .ref fl_reach, .ref fl_route, .ref bk, .ref st, .ref fl_smokeIn])), (st, .inr (9, [.ref st_open, .ref st_speed, .ref st_fallen, .ref st_fire, .int st_mark, .int st_moreIn, .int st_more, .ref bk])), (bk, .inr (0, [.int (nI bw), .ref bk_tail, .ref bk_head, .ref bk_hinder, .ref bk_size, .ref bk_walk, .ref bk_draught, .ref bk_doorIn, .ref bk_fanIn, .ref bk_faceIn, .int (nI bn), .int bk_day, .ref gr])), (bk_tail, .inl (k_bk_tail, 14, .inl f_bk_tail)), (bk_head, .inl (k_bk_head, 14, .inl f_bk_head)), (bk_size, .inl (k_bk_size, 14, .inl f_bk_size)), (fl_smokeAt, .inl (k_fl_smokeAt, 14, .inl f_fl_smokeAt)), (fl_smokeIn, .inl (k_fl_smokeIn, 10, .inl f_fl_smokeIn)), (st_fire, .inl (k_st_fire, 14, .inl f_st_fire)), (ai, .inl (k_ai, 14, .inl f_ai))] sz)) 0 0 (va_A [(fl, .inr (1, [.int (nI mm), .ref fl_knotOf, .ref fl_smokeAt, .ref fl_reach, .ref fl_route, .ref bk, .ref st, .ref fl_smokeIn])), (st, .inr (9, [.ref st_open, .ref st_speed, .ref st_fallen, .ref st_fire, .int st_mark, .int st_moreIn, .int st_more, .ref bk])), (bk, .inr (0, [.int (nI bw), .ref bk_tail, .ref bk_head, .ref bk_hinder, .ref bk_size, .ref bk_walk, .ref bk_draught, .ref bk_doorIn, .ref bk_fanIn, .ref bk_faceIn, .int (nI bn), .int bk_day, .ref gr])), (bk_tail, .inl (k_bk_tail, 14, .inl f_bk_tail)), (bk_head, .inl (k_bk_head, 14, .inl f_bk_head)), (bk_size, .inl (k_bk_size, 14, .inl f_bk_size)), (fl_smokeAt, .inl (k_fl_smokeAt, 14, .inl f_fl_smokeAt)), (fl_smokeIn, .inl (k_fl_smokeIn, 10, .inl f_fl_smokeIn)), (st_fire, .inl (k_st_fire, 14, .inl f_st_fire)), (ai, .inl (k_ai, 14, .inl f_ai))] sz) := by
  refine Met.ofW (cc := cX1_spread) (maxL := 6) (ret := none) (by decide) rfl ?_
  intro p e s m args below meth c s₁ B hml hv
  obtain ⟨rfl, hsz, hn0, hG, hP, hK, hD0⟩ := hv
  have hx := B.exec
  have hb := B.bytes
  have hr := B.returns
  have hts := atoms_spec (ws := wM yX1_spread cX1_spread 6 none) B.pre
  have hown : s.vm.findClass RX1 = some m.cls := findClass_of_methodNamed B.named
  have hlocks := B.notSynchronized
  subst hsz
  have hD := hD0.self (sz := s.heap.size)
  have hA0 := vA_n0 hD0 hn0
  generalize hAe : va_A [(fl, .inr (1, [.int (nI mm), .ref fl_knotOf, .ref fl_smokeAt, .ref fl_reach, .ref fl_route, .ref bk, .ref st, .ref fl_smokeIn])), (st, .inr (9, [.ref st_open, .ref st_speed, .ref st_fallen, .ref st_fire, .int st_mark, .int st_moreIn, .int st_more, .ref bk])), (bk, .inr (0, [.int (nI bw), .ref bk_tail, .ref bk_head, .ref bk_hinder, .ref bk_size, .ref bk_walk, .ref bk_draught, .ref bk_doorIn, .ref bk_fanIn, .ref bk_faceIn, .int (nI bn), .int bk_day, .ref gr])), (bk_tail, .inl (k_bk_tail, 14, .inl f_bk_tail)), (bk_head, .inl (k_bk_head, 14, .inl f_bk_head)), (bk_size, .inl (k_bk_size, 14, .inl f_bk_size)), (fl_smokeAt, .inl (k_fl_smokeAt, 14, .inl f_fl_smokeAt)), (fl_smokeIn, .inl (k_fl_smokeIn, 10, .inl f_fl_smokeIn)), (st_fire, .inl (k_st_fire, 14, .inl f_st_fire)), (ai, .inl (k_ai, 14, .inl f_ai))] s.heap.size = A at hD hA0 ⊢
  have hA : ∀ q : Nat, s.heap.size ≤ q → A q := fun q h => by rw [← hAe]; exact Or.inr h
  have hS : va_S A s.heap s.heap [] := va_S.rf
  have hl := lv_entry ([.ref fl, .ref ai]) (n := 6) (Nat.le_of_ble_eq_true rfl)
  rw [lg_entry_eq]
  generalize (lg_sl ([.ref fl, .ref ai]) ++ List.replicate (6 - (lg_sl ([.ref fl, .ref ai])).length) Slot.unset).toArray = ls at hl ⊢
  have hl : lv_has ls 6 [(0, .ref fl), (1, .ref ai)] := hl
  refine lv_aload_n hx hb dX1_spread_0 rfl (lv_at hl 0 rfl) ?_
  refine va_get (D := (dC, dI)) (ci := 1) (v := .ref fl_smokeAt) (C := RX1) (T := TX1) (N := 8) hx hb hts (fun w h => wM_c (iX1 w h)) hown hK hP 0 rfl rfl 2 (by decide) (hts _ (wM_c wd_617)) (fun _ h9 => h9) rfl dX1_spread_1 ?_
  refine lv_ldc hx hb hown (hts _ (wM_c wd_1223)) dX1_spread_4 ?_
  obtain ⟨hPc, hDc, hFc⟩ := s3_c (ws' := [(fl_smokeAt, .inl (k_fl_smokeAt, 14, .inl f_fl_smokeAt))]) [6] hP hD hS hA rfl (by decide)
  have hKc := hK.sub (tys' := [(k_fl_smokeAt, .int)]) [3] rfl
  refine va_callv (va_runS (As := [.ref fl_smokeAt, .int 2147483647]) (rest := []) ⟨hx, hb, hml, hown, hts⟩ (c_fill14 l dC dI n0 atx s.heap.size fl_smokeAt k_fl_smokeAt f_fl_smokeAt 2147483647 ) (va_cwS 2 hts (gS (fun w h => wM_c h) wd_669 wd_1224 wd_668 wd_126) rfl rfl rfl (by decide +kernel) ⟨Nat.le_of_ble_eq_true rfl, Nat.le_of_ble_eq_true rfl⟩) ⟨fun a U g mk q => by obtain ⟨q0, q1, q2, qG, qP, qK, qD⟩ := q; exact ⟨q0, q1, q2, GW.blind qG, qP, va_K.moved (u := U) (U := U.calling g mk a) (Vm.Alike.refl U.vm) qK, qD⟩, fun U hU hW => ⟨rfl, by rw [hU], Nat.le_trans hn0 hS.1, GW.go hW hU hG (fun q hq hA9 => hS.2.1 q hq (fun h => hA9 (hA0 q h))), by rw [hU]; exact hPc, va_K.moved hW.alike hKc, hDc.weaken (fun _ _ _ h => hA0 _ h)⟩⟩ rfl rfl hl.1 rfl (lv_room (Nat.le_of_ble_eq_true rfl)) dX1_spread_6 ⟨Nat.le_of_ble_eq_true rfl, Nat.le_of_ble_eq_true rfl⟩) hS (fun q _ h => hFc q h) hFc (fun u t H1 locs ht hvm hw_2 hB hz1 hk1 hS => ?_)
  obtain ⟨f2_3, hf_4, hP1, hK1, hD1⟩ := hB
  rw [ht] at hP1
  obtain ⟨hP, hD⟩ := s3_j (L := [(fl, .inr (1, [.int (nI mm), .ref fl_knotOf, .ref fl_smokeAt, .ref fl_reach, .ref fl_route, .ref bk, .ref st, .ref fl_smokeIn])), (st, .inr (9, [.ref st_open, .ref st_speed, .ref st_fallen, .ref st_fire, .int st_mark, .int st_moreIn, .int st_more, .ref bk])), (bk, .inr (0, [.int (nI bw), .ref bk_tail, .ref bk_head, .ref bk_hinder, .ref bk_size, .ref bk_walk, .ref bk_draught, .ref bk_doorIn, .ref bk_fanIn, .ref bk_faceIn, .int (nI bn), .int bk_day, .ref gr])), (bk_tail, .inl (k_bk_tail, 14, .inl f_bk_tail)), (bk_head, .inl (k_bk_head, 14, .inl f_bk_head)), (bk_size, .inl (k_bk_size, 14, .inl f_bk_size)), (fl_smokeIn, .inl (k_fl_smokeIn, 10, .inl f_fl_smokeIn)), (st_fire, .inl (k_st_fire, 14, .inl f_st_fire)), (ai, .inl (k_ai, 14, .inl f_ai)), (fl_smokeAt, .inl (k_fl_smokeAt, 14, .inl f2_3))]) 9 hP hD [6] [0, 1, 2, 3, 4, 5, 7, 8, 9] hk1 hFc hP1 hD1 rfl rfl rfl (by decide) (by decide)
  generalize H1 = H at hP hS ⊢
  refine lv_aload_n hx hb dX1_spread_9 rfl (lv_at hl 0 rfl) ?_
  refine va_get (D := (dC, dI)) (ci := 1) (v := .ref fl_smokeIn) (C := RX1) (T := TX1) (N := 8) hx hb hts (fun w h => wM_c (iX1 w h)) hown hK hP 0 rfl rfl 7 (by decide) (hts _ (wM_c wd_625)) (fun _ h9 => h9) rfl dX1_spread_10 ?_
  refine lv_ldc hx hb hown (hts _ (wM_c wd_1223)) dX1_spread_13 ?_
  obtain ⟨hPc, hDc, hFc⟩ := s3_c (ws' := [(fl_smokeIn, .inl (k_fl_smokeIn, 10, .inl f_fl_smokeIn))]) [6] hP hD hS hA rfl (by decide)
  have hKc := hK.sub (tys' := [(k_fl_smokeIn, .int)]) [4] rfl
  refine va_callv (va_runS (As := [.ref fl_smokeIn, .int 2147483647]) (rest := []) ⟨hx, hb, hml, hown, hts⟩ (c_fill10 l dC dI n0 atx H.size fl_smokeIn k_fl_smokeIn f_fl_smokeIn 2147483647 ) (va_cwS 2 hts (gS (fun w h => wM_c h) wd_669 wd_1224 wd_668 wd_126) rfl rfl rfl (by decide +kernel) ⟨Nat.le_of_ble_eq_true rfl, Nat.le_of_ble_eq_true rfl⟩) ⟨fun a U g mk q => by obtain ⟨q0, q1, q2, qG, qP, qK, qD⟩ := q; exact ⟨q0, q1, q2, GW.blind qG, qP, va_K.moved (u := U) (U := U.calling g mk a) (Vm.Alike.refl U.vm) qK, qD⟩, fun U hU hW => ⟨rfl, by rw [hU], Nat.le_trans hn0 hS.1, GW.go hW hU hG (fun q hq hA9 => hS.2.1 q hq (fun h => hA9 (hA0 q h))), by rw [hU]; exact hPc, va_K.moved hW.alike hKc, hDc.weaken (fun _ _ _ h => hA0 _ h)⟩⟩ rfl rfl hl.1 rfl (lv_room (Nat.le_of_ble_eq_true rfl)) dX1_spread_15 ⟨Nat.le_of_ble_eq_true rfl, Nat.le_of_ble_eq_true rfl⟩) hS (fun q _ h => hFc q h) hFc (fun u t H1 locs ht hvm hw_6 hB hz1 hk1 hS => ?_)
  obtain ⟨f2_7, hf_8, hP1, hK1, hD1⟩ := hB
  rw [ht] at hP1
  obtain ⟨hP, hD⟩ := s3_j (L := [(fl, .inr (1, [.int (nI mm), .ref fl_knotOf, .ref fl_smokeAt, .ref fl_reach, .ref fl_route, .ref bk, .ref st, .ref fl_smokeIn])), (st, .inr (9, [.ref st_open, .ref st_speed, .ref st_fallen, .ref st_fire, .int st_mark, .int st_moreIn, .int st_more, .ref bk])), (bk, .inr (0, [.int (nI bw), .ref bk_tail, .ref bk_head, .ref bk_hinder, .ref bk_size, .ref bk_walk, .ref bk_draught, .ref bk_doorIn, .ref bk_fanIn, .ref bk_faceIn, .int (nI bn), .int bk_day, .ref gr])), (bk_tail, .inl (k_bk_tail, 14, .inl f_bk_tail)), (bk_head, .inl (k_bk_head, 14, .inl f_bk_head)), (bk_size, .inl (k_bk_size, 14, .inl f_bk_size)), (st_fire, .inl (k_st_fire, 14, .inl f_st_fire)), (ai, .inl (k_ai, 14, .inl f_ai)), (fl_smokeAt, .inl (k_fl_smokeAt, 14, .inl f2_3)), (fl_smokeIn, .inl (k_fl_smokeIn, 10, .inl f2_7))]) 9 hP hD [6] [0, 1, 2, 3, 4, 5, 7, 8, 9] hk1 hFc hP1 hD1 rfl rfl rfl (by decide) (by decide)
  generalize H1 = H at hP hS ⊢
  refine lv_aload_n hx hb dX1_spread_18 rfl (lv_at hl 0 rfl) ?_
  obtain ⟨hPc, hDc, hFc⟩ := s3_c (ws' := [(fl, .inr (1, [.int (nI mm), .ref fl_knotOf, .ref fl_smokeAt, .ref fl_reach, .ref fl_route, .ref bk, .ref st, .ref fl_smokeIn])), (st, .inr (9, [.ref st_open, .ref st_speed, .ref st_fallen, .ref st_fire, .int st_mark, .int st_moreIn, .int st_more, .ref bk])), (bk, .inr (0, [.int (nI bw), .ref bk_tail, .ref bk_head, .ref bk_hinder, .ref bk_size, .ref bk_walk, .ref bk_draught, .ref bk_doorIn, .ref bk_fanIn, .ref bk_faceIn, .int (nI bn), .int bk_day, .ref gr])), (st_fire, .inl (k_st_fire, 14, .inl f_st_fire))]) [0, 1, 2, 6] hP hD hS hA rfl (by decide)
  have hKc := hK.sub (tys' := [(k_st_fire, .int)]) [5] rfl
  refine va_calli (va_runV (As := []) (rest := []) ⟨hx, hb, hml, hown, hts⟩ (c1_source l dC dI n0 atx H.size fl mm fl_knotOf fl_smokeAt fl_reach fl_route bk st fl_smokeIn st_open st_speed st_fallen st_fire st_mark st_moreIn st_more bw bk_tail bk_head bk_hinder bk_size bk_walk bk_draught bk_doorIn bk_fanIn bk_faceIn bn bk_day gr k_st_fire f_st_fire (by first | with_reducible assumption | omega | exact vp_in_iff.mpr (by omega) | exact vp_in_nI (by omega) (by omega) | exact ⟨by omega, by omega⟩) (by first | with_reducible assumption | omega | exact vp_in_iff.mpr (by omega) | exact vp_in_nI (by omega) (by omega) | exact ⟨by omega, by omega⟩) (by first | with_reducible assumption | omega | exact vp_in_iff.mpr (by omega) | exact vp_in_nI (by omega) (by omega) | exact ⟨by omega, by omega⟩)) (cwV 0 hts (gV (fun w h => wM_c h) wd_1218 wd_1225 wd_1216 wd_1217 wd_124) rfl rfl rfl (by decide +kernel) ⟨Nat.le_of_ble_eq_true rfl, Nat.le_of_ble_eq_true rfl⟩) ⟨fun a U g mk q => by obtain ⟨q0, q1, q2, qG, qP, qK, qD⟩ := q; exact ⟨q0, q1, q2, GW.blind qG, qP, va_K.moved (u := U) (U := U.calling g mk a) (Vm.Alike.refl U.vm) qK, qD⟩, va_recv hKc hPc (ci := 1) (q0 := 0) rfl rfl, fun U hU hW => ⟨rfl, by rw [hU], Nat.le_trans hn0 hS.1, GW.go hW hU hG (fun q hq hA9 => hS.2.1 q hq (fun h => hA9 (hA0 q h))), by rw [hU]; exact hPc, va_K.moved hW.alike hKc, hDc.weaken (fun _ _ _ h => hA0 _ h)⟩⟩ rfl rfl hl.1 rfl (lv_room (Nat.le_of_ble_eq_true rfl)) dX1_spread_19 ⟨Nat.le_of_ble_eq_true rfl, Nat.le_of_ble_eq_true rfl⟩) hS (fun q _ h => hFc q h) hFc (fun r_9 u t H1 locs ht hvm hw_10 hB hz1 hk1 hS => ?_)
  obtain ⟨hP1, hK1, hD1⟩ := hB
  rw [ht] at hP1
  obtain ⟨hP, hD⟩ := s3_j (L := [(bk_tail, .inl (k_bk_tail, 14, .inl f_bk_tail)), (bk_head, .inl (k_bk_head, 14, .inl f_bk_head)), (bk_size, .inl (k_bk_size, 14, .inl f_bk_size)), (ai, .inl (k_ai, 14, .inl f_ai)), (fl_smokeAt, .inl (k_fl_smokeAt, 14, .inl f2_3)), (fl_smokeIn, .inl (k_fl_smokeIn, 10, .inl f2_7)), (fl, .inr (1, [.int (nI mm), .ref fl_knotOf, .ref fl_smokeAt, .ref fl_reach, .ref fl_route, .ref bk, .ref st, .ref fl_smokeIn])), (st, .inr (9, [.ref st_open, .ref st_speed, .ref st_fallen, .ref st_fire, .int st_mark, .int st_moreIn, .int st_more, .ref bk])), (bk, .inr (0, [.int (nI bw), .ref bk_tail, .ref bk_head, .ref bk_hinder, .ref bk_size, .ref bk_walk, .ref bk_draught, .ref bk_doorIn, .ref bk_fanIn, .ref bk_faceIn, .int (nI bn), .int bk_day, .ref gr])), (st_fire, .inl (k_st_fire, 14, .inl f_st_fire))]) 6 hP hD [0, 1, 2, 6] [3, 4, 5, 7, 8, 9] hk1 hFc hP1 hD1 rfl rfl rfl (by decide) (by decide)
  generalize H1 = H at hP hS ⊢
  refine lv_istore_n (lv' := [(2, .int r_9), (0, .ref fl), (1, .ref ai)]) hx hb dX1_spread_22 rfl hl (by decide) rfl (fun ls hl => ?_)
  refine lv_iload_n hx hb dX1_spread_23 rfl (lv_at hl 0 rfl) ?_
  refine lv_iconst (v := (-1)) hx hb dX1_spread_24 (by decide) ?_
  refine lv_icmp_ne (tgt := 29) hx hb dX1_spread_25 (by decide) (fun c_11 => ?_) (fun c_11 => ?_)
  · skip
    have g_12 : r_9.toInt ≠ (-1 : Int) := i_ne c_11
    refine lv_aload_n hx hb dX1_spread_29 rfl (lv_at hl 1 rfl) ?_
    refine va_get (D := (dC, dI)) (ci := 1) (v := .ref fl_smokeAt) (C := RX1) (T := TX1) (N := 8) hx hb hts (fun w h => wM_c (iX1 w h)) hown hK hP 6 rfl rfl 2 (by decide) (hts _ (wM_c wd_617)) (fun _ h9 => h9) rfl dX1_spread_30 ?_
    refine lv_iload_n hx hb dX1_spread_33 rfl (lv_at hl 0 rfl) ?_
    refine lv_iconst (v := 0) hx hb dX1_spread_34 (by decide) ?_
    refine va_iast hx hb hK hP hD hS 4 3 rfl rfl (by first | with_reducible assumption | exact vp_in_iff.mpr (by omega)) dX1_spread_35 (fun H locs hP hD hS => ?_)
    obtain ⟨f_13, ef_13⟩ : ∃ f9, f9 = (upd f2_3 r_9.toNatClampNeg 0) := ⟨_, rfl⟩
    obtain ⟨hP, hD⟩ : s3_w (dC, dI) classes A [(bk_tail, .inl (k_bk_tail, 14, .inl f_bk_tail)), (bk_head, .inl (k_bk_head, 14, .inl f_bk_head)), (bk_size, .inl (k_bk_size, 14, .inl f_bk_size)), (ai, .inl (k_ai, 14, .inl f_ai)), (fl_smokeAt, .inl (k_fl_smokeAt, 14, .inl f_13)), (fl_smokeIn, .inl (k_fl_smokeIn, 10, .inl f2_7)), (fl, .inr (1, [.int (nI mm), .ref fl_knotOf, .ref fl_smokeAt, .ref fl_reach, .ref fl_route, .ref bk, .ref st, .ref fl_smokeIn])), (st, .inr (9, [.ref st_open, .ref st_speed, .ref st_fallen, .ref st_fire, .int st_mark, .int st_moreIn, .int st_more, .ref bk])), (bk, .inr (0, [.int (nI bw), .ref bk_tail, .ref bk_head, .ref bk_hinder, .ref bk_size, .ref bk_walk, .ref bk_draught, .ref bk_doorIn, .ref bk_fanIn, .ref bk_faceIn, .int (nI bn), .int bk_day, .ref gr])), (st_fire, .inl (k_st_fire, 14, .inl f_st_fire))] H := ⟨(by rw [ef_13]; exact hP), (by rw [ef_13]; exact hD)⟩
    refine lv_iconst (v := 1) hx hb dX1_spread_36 (by decide) ?_
    refine lv_istore_n (lv' := [(3, .int 1), (2, .int r_9), (0, .ref fl), (1, .ref ai)]) hx hb dX1_spread_37 rfl hl (by decide) rfl (fun ls hl => ?_)
    refine lv_iconst (v := 0) hx hb dX1_spread_38 (by decide) ?_
    refine lv_istore (lv' := [(4, .int 0), (3, .int 1), (2, .int r_9), (0, .ref fl), (1, .ref ai)]) hx hb dX1_spread_39 hl (by decide) rfl (fun ls hl => ?_)
    refine W_lp4 (I := fun (go1 : Int32) (i1 : Nat) (sa1 : Nat → Int32) (si1 : Nat → Int32) H locs ls => (i1 ≤ 15) ∧ va_P (dC, dI) classes [(bk_tail, .inl (k_bk_tail, 14, .inl f_bk_tail)), (bk_head, .inl (k_bk_head, 14, .inl f_bk_head)), (bk_size, .inl (k_bk_size, 14, .inl f_bk_size)), (ai, .inl (k_ai, 14, .inl f_ai)), (fl_smokeAt, .inl (k_fl_smokeAt, 14, .inl sa1)), (fl_smokeIn, .inl (k_fl_smokeIn, 10, .inl si1)), (fl, .inr (1, [.int (nI mm), .ref fl_knotOf, .ref fl_smokeAt, .ref fl_reach, .ref fl_route, .ref bk, .ref st, .ref fl_smokeIn])), (st, .inr (9, [.ref st_open, .ref st_speed, .ref st_fallen, .ref st_fire, .int st_mark, .int st_moreIn, .int st_more, .ref bk])), (bk, .inr (0, [.int (nI bw), .ref bk_tail, .ref bk_head, .ref bk_hinder, .ref bk_size, .ref bk_walk, .ref bk_draught, .ref bk_doorIn, .ref bk_fanIn, .ref bk_faceIn, .int (nI bn), .int bk_day, .ref gr])), (st_fire, .inl (k_st_fire, 14, .inl f_st_fire))] H ∧ va_D A [(bk_tail, .inl (k_bk_tail, 14, .inl f_bk_tail)), (bk_head, .inl (k_bk_head, 14, .inl f_bk_head)), (bk_size, .inl (k_bk_size, 14, .inl f_bk_size)), (ai, .inl (k_ai, 14, .inl f_ai)), (fl_smokeAt, .inl (k_fl_smokeAt, 14, .inl sa1)), (fl_smokeIn, .inl (k_fl_smokeIn, 10, .inl si1)), (fl, .inr (1, [.int (nI mm), .ref fl_knotOf, .ref fl_smokeAt, .ref fl_reach, .ref fl_route, .ref bk, .ref st, .ref fl_smokeIn])), (st, .inr (9, [.ref st_open, .ref st_speed, .ref st_fallen, .ref st_fire, .int st_mark, .int st_moreIn, .int st_more, .ref bk])), (bk, .inr (0, [.int (nI bw), .ref bk_tail, .ref bk_head, .ref bk_hinder, .ref bk_size, .ref bk_walk, .ref bk_draught, .ref bk_doorIn, .ref bk_fanIn, .ref bk_faceIn, .int (nI bn), .int bk_day, .ref gr])), (st_fire, .inl (k_st_fire, 14, .inl f_st_fire))] ∧ va_S A s.heap H locs ∧ lv_has ls 6 [(0, .ref fl), (1, .ref ai), (3, .int go1), (4, .int (nI i1))]) (μ := fun (go1 : Int32) (i1 : Nat) (sa1 : Nat → Int32) (si1 : Nat → Int32) => 15 - i1) ?_ 1 0 f_13 f2_7 _ _ _ ⟨(by first | with_reducible assumption | omega | exact vp_in_iff.mpr (by omega) | exact vp_in_nI (by omega) (by omega) | exact ⟨by omega, by omega⟩), hP, hD, hS, lv_sub hl [3, 4, 1, 0] rfl⟩
    intro go1 i1 sa1 si1 H locs ls hI ih_14
    obtain ⟨hi1, hP, hD, hS, hl⟩ := hI
    refine lv_iload hx hb dX1_spread_41 (lv_at hl 3 rfl) ?_
    refine lv_bipush (v := 14) hx hb dX1_spread_43 (by decide) ?_
    refine lv_icmp_gt (tgt := 103) hx hb dX1_spread_45 (by decide) (fun c_15 => ?_) (fun c_15 => ?_)
    · skip
      have g_16 := n_lt (a := 14) (b := i1) c_15 (by omega) (by omega)
      have hK9 := hK.sub (tys' := [(k_bk_tail, .int), (k_bk_head, .int), (k_bk_size, .int), (k_fl_smokeAt, .int), (k_fl_smokeIn, .int), (k_st_fire, .int), (k_ai, .int)]) [0, 1, 2, 3, 4, 5, 6] rfl
      exact W.vret hx hb hr (fun t ht hW => ⟨⟨(), rfl, trivial, sa1, si1, by rw [ht]; exact hP.sub [6, 7, 8, 0, 1, 2, 4, 5, 9, 3] rfl, va_K.moved hW.alike hK9, hD.sub [6, 7, 8, 0, 1, 2, 4, 5, 9, 3] (by decide) rfl⟩, hS.F ht⟩) hS.2.2 dX1_spread_103
    · skip
      have g_17 := n_nlt (a := 14) (b := i1) c_15 (by omega) (by omega)
      refine lv_iload_n hx hb dX1_spread_48 rfl (lv_at hl 2 rfl) ?_
      refine lv_if_eq (tgt := 103) hx hb dX1_spread_49 (by decide) (fun c_18 => ?_) (fun c_18 => ?_)
      · skip
        have g_19 : go1.toInt = (0 : Int) := i_eq c_18
        have hK9 := hK.sub (tys' := [(k_bk_tail, .int), (k_bk_head, .int), (k_bk_size, .int), (k_fl_smokeAt, .int), (k_fl_smokeIn, .int), (k_st_fire, .int), (k_ai, .int)]) [0, 1, 2, 3, 4, 5, 6] rfl
        exact W.vret hx hb hr (fun t ht hW => ⟨⟨(), rfl, trivial, sa1, si1, by rw [ht]; exact hP.sub [6, 7, 8, 0, 1, 2, 4, 5, 9, 3] rfl, va_K.moved hW.alike hK9, hD.sub [6, 7, 8, 0, 1, 2, 4, 5, 9, 3] (by decide) rfl⟩, hS.F ht⟩) hS.2.2 dX1_spread_103
      · skip
        have g_20 : go1.toInt ≠ (0 : Int) := i_ne c_18
        refine lv_iconst (v := 0) hx hb dX1_spread_52 (by decide) ?_
        refine lv_istore_n (lv' := [(3, .int 0), (0, .ref fl), (1, .ref ai), (4, .int (nI i1))]) hx hb dX1_spread_53 rfl hl (by decide) rfl (fun ls hl => ?_)
        refine lv_iconst (v := 0) hx hb dX1_spread_54 (by decide) ?_
        refine lv_istore (lv' := [(5, .int 0), (3, .int 0), (0, .ref fl), (1, .ref ai), (4, .int (nI i1))]) hx hb dX1_spread_55 hl (by decide) rfl (fun ls hl => ?_)
        refine W_lp4 (I := fun (go2 : Int32) (i2 : Nat) (sa2 : Nat → Int32) (si2 : Nat → Int32) H locs ls => (i2 ≤ bw) ∧ va_P (dC, dI) classes [(bk_tail, .inl (k_bk_tail, 14, .inl f_bk_tail)), (bk_head, .inl (k_bk_head, 14, .inl f_bk_head)), (bk_size, .inl (k_bk_size, 14, .inl f_bk_size)), (ai, .inl (k_ai, 14, .inl f_ai)), (fl_smokeAt, .inl (k_fl_smokeAt, 14, .inl sa2)), (fl_smokeIn, .inl (k_fl_smokeIn, 10, .inl si2)), (fl, .inr (1, [.int (nI mm), .ref fl_knotOf, .ref fl_smokeAt, .ref fl_reach, .ref fl_route, .ref bk, .ref st, .ref fl_smokeIn])), (st, .inr (9, [.ref st_open, .ref st_speed, .ref st_fallen, .ref st_fire, .int st_mark, .int st_moreIn, .int st_more, .ref bk])), (bk, .inr (0, [.int (nI bw), .ref bk_tail, .ref bk_head, .ref bk_hinder, .ref bk_size, .ref bk_walk, .ref bk_draught, .ref bk_doorIn, .ref bk_fanIn, .ref bk_faceIn, .int (nI bn), .int bk_day, .ref gr])), (st_fire, .inl (k_st_fire, 14, .inl f_st_fire))] H ∧ va_D A [(bk_tail, .inl (k_bk_tail, 14, .inl f_bk_tail)), (bk_head, .inl (k_bk_head, 14, .inl f_bk_head)), (bk_size, .inl (k_bk_size, 14, .inl f_bk_size)), (ai, .inl (k_ai, 14, .inl f_ai)), (fl_smokeAt, .inl (k_fl_smokeAt, 14, .inl sa2)), (fl_smokeIn, .inl (k_fl_smokeIn, 10, .inl si2)), (fl, .inr (1, [.int (nI mm), .ref fl_knotOf, .ref fl_smokeAt, .ref fl_reach, .ref fl_route, .ref bk, .ref st, .ref fl_smokeIn])), (st, .inr (9, [.ref st_open, .ref st_speed, .ref st_fallen, .ref st_fire, .int st_mark, .int st_moreIn, .int st_more, .ref bk])), (bk, .inr (0, [.int (nI bw), .ref bk_tail, .ref bk_head, .ref bk_hinder, .ref bk_size, .ref bk_walk, .ref bk_draught, .ref bk_doorIn, .ref bk_fanIn, .ref bk_faceIn, .int (nI bn), .int bk_day, .ref gr])), (st_fire, .inl (k_st_fire, 14, .inl f_st_fire))] ∧ va_S A s.heap H locs ∧ lv_has ls 6 [(0, .ref fl), (1, .ref ai), (3, .int go2), (4, .int (nI i1)), (5, .int (nI i2))]) (μ := fun (go2 : Int32) (i2 : Nat) (sa2 : Nat → Int32) (si2 : Nat → Int32) => bw - i2) ?_ 0 0 sa1 si1 _ _ _ ⟨(by first | with_reducible assumption | omega | exact vp_in_iff.mpr (by omega) | exact vp_in_nI (by omega) (by omega) | exact ⟨by omega, by omega⟩), hP, hD, hS, lv_sub hl [2, 3, 1, 4, 0] rfl⟩
        intro go2 i2 sa2 si2 H locs ls hI ih_21
        obtain ⟨hi2, hP, hD, hS, hl⟩ := hI
        refine lv_iload hx hb dX1_spread_57 (lv_at hl 4 rfl) ?_
        refine lv_aload_n hx hb dX1_spread_59 rfl (lv_at hl 0 rfl) ?_
        refine va_get (D := (dC, dI)) (ci := 1) (v := .ref bk) (C := RX1) (T := TX1) (N := 8) hx hb hts (fun w h => wM_c (iX1 w h)) hown hK hP 6 rfl rfl 5 (by decide) (hts _ (wM_c wd_623)) (fun _ h9 => h9) rfl dX1_spread_60 ?_
        refine va_get (D := (dC, dI)) (ci := 0) (v := .int (nI bw)) (C := RX0) (T := TX0) (N := 13) hx hb hts (fun w h => wM_c (iX0 w h)) hown hK hP 8 rfl rfl 0 (by decide) (hts _ (wM_c wd_239)) (fun _ h9 => h9) rfl dX1_spread_63 ?_
        refine lv_icmp_ge (tgt := 97) hx hb dX1_spread_66 (by decide) (fun c_22 => ?_) (fun c_22 => ?_)
        · skip
          have g_23 := n_ge (a := i2) (b := bw) c_22 (by omega) (by omega)
          refine lv_iinc (v := (nI (i1 + 1))) (lv' := [(4, .int (nI (i1 + 1))), (0, .ref fl), (1, .ref ai), (3, .int go2), (5, .int (nI i2))]) hx hb dX1_spread_97 hl (k := 3) rfl (nI_add _ 1) (by decide) rfl (fun ls hl => ?_)
          refine lv_goto (tgt := 41) hx hb dX1_spread_100 (by decide) ?_
          exact ih_14 go2 (i1 + 1) sa2 si2 _ _ _ ⟨(by first | with_reducible assumption | omega | exact vp_in_iff.mpr (by omega) | exact vp_in_nI (by omega) (by omega) | exact ⟨by omega, by omega⟩), hP.sub [0, 1, 2, 3, 4, 5, 6, 7, 8, 9] rfl, hD.sub [0, 1, 2, 3, 4, 5, 6, 7, 8, 9] (by decide) rfl, hS, lv_sub hl [1, 2, 3, 0] rfl⟩ (by omega)
        · skip
          have g_24 := n_nge (a := i2) (b := bw) c_22 (by omega) (by omega)
          refine lv_aload_n hx hb dX1_spread_69 rfl (lv_at hl 1 rfl) ?_
          refine lv_iload hx hb dX1_spread_70 (lv_at hl 4 rfl) ?_
          refine va_iald hx hb hK hP 3 6 rfl rfl (vp_in_nI (n := i2) (by omega) (by omega)) dX1_spread_72 ?_
          refine lv_topi (fun v_25 ev_25 => ?_)
          have nv_25 : v_25 = f_ai i2 := by rw [ev_25]; exact congrArg _ (nI_clamp (by omega))
          refine lv_if_eq (tgt := 91) hx hb dX1_spread_73 (by decide) (fun c_26 => ?_) (fun c_26 => ?_)
          · skip
            have g_27 : v_25.toInt = (0 : Int) := i_eq c_26
            refine lv_iinc (v := (nI (i2 + 1))) (lv' := [(5, .int (nI (i2 + 1))), (0, .ref fl), (1, .ref ai), (3, .int go2), (4, .int (nI i1))]) hx hb dX1_spread_91 hl (k := 4) rfl (nI_add _ 1) (by decide) rfl (fun ls hl => ?_)
            refine lv_goto (tgt := 57) hx hb dX1_spread_94 (by decide) ?_
            exact ih_21 go2 (i2 + 1) sa2 si2 _ _ _ ⟨(by first | with_reducible assumption | omega | exact vp_in_iff.mpr (by omega) | exact vp_in_nI (by omega) (by omega) | exact ⟨by omega, by omega⟩), hP.sub [0, 1, 2, 3, 4, 5, 6, 7, 8, 9] rfl, hD.sub [0, 1, 2, 3, 4, 5, 6, 7, 8, 9] (by decide) rfl, hS, lv_sub hl [1, 2, 3, 4, 0] rfl⟩ (by omega)
          · skip
            have g_28 : v_25.toInt ≠ (0 : Int) := i_ne c_26
            refine lv_aload_n hx hb dX1_spread_76 rfl (lv_at hl 0 rfl) ?_
            refine lv_iload hx hb dX1_spread_77 (lv_at hl 4 rfl) ?_
            refine lv_aload_n hx hb dX1_spread_79 rfl (lv_at hl 1 rfl) ?_
            refine lv_iload hx hb dX1_spread_80 (lv_at hl 4 rfl) ?_
            refine va_iald hx hb hK hP 3 6 rfl rfl (vp_in_nI (n := i2) (by omega) (by omega)) dX1_spread_82 ?_
            refine lv_topi (fun v_29 ev_29 => ?_)
            have nv_29 : v_29 = f_ai i2 := by rw [ev_29]; exact congrArg _ (nI_clamp (by omega))
            obtain ⟨hPc, hDc, hFc⟩ := s3_c (ws' := [(fl, .inr (1, [.int (nI mm), .ref fl_knotOf, .ref fl_smokeAt, .ref fl_reach, .ref fl_route, .ref bk, .ref st, .ref fl_smokeIn])), (bk, .inr (0, [.int (nI bw), .ref bk_tail, .ref bk_head, .ref bk_hinder, .ref bk_size, .ref bk_walk, .ref bk_draught, .ref bk_doorIn, .ref bk_fanIn, .ref bk_faceIn, .int (nI bn), .int bk_day, .ref gr])), (bk_tail, .inl (k_bk_tail, 14, .inl f_bk_tail)), (bk_head, .inl (k_bk_head, 14, .inl f_bk_head)), (bk_size, .inl (k_bk_size, 14, .inl f_bk_size)), (fl_smokeAt, .inl (k_fl_smokeAt, 14, .inl sa2)), (fl_smokeIn, .inl (k_fl_smokeIn, 10, .inl si2))]) [6, 8, 0, 1, 2, 4, 5] hP hD hS hA rfl (by decide)
            have hKc := hK.sub (tys' := [(k_bk_tail, .int), (k_bk_head, .int), (k_bk_size, .int), (k_fl_smokeAt, .int), (k_fl_smokeIn, .int)]) [0, 1, 2, 3, 4] rfl
            refine va_calli (va_runV (As := [.int (nI i2), .int v_29]) (rest := []) ⟨hx, hb, hml, hown, hts⟩ (c1_drift l dC dI n0 atx H.size fl mm fl_knotOf fl_smokeAt fl_reach fl_route bk st fl_smokeIn bw bk_tail bk_head bk_hinder bk_size bk_walk bk_draught bk_doorIn bk_fanIn bk_faceIn bn bk_day gr k_bk_tail f_bk_tail k_bk_head f_bk_head k_bk_size f_bk_size k_fl_smokeAt sa2 k_fl_smokeIn si2 (nI i2) v_29 (by first | with_reducible assumption | omega | exact vp_in_iff.mpr (by omega) | exact vp_in_nI (by omega) (by omega) | exact ⟨by omega, by omega⟩) (by first | with_reducible assumption | omega | exact vp_in_iff.mpr (by omega) | exact vp_in_nI (by omega) (by omega) | exact ⟨by omega, by omega⟩) (by first | with_reducible assumption | omega | exact vp_in_iff.mpr (by omega) | exact vp_in_nI (by omega) (by omega) | exact ⟨by omega, by omega⟩) (by first | with_reducible assumption | omega | exact vp_in_iff.mpr (by omega) | exact vp_in_nI (by omega) (by omega) | exact ⟨by omega, by omega⟩) (by first | with_reducible assumption | omega | exact vp_in_iff.mpr (by omega) | exact vp_in_nI (by omega) (by omega) | exact ⟨by omega, by omega⟩) (by first | with_reducible assumption | omega | exact vp_in_iff.mpr (by omega) | exact vp_in_nI (by omega) (by omega) | exact ⟨by omega, by omega⟩) (by rw [ev_29, ← ev_25]; exact c_26)) (cwV 2 hts (gV (fun w h => wM_c h) wd_1229 wd_1226 wd_1228 wd_48 wd_124) rfl rfl rfl (by decide +kernel) ⟨Nat.le_of_ble_eq_true rfl, Nat.le_of_ble_eq_true rfl⟩) ⟨fun a U g mk q => by obtain ⟨q0, q1, q2, qG, qP, qK, qD⟩ := q; exact ⟨q0, q1, q2, GW.blind qG, qP, va_K.moved (u := U) (U := U.calling g mk a) (Vm.Alike.refl U.vm) qK, qD⟩, va_recv hKc hPc (ci := 1) (q0 := 0) rfl rfl, fun U hU hW => ⟨rfl, by rw [hU], Nat.le_trans hn0 hS.1, GW.go hW hU hG (fun q hq hA9 => hS.2.1 q hq (fun h => hA9 (hA0 q h))), by rw [hU]; exact hPc, va_K.moved hW.alike hKc, hDc.weaken (fun _ _ _ h => hA0 _ h)⟩⟩ rfl rfl hl.1 rfl (lv_room (Nat.le_of_ble_eq_true rfl)) dX1_spread_83 ⟨Nat.le_of_ble_eq_true rfl, Nat.le_of_ble_eq_true rfl⟩) hS (fun q _ h => hFc q h) hFc (fun r_30 u t H1 locs ht hvm hw_31 hB hz1 hk1 hS => ?_)
            obtain ⟨sa9_32, si9_33, hP1, hK1, hD1⟩ := hB
            rw [ht] at hP1
            obtain ⟨hP, hD⟩ := s3_j (L := [(ai, .inl (k_ai, 14, .inl f_ai)), (st, .inr (9, [.ref st_open, .ref st_speed, .ref st_fallen, .ref st_fire, .int st_mark, .int st_moreIn, .int st_more, .ref bk])), (st_fire, .inl (k_st_fire, 14, .inl f_st_fire)), (fl, .inr (1, [.int (nI mm), .ref fl_knotOf, .ref fl_smokeAt, .ref fl_reach, .ref fl_route, .ref bk, .ref st, .ref fl_smokeIn])), (bk, .inr (0, [.int (nI bw), .ref bk_tail, .ref bk_head, .ref bk_hinder, .ref bk_size, .ref bk_walk, .ref bk_draught, .ref bk_doorIn, .ref bk_fanIn, .ref bk_faceIn, .int (nI bn), .int bk_day, .ref gr])), (bk_tail, .inl (k_bk_tail, 14, .inl f_bk_tail)), (bk_head, .inl (k_bk_head, 14, .inl f_bk_head)), (bk_size, .inl (k_bk_size, 14, .inl f_bk_size)), (fl_smokeAt, .inl (k_fl_smokeAt, 14, .inl sa9_32)), (fl_smokeIn, .inl (k_fl_smokeIn, 10, .inl si9_33))]) 3 hP hD [6, 8, 0, 1, 2, 4, 5] [3, 7, 9] hk1 hFc hP1 hD1 rfl rfl rfl (by decide) (by decide)
            generalize H1 = H at hP hS ⊢
            rcases hw_31 with rfl | rfl
            · skip
              refine lv_if_eq (tgt := 91) hx hb dX1_spread_86 (by decide) (fun c_34 => ?_) (fun c_34 => ?_)
              · skip
                refine lv_iinc (v := (nI (i2 + 1))) (lv' := [(5, .int (nI (i2 + 1))), (0, .ref fl), (1, .ref ai), (3, .int go2), (4, .int (nI i1))]) hx hb dX1_spread_91 hl (k := 4) rfl (nI_add _ 1) (by decide) rfl (fun ls hl => ?_)
                refine lv_goto (tgt := 57) hx hb dX1_spread_94 (by decide) ?_
                exact ih_21 go2 (i2 + 1) sa9_32 si9_33 _ _ _ ⟨(by first | with_reducible assumption | omega | exact vp_in_iff.mpr (by omega) | exact vp_in_nI (by omega) (by omega) | exact ⟨by omega, by omega⟩), hP.sub [5, 6, 7, 0, 8, 9, 3, 1, 4, 2] rfl, hD.sub [5, 6, 7, 0, 8, 9, 3, 1, 4, 2] (by decide) rfl, hS, lv_sub hl [1, 2, 3, 4, 0] rfl⟩ (by omega)
              · exact absurd c_34 (by decide)
            · skip
              refine lv_if_eq (tgt := 91) hx hb dX1_spread_86 (by decide) (fun c_35 => ?_) (fun c_35 => ?_)
              · exact absurd c_35 (by decide)
              refine lv_iconst (v := 1) hx hb dX1_spread_89 (by decide) ?_
              refine lv_istore_n (lv' := [(3, .int 1), (0, .ref fl), (1, .ref ai), (4, .int (nI i1)), (5, .int (nI i2))]) hx hb dX1_spread_90 rfl hl (by decide) rfl (fun ls hl => ?_)
              refine lv_iinc (v := (nI (i2 + 1))) (lv' := [(5, .int (nI (i2 + 1))), (3, .int 1), (0, .ref fl), (1, .ref ai), (4, .int (nI i1))]) hx hb dX1_spread_91 hl (k := 4) rfl (nI_add _ 1) (by decide) rfl (fun ls hl => ?_)
              refine lv_goto (tgt := 57) hx hb dX1_spread_94 (by decide) ?_
              exact ih_21 1 (i2 + 1) sa9_32 si9_33 _ _ _ ⟨(by first | with_reducible assumption | omega | exact vp_in_iff.mpr (by omega) | exact vp_in_nI (by omega) (by omega) | exact ⟨by omega, by omega⟩), hP.sub [5, 6, 7, 0, 8, 9, 3, 1, 4, 2] rfl, hD.sub [5, 6, 7, 0, 8, 9, 3, 1, 4, 2] (by decide) rfl, hS, lv_sub hl [2, 3, 1, 4, 0] rfl⟩ (by omega)
  · skip
    have g_36 : r_9.toInt = (-1 : Int) := i_eq c_11
    have hK9 := hK.sub (tys' := [(k_bk_tail, .int), (k_bk_head, .int), (k_bk_size, .int), (k_fl_smokeAt, .int), (k_fl_smokeIn, .int), (k_st_fire, .int), (k_ai, .int)]) [0, 1, 2, 3, 4, 5, 6] rfl
    exact W.vret hx hb hr (fun t ht hW => ⟨⟨(), rfl, trivial, f2_3, f2_7, by rw [ht]; exact hP.sub [6, 7, 8, 0, 1, 2, 4, 5, 9, 3] rfl, va_K.moved hW.alike hK9, hD.sub [6, 7, 8, 0, 1, 2, 4, 5, 9, 3] (by decide) rfl⟩, hS.F ht⟩) hS.2.2 dX1_spread_28
set_option maxHeartbeats 4000000 in
set_option maxRecDepth 100000 in
theorem c1_walk (l : Launch) (dC : Nat → ClassId) (dI : Nat → Nat → Nat) (n0 : Nat) (atx : Nat → Nat × Nat) (sz : Nat) (fl : Nat) (mm : Nat) (fl_knotOf : Nat) (fl_smokeAt : Nat) (fl_reach : Nat) (fl_route : Nat) (bk : Nat) (st : Nat) (fl_smokeIn : Nat) (bw : Nat) (bk_tail : Nat) (bk_head : Nat) (bk_hinder : Nat) (bk_size : Nat) (bk_walk : Nat) (bk_draught : Nat) (bk_doorIn : Nat) (bk_fanIn : Nat) (bk_faceIn : Nat) (bn : Nat) (bk_day : Int32) (gr : Nat) (k_bk_walk : ClassId) (f_bk_walk : Nat → Int32) (k_fl_smokeAt : ClassId) (f_fl_smokeAt : Nat → Int32) (k_fl_reach : ClassId) (f_fl_reach : Nat → Int32) (w : Int32) (fr : Int32) (tt0 : Int32) (hbw : bw ≤ 14) (hbn : bn ≤ 10) (q_day : -1 ≤ bk_day.toInt ∧ bk_day.toInt < 10) (hw : vp_in w 14) (h_fr : 0 ≤ fr.toInt ∧ fr.toInt < 10) (h_tt0 : 0 ≤ tt0.toInt ∧ tt0.toInt < 10) : Met l yX1_walk (wM yX1_walk cX1_walk 5 (some .boolean)) ({ frames := 0, cells := 0, slots := 0, locals := 0 }) (va_Pc [.ref fl, .int w, .int fr, .int tt0] (fun U => U.heap.size = sz ∧ n0 ≤ sz ∧ GW n0 atx U ∧ va_P (dC, dI) classes [(fl, .inr (1, [.int (nI mm), .ref fl_knotOf, .ref fl_smokeAt, .ref fl_reach, .ref fl_route, .ref bk, .ref st, .ref fl_smokeIn])), (bk, .inr (0, [.int (nI bw), .ref bk_tail, .ref bk_head, .ref bk_hinder, .ref bk_size, .ref bk_walk, .ref bk_draught, .ref bk_doorIn, .ref bk_fanIn, .ref bk_faceIn, .int (nI bn), .int bk_day, .ref gr])), (bk_walk, .inl (k_bk_walk, 14, .inl f_bk_walk)), (fl_smokeAt, .inl (k_fl_smokeAt, 14, .inl f_fl_smokeAt)), (fl_reach, .inl (k_fl_reach, 10, .inl f_fl_reach))] U.heap ∧ va_K (dC, dI) classes [(k_bk_walk, .int), (k_fl_smokeAt, .int), (k_fl_reach, .int)] U ∧ va_D (fun q => n0 ≤ q) [(fl, .inr (1, [.int (nI mm), .ref fl_knotOf, .ref fl_smokeAt, .ref fl_reach, .ref fl_route, .ref bk, .ref st, .ref fl_smokeIn])), (bk, .inr (0, [.int (nI bw), .ref bk_tail, .ref bk_head, .ref bk_hinder, .ref bk_size, .ref bk_walk, .ref bk_draught, .ref bk_doorIn, .ref bk_fanIn, .ref bk_faceIn, .int (nI bn), .int bk_day, .ref gr])), (bk_walk, .inl (k_bk_walk, 14, .inl f_bk_walk)), (fl_smokeAt, .inl (k_fl_smokeAt, 14, .inl f_fl_smokeAt)), (fl_reach, .inl (k_fl_reach, 10, .inl f_fl_reach))])) (va_Qi (fun (r : Int32) (_ : Unit) => r = 0 ∨ r = 1) (fun (_ : Unit) (t : State) => ∃ (re9 : Nat → Int32), va_P (dC, dI) classes [(fl, .inr (1, [.int (nI mm), .ref fl_knotOf, .ref fl_smokeAt, .ref fl_reach, .ref fl_route, .ref bk, .ref st, .ref fl_smokeIn])), (bk, .inr (0, [.int (nI bw), .ref bk_tail, .ref bk_head, .ref bk_hinder, .ref bk_size, .ref bk_walk, .ref bk_draught, .ref bk_doorIn, .ref bk_fanIn, .ref bk_faceIn, .int (nI bn), .int bk_day, .ref gr])), (bk_walk, .inl (k_bk_walk, 14, .inl f_bk_walk)), (fl_smokeAt, .inl (k_fl_smokeAt, 14, .inl f_fl_smokeAt)), (fl_reach, .inl (k_fl_reach, 10, .inl re9))] t.heap ∧ va_K (dC, dI) classes [(k_bk_walk, .int), (k_fl_smokeAt, .int), (k_fl_reach, .int)] t ∧ va_D (va_A [(fl, .inr (1, [.int (nI mm), .ref fl_knotOf, .ref fl_smokeAt, .ref fl_reach, .ref fl_route, .ref bk, .ref st, .ref fl_smokeIn])), (bk, .inr (0, [.int (nI bw), .ref bk_tail, .ref bk_head, .ref bk_hinder, .ref bk_size, .ref bk_walk, .ref bk_draught, .ref bk_doorIn, .ref bk_fanIn, .ref bk_faceIn, .int (nI bn), .int bk_day, .ref gr])), (bk_walk, .inl (k_bk_walk, 14, .inl f_bk_walk)), (fl_smokeAt, .inl (k_fl_smokeAt, 14, .inl f_fl_smokeAt)), (fl_reach, .inl (k_fl_reach, 10, .inl f_fl_reach))] sz) [(fl, .inr (1, [.int (nI mm), .ref fl_knotOf, .ref fl_smokeAt, .ref fl_reach, .ref fl_route, .ref bk, .ref st, .ref fl_smokeIn])), (bk, .inr (0, [.int (nI bw), .ref bk_tail, .ref bk_head, .ref bk_hinder, .ref bk_size, .ref bk_walk, .ref bk_draught, .ref bk_doorIn, .ref bk_fanIn, .ref bk_faceIn, .int (nI bn), .int bk_day, .ref gr])), (bk_walk, .inl (k_bk_walk, 14, .inl f_bk_walk)), (fl_smokeAt, .inl (k_fl_smokeAt, 14, .inl f_fl_smokeAt)), (fl_reach, .inl (k_fl_reach, 10, .inl re9))]) (va_A [(fl, .inr (1, [.int (nI mm), .ref fl_knotOf, .ref fl_smokeAt, .ref fl_reach, .ref fl_route, .ref bk, .ref st, .ref fl_smokeIn])), (bk, .inr (0, [.int (nI bw), .ref bk_tail, .ref bk_head, .ref bk_hinder, .ref bk_size, .ref bk_walk, .ref bk_draught, .ref bk_doorIn, .ref bk_fanIn, .ref bk_faceIn, .int (nI bn), .int bk_day, .ref gr])), (bk_walk, .inl (k_bk_walk, 14, .inl f_bk_walk)), (fl_smokeAt, .inl (k_fl_smokeAt, 14, .inl f_fl_smokeAt)), (fl_reach, .inl (k_fl_reach, 10, .inl f_fl_reach))] sz)) 0 0 (va_A [(fl, .inr (1, [.int (nI mm), .ref fl_knotOf, .ref fl_smokeAt, .ref fl_reach, .ref fl_route, .ref bk, .ref st, .ref fl_smokeIn])), (bk, .inr (0, [.int (nI bw), .ref bk_tail, .ref bk_head, .ref bk_hinder, .ref bk_size, .ref bk_walk, .ref bk_draught, .ref bk_doorIn, .ref bk_fanIn, .ref bk_faceIn, .int (nI bn), .int bk_day, .ref gr])), (bk_walk, .inl (k_bk_walk, 14, .inl f_bk_walk)), (fl_smokeAt, .inl (k_fl_smokeAt, 14, .inl f_fl_smokeAt)), (fl_reach, .inl (k_fl_reach, 10, .inl f_fl_reach))] sz) := by
  refine Met.ofW (cc := cX1_walk) (maxL := 5) (ret := (some .boolean)) (by decide) rfl ?_
  intro p e s m args below meth c s₁ B hml hv
  obtain ⟨rfl, hsz, hn0, hG, hP, hK, hD0⟩ := hv
  have hx := B.exec
  have hb := B.bytes
  have hr := B.returns
  have hts := atoms_spec (ws := wM yX1_walk cX1_walk 5 (some .boolean)) B.pre
  have hown : s.vm.findClass RX1 = some m.cls := findClass_of_methodNamed B.named
  have hlocks := B.notSynchronized
  subst hsz
  have hD := hD0.self (sz := s.heap.size)
  have hA0 := vA_n0 hD0 hn0
  generalize hAe : va_A [(fl, .inr (1, [.int (nI mm), .ref fl_knotOf, .ref fl_smokeAt, .ref fl_reach, .ref fl_route, .ref bk, .ref st, .ref fl_smokeIn])), (bk, .inr (0, [.int (nI bw), .ref bk_tail, .ref bk_head, .ref bk_hinder, .ref bk_size, .ref bk_walk, .ref bk_draught, .ref bk_doorIn, .ref bk_fanIn, .ref bk_faceIn, .int (nI bn), .int bk_day, .ref gr])), (bk_walk, .inl (k_bk_walk, 14, .inl f_bk_walk)), (fl_smokeAt, .inl (k_fl_smokeAt, 14, .inl f_fl_smokeAt)), (fl_reach, .inl (k_fl_reach, 10, .inl f_fl_reach))] s.heap.size = A at hD hA0 ⊢
  have hA : ∀ q : Nat, s.heap.size ≤ q → A q := fun q h => by rw [← hAe]; exact Or.inr h
  have hS : va_S A s.heap s.heap [] := va_S.rf
  have hl := lv_entry ([.ref fl, .int w, .int fr, .int tt0]) (n := 5) (Nat.le_of_ble_eq_true rfl)
  rw [lg_entry_eq]
  generalize (lg_sl ([.ref fl, .int w, .int fr, .int tt0]) ++ List.replicate (5 - (lg_sl ([.ref fl, .int w, .int fr, .int tt0])).length) Slot.unset).toArray = ls at hl ⊢
  have hl : lv_has ls 5 [(0, .ref fl), (1, .int w), (2, .int fr), (3, .int tt0)] := hl
  refine lv_aload_n hx hb dX1_walk_0 rfl (lv_at hl 0 rfl) ?_
  refine va_get (D := (dC, dI)) (ci := 1) (v := .ref fl_reach) (C := RX1) (T := TX1) (N := 8) hx hb hts (fun w h => wM_c (iX1 w h)) hown hK hP 0 rfl rfl 3 (by decide) (hts _ (wM_c wd_619)) (fun _ h9 => h9) rfl dX1_walk_1 ?_
  refine lv_iload_n hx hb dX1_walk_4 rfl (lv_at hl 2 rfl) ?_
  refine va_iald hx hb hK hP 4 2 rfl rfl (by first | with_reducible assumption | exact vp_in_iff.mpr (by omega)) dX1_walk_5 ?_
  refine lv_topi (fun v_1 ev_1 => ?_)
  refine lv_ldc hx hb hown (hts _ (wM_c wd_1223)) dX1_walk_6 ?_
  refine lv_icmp_ne (tgt := 13) hx hb dX1_walk_8 (by decide) (fun c_2 => ?_) (fun c_2 => ?_)
  · skip
    have g_3 : v_1.toInt ≠ (2147483647 : Int) := i_ne c_2
    refine lv_aload_n hx hb dX1_walk_13 rfl (lv_at hl 0 rfl) ?_
    refine va_get (D := (dC, dI)) (ci := 1) (v := .ref fl_reach) (C := RX1) (T := TX1) (N := 8) hx hb hts (fun w h => wM_c (iX1 w h)) hown hK hP 0 rfl rfl 3 (by decide) (hts _ (wM_c wd_619)) (fun _ h9 => h9) rfl dX1_walk_14 ?_
    refine lv_iload_n hx hb dX1_walk_17 rfl (lv_at hl 2 rfl) ?_
    refine va_iald hx hb hK hP 4 2 rfl rfl (by first | with_reducible assumption | exact vp_in_iff.mpr (by omega)) dX1_walk_18 ?_
    refine lv_topi (fun v_4 ev_4 => ?_)
    refine lv_aload_n hx hb dX1_walk_19 rfl (lv_at hl 0 rfl) ?_
    refine va_get (D := (dC, dI)) (ci := 1) (v := .ref bk) (C := RX1) (T := TX1) (N := 8) hx hb hts (fun w h => wM_c (iX1 w h)) hown hK hP 0 rfl rfl 5 (by decide) (hts _ (wM_c wd_623)) (fun _ h9 => h9) rfl dX1_walk_20 ?_
    refine va_get (D := (dC, dI)) (ci := 0) (v := .ref bk_walk) (C := RX0) (T := TX0) (N := 13) hx hb hts (fun w h => wM_c (iX0 w h)) hown hK hP 1 rfl rfl 5 (by decide) (hts _ (wM_c wd_265)) (fun _ h9 => h9) rfl dX1_walk_23 ?_
    refine lv_iload_n hx hb dX1_walk_26 rfl (lv_at hl 1 rfl) ?_
    refine va_iald hx hb hK hP 2 0 rfl rfl (by first | with_reducible assumption | exact vp_in_iff.mpr (by omega)) dX1_walk_27 ?_
    refine lv_topi (fun v_5 ev_5 => ?_)
    refine lv_iadd hx hb dX1_walk_28 ?_
    refine lv_topi (fun v_6 ev_6 => ?_)
    refine lv_istore (lv' := [(4, .int v_6), (0, .ref fl), (1, .int w), (2, .int fr), (3, .int tt0)]) hx hb dX1_walk_29 hl (by decide) rfl (fun ls hl => ?_)
    refine lv_iload hx hb dX1_walk_31 (lv_at hl 0 rfl) ?_
    refine lv_aload_n hx hb dX1_walk_33 rfl (lv_at hl 1 rfl) ?_
    refine va_get (D := (dC, dI)) (ci := 1) (v := .ref fl_reach) (C := RX1) (T := TX1) (N := 8) hx hb hts (fun w h => wM_c (iX1 w h)) hown hK hP 0 rfl rfl 3 (by decide) (hts _ (wM_c wd_619)) (fun _ h9 => h9) rfl dX1_walk_34 ?_
    refine lv_iload_n hx hb dX1_walk_37 rfl (lv_at hl 4 rfl) ?_
    refine va_iald hx hb hK hP 4 2 rfl rfl (by first | with_reducible assumption | exact vp_in_iff.mpr (by omega)) dX1_walk_38 ?_
    refine lv_topi (fun v_7 ev_7 => ?_)
    refine lv_icmp_ge (tgt := 53) hx hb dX1_walk_39 (by decide) (fun c_8 => ?_) (fun c_8 => ?_)
    · skip
      have g_9 : v_7.toInt ≤ v_6.toInt := i_le c_8
      refine lv_iconst (v := 0) hx hb dX1_walk_53 (by decide) ?_
      have hK9 := hK.sub (tys' := [(k_bk_walk, .int), (k_fl_smokeAt, .int), (k_fl_reach, .int)]) [0, 1, 2] rfl
      exact W.zret (v := 0) hx hb hr rfl (fun t ht hW => ⟨⟨0, (), rfl, (Or.inl rfl), f_fl_reach, by rw [ht]; exact hP.sub [0, 1, 2, 3, 4] rfl, va_K.moved hW.alike hK9, hD.sub [0, 1, 2, 3, 4] (by decide) rfl⟩, hS.F ht⟩) hS.2.2 dX1_walk_54
    · skip
      have g_10 : v_6.toInt < v_7.toInt := i_nle c_8
      refine lv_aload_n hx hb dX1_walk_42 rfl (lv_at hl 1 rfl) ?_
      refine va_get (D := (dC, dI)) (ci := 1) (v := .ref fl_smokeAt) (C := RX1) (T := TX1) (N := 8) hx hb hts (fun w h => wM_c (iX1 w h)) hown hK hP 0 rfl rfl 2 (by decide) (hts _ (wM_c wd_617)) (fun _ h9 => h9) rfl dX1_walk_43 ?_
      refine lv_iload_n hx hb dX1_walk_46 rfl (lv_at hl 2 rfl) ?_
      refine va_iald hx hb hK hP 3 1 rfl rfl (by first | with_reducible assumption | exact vp_in_iff.mpr (by omega)) dX1_walk_47 ?_
      refine lv_topi (fun v_11 ev_11 => ?_)
      refine lv_iload hx hb dX1_walk_48 (lv_at hl 0 rfl) ?_
      refine lv_icmp_gt (tgt := 55) hx hb dX1_walk_50 (by decide) (fun c_12 => ?_) (fun c_12 => ?_)
      · skip
        have g_13 : v_6.toInt < v_11.toInt := i_lt c_12
        refine lv_aload_n hx hb dX1_walk_55 rfl (lv_at hl 1 rfl) ?_
        refine va_get (D := (dC, dI)) (ci := 1) (v := .ref fl_reach) (C := RX1) (T := TX1) (N := 8) hx hb hts (fun w h => wM_c (iX1 w h)) hown hK hP 0 rfl rfl 3 (by decide) (hts _ (wM_c wd_619)) (fun _ h9 => h9) rfl dX1_walk_56 ?_
        refine lv_iload_n hx hb dX1_walk_59 rfl (lv_at hl 4 rfl) ?_
        refine lv_iload hx hb dX1_walk_60 (lv_at hl 0 rfl) ?_
        refine va_iast hx hb hK hP hD hS 4 2 rfl rfl (by first | with_reducible assumption | exact vp_in_iff.mpr (by omega)) dX1_walk_62 (fun H locs hP hD hS => ?_)
        obtain ⟨f_14, ef_14⟩ : ∃ f9, f9 = (upd f_fl_reach tt0.toNatClampNeg v_6) := ⟨_, rfl⟩
        obtain ⟨hP, hD⟩ : s3_w (dC, dI) classes A [(fl, .inr (1, [.int (nI mm), .ref fl_knotOf, .ref fl_smokeAt, .ref fl_reach, .ref fl_route, .ref bk, .ref st, .ref fl_smokeIn])), (bk, .inr (0, [.int (nI bw), .ref bk_tail, .ref bk_head, .ref bk_hinder, .ref bk_size, .ref bk_walk, .ref bk_draught, .ref bk_doorIn, .ref bk_fanIn, .ref bk_faceIn, .int (nI bn), .int bk_day, .ref gr])), (bk_walk, .inl (k_bk_walk, 14, .inl f_bk_walk)), (fl_smokeAt, .inl (k_fl_smokeAt, 14, .inl f_fl_smokeAt)), (fl_reach, .inl (k_fl_reach, 10, .inl f_14))] H := ⟨(by rw [ef_14]; exact hP), (by rw [ef_14]; exact hD)⟩
        refine lv_iconst (v := 1) hx hb dX1_walk_63 (by decide) ?_
        have hK9 := hK.sub (tys' := [(k_bk_walk, .int), (k_fl_smokeAt, .int), (k_fl_reach, .int)]) [0, 1, 2] rfl
        exact W.zret (v := 1) hx hb hr rfl (fun t ht hW => ⟨⟨1, (), rfl, (Or.inr rfl), f_14, by rw [ht]; exact hP.sub [0, 1, 2, 3, 4] rfl, va_K.moved hW.alike hK9, hD.sub [0, 1, 2, 3, 4] (by decide) rfl⟩, hS.F ht⟩) hS.2.2 dX1_walk_64
      · skip
        have g_15 : v_11.toInt ≤ v_6.toInt := i_nlt c_12
        refine lv_iconst (v := 0) hx hb dX1_walk_53 (by decide) ?_
        have hK9 := hK.sub (tys' := [(k_bk_walk, .int), (k_fl_smokeAt, .int), (k_fl_reach, .int)]) [0, 1, 2] rfl
        exact W.zret (v := 0) hx hb hr rfl (fun t ht hW => ⟨⟨0, (), rfl, (Or.inl rfl), f_fl_reach, by rw [ht]; exact hP.sub [0, 1, 2, 3, 4] rfl, va_K.moved hW.alike hK9, hD.sub [0, 1, 2, 3, 4] (by decide) rfl⟩, hS.F ht⟩) hS.2.2 dX1_walk_54
  · skip
    have g_16 : v_1.toInt = (2147483647 : Int) := i_eq c_2
    refine lv_iconst (v := 0) hx hb dX1_walk_11 (by decide) ?_
    have hK9 := hK.sub (tys' := [(k_bk_walk, .int), (k_fl_smokeAt, .int), (k_fl_reach, .int)]) [0, 1, 2] rfl
    exact W.zret (v := 0) hx hb hr rfl (fun t ht hW => ⟨⟨0, (), rfl, (Or.inl rfl), f_fl_reach, by rw [ht]; exact hP.sub [0, 1, 2, 3, 4] rfl, va_K.moved hW.alike hK9, hD.sub [0, 1, 2, 3, 4] (by decide) rfl⟩, hS.F ht⟩) hS.2.2 dX1_walk_12
set_option maxHeartbeats 4000000 in
set_option maxRecDepth 100000 in
theorem c1_walkFrom (l : Launch) (dC : Nat → ClassId) (dI : Nat → Nat → Nat) (n0 : Nat) (atx : Nat → Nat × Nat) (sz : Nat) (fl : Nat) (mm : Nat) (fl_knotOf : Nat) (fl_smokeAt : Nat) (fl_reach : Nat) (fl_route : Nat) (bk : Nat) (st : Nat) (fl_smokeIn : Nat) (st_open : Nat) (st_speed : Nat) (st_fallen : Nat) (st_fire : Nat) (st_mark : Int32) (st_moreIn : Int32) (st_more : Int32) (bw : Nat) (bk_tail : Nat) (bk_head : Nat) (bk_hinder : Nat) (bk_size : Nat) (bk_walk : Nat) (bk_draught : Nat) (bk_doorIn : Nat) (bk_fanIn : Nat) (bk_faceIn : Nat) (bn : Nat) (bk_day : Int32) (gr : Nat) (k_bk_walk : ClassId) (f_bk_walk : Nat → Int32) (k_fl_smokeAt : ClassId) (f_fl_smokeAt : Nat → Int32) (k_fl_reach : ClassId) (f_fl_reach : Nat → Int32) (k_bk_tail : ClassId) (f_bk_tail : Nat → Int32) (k_bk_head : ClassId) (f_bk_head : Nat → Int32) (k_st_fallen : ClassId) (f_st_fallen : Nat → Int32) (kn : Int32) (hbw : bw ≤ 14) (hbn : bn ≤ 10) (q_day : -1 ≤ bk_day.toInt ∧ bk_day.toInt < 10) (q_tail : rg f_bk_tail 14 0 10) (q_head : rg f_bk_head 14 0 10) (h_kn : 0 ≤ kn.toInt ∧ kn.toInt < 10) : Met l yX1_walkFrom (wM yX1_walkFrom cX1_walkFrom 5 none) ({ frames := 1, cells := 0, slots := 0, locals := 24 }) (va_Pc [.ref fl, .int kn] (fun U => U.heap.size = sz ∧ n0 ≤ sz ∧ GW n0 atx U ∧ va_P (dC, dI) classes [(fl, .inr (1, [.int (nI mm), .ref fl_knotOf, .ref fl_smokeAt, .ref fl_reach, .ref fl_route, .ref bk, .ref st, .ref fl_smokeIn])), (st, .inr (9, [.ref st_open, .ref st_speed, .ref st_fallen, .ref st_fire, .int st_mark, .int st_moreIn, .int st_more, .ref bk])), (bk, .inr (0, [.int (nI bw), .ref bk_tail, .ref bk_head, .ref bk_hinder, .ref bk_size, .ref bk_walk, .ref bk_draught, .ref bk_doorIn, .ref bk_fanIn, .ref bk_faceIn, .int (nI bn), .int bk_day, .ref gr])), (bk_walk, .inl (k_bk_walk, 14, .inl f_bk_walk)), (fl_smokeAt, .inl (k_fl_smokeAt, 14, .inl f_fl_smokeAt)), (fl_reach, .inl (k_fl_reach, 10, .inl f_fl_reach)), (bk_tail, .inl (k_bk_tail, 14, .inl f_bk_tail)), (bk_head, .inl (k_bk_head, 14, .inl f_bk_head)), (st_fallen, .inl (k_st_fallen, 14, .inl f_st_fallen))] U.heap ∧ va_K (dC, dI) classes [(k_bk_walk, .int), (k_fl_smokeAt, .int), (k_fl_reach, .int), (k_bk_tail, .int), (k_bk_head, .int), (k_st_fallen, .boolean)] U ∧ va_D (fun q => n0 ≤ q) [(fl, .inr (1, [.int (nI mm), .ref fl_knotOf, .ref fl_smokeAt, .ref fl_reach, .ref fl_route, .ref bk, .ref st, .ref fl_smokeIn])), (st, .inr (9, [.ref st_open, .ref st_speed, .ref st_fallen, .ref st_fire, .int st_mark, .int st_moreIn, .int st_more, .ref bk])), (bk, .inr (0, [.int (nI bw), .ref bk_tail, .ref bk_head, .ref bk_hinder, .ref bk_size, .ref bk_walk, .ref bk_draught, .ref bk_doorIn, .ref bk_fanIn, .ref bk_faceIn, .int (nI bn), .int bk_day, .ref gr])), (bk_walk, .inl (k_bk_walk, 14, .inl f_bk_walk)), (fl_smokeAt, .inl (k_fl_smokeAt, 14, .inl f_fl_smokeAt)), (fl_reach, .inl (k_fl_reach, 10, .inl f_fl_reach)), (bk_tail, .inl (k_bk_tail, 14, .inl f_bk_tail)), (bk_head, .inl (k_bk_head, 14, .inl f_bk_head)), (st_fallen, .inl (k_st_fallen, 14, .inl f_st_fallen))])) (va_Qv (fun _ : Unit => True) (fun (_ : Unit) (t : State) => ∃ (re9 : Nat → Int32), va_P (dC, dI) classes [(fl, .inr (1, [.int (nI mm), .ref fl_knotOf, .ref fl_smokeAt, .ref fl_reach, .ref fl_route, .ref bk, .ref st, .ref fl_smokeIn])), (st, .inr (9, [.ref st_open, .ref st_speed, .ref st_fallen, .ref st_fire, .int st_mark, .int st_moreIn, .int st_more, .ref bk])), (bk, .inr (0, [.int (nI bw), .ref bk_tail, .ref bk_head, .ref bk_hinder, .ref bk_size, .ref bk_walk, .ref bk_draught, .ref bk_doorIn, .ref bk_fanIn, .ref bk_faceIn, .int (nI bn), .int bk_day, .ref gr])), (bk_walk, .inl (k_bk_walk, 14, .inl f_bk_walk)), (fl_smokeAt, .inl (k_fl_smokeAt, 14, .inl f_fl_smokeAt)), (fl_reach, .inl (k_fl_reach, 10, .inl re9)), (bk_tail, .inl (k_bk_tail, 14, .inl f_bk_tail)), (bk_head, .inl (k_bk_head, 14, .inl f_bk_head)), (st_fallen, .inl (k_st_fallen, 14, .inl f_st_fallen))] t.heap ∧ va_K (dC, dI) classes [(k_bk_walk, .int), (k_fl_smokeAt, .int), (k_fl_reach, .int), (k_bk_tail, .int), (k_bk_head, .int), (k_st_fallen, .boolean)] t ∧ va_D (va_A [(fl, .inr (1, [.int (nI mm), .ref fl_knotOf, .ref fl_smokeAt, .ref fl_reach, .ref fl_route, .ref bk, .ref st, .ref fl_smokeIn])), (st, .inr (9, [.ref st_open, .ref st_speed, .ref st_fallen, .ref st_fire, .int st_mark, .int st_moreIn, .int st_more, .ref bk])), (bk, .inr (0, [.int (nI bw), .ref bk_tail, .ref bk_head, .ref bk_hinder, .ref bk_size, .ref bk_walk, .ref bk_draught, .ref bk_doorIn, .ref bk_fanIn, .ref bk_faceIn, .int (nI bn), .int bk_day, .ref gr])), (bk_walk, .inl (k_bk_walk, 14, .inl f_bk_walk)), (fl_smokeAt, .inl (k_fl_smokeAt, 14, .inl f_fl_smokeAt)), (fl_reach, .inl (k_fl_reach, 10, .inl f_fl_reach)), (bk_tail, .inl (k_bk_tail, 14, .inl f_bk_tail)), (bk_head, .inl (k_bk_head, 14, .inl f_bk_head)), (st_fallen, .inl (k_st_fallen, 14, .inl f_st_fallen))] sz) [(fl, .inr (1, [.int (nI mm), .ref fl_knotOf, .ref fl_smokeAt, .ref fl_reach, .ref fl_route, .ref bk, .ref st, .ref fl_smokeIn])), (st, .inr (9, [.ref st_open, .ref st_speed, .ref st_fallen, .ref st_fire, .int st_mark, .int st_moreIn, .int st_more, .ref bk])), (bk, .inr (0, [.int (nI bw), .ref bk_tail, .ref bk_head, .ref bk_hinder, .ref bk_size, .ref bk_walk, .ref bk_draught, .ref bk_doorIn, .ref bk_fanIn, .ref bk_faceIn, .int (nI bn), .int bk_day, .ref gr])), (bk_walk, .inl (k_bk_walk, 14, .inl f_bk_walk)), (fl_smokeAt, .inl (k_fl_smokeAt, 14, .inl f_fl_smokeAt)), (fl_reach, .inl (k_fl_reach, 10, .inl re9)), (bk_tail, .inl (k_bk_tail, 14, .inl f_bk_tail)), (bk_head, .inl (k_bk_head, 14, .inl f_bk_head)), (st_fallen, .inl (k_st_fallen, 14, .inl f_st_fallen))]) (va_A [(fl, .inr (1, [.int (nI mm), .ref fl_knotOf, .ref fl_smokeAt, .ref fl_reach, .ref fl_route, .ref bk, .ref st, .ref fl_smokeIn])), (st, .inr (9, [.ref st_open, .ref st_speed, .ref st_fallen, .ref st_fire, .int st_mark, .int st_moreIn, .int st_more, .ref bk])), (bk, .inr (0, [.int (nI bw), .ref bk_tail, .ref bk_head, .ref bk_hinder, .ref bk_size, .ref bk_walk, .ref bk_draught, .ref bk_doorIn, .ref bk_fanIn, .ref bk_faceIn, .int (nI bn), .int bk_day, .ref gr])), (bk_walk, .inl (k_bk_walk, 14, .inl f_bk_walk)), (fl_smokeAt, .inl (k_fl_smokeAt, 14, .inl f_fl_smokeAt)), (fl_reach, .inl (k_fl_reach, 10, .inl f_fl_reach)), (bk_tail, .inl (k_bk_tail, 14, .inl f_bk_tail)), (bk_head, .inl (k_bk_head, 14, .inl f_bk_head)), (st_fallen, .inl (k_st_fallen, 14, .inl f_st_fallen))] sz)) 0 0 (va_A [(fl, .inr (1, [.int (nI mm), .ref fl_knotOf, .ref fl_smokeAt, .ref fl_reach, .ref fl_route, .ref bk, .ref st, .ref fl_smokeIn])), (st, .inr (9, [.ref st_open, .ref st_speed, .ref st_fallen, .ref st_fire, .int st_mark, .int st_moreIn, .int st_more, .ref bk])), (bk, .inr (0, [.int (nI bw), .ref bk_tail, .ref bk_head, .ref bk_hinder, .ref bk_size, .ref bk_walk, .ref bk_draught, .ref bk_doorIn, .ref bk_fanIn, .ref bk_faceIn, .int (nI bn), .int bk_day, .ref gr])), (bk_walk, .inl (k_bk_walk, 14, .inl f_bk_walk)), (fl_smokeAt, .inl (k_fl_smokeAt, 14, .inl f_fl_smokeAt)), (fl_reach, .inl (k_fl_reach, 10, .inl f_fl_reach)), (bk_tail, .inl (k_bk_tail, 14, .inl f_bk_tail)), (bk_head, .inl (k_bk_head, 14, .inl f_bk_head)), (st_fallen, .inl (k_st_fallen, 14, .inl f_st_fallen))] sz) := by
  refine Met.ofW (cc := cX1_walkFrom) (maxL := 5) (ret := none) (by decide) rfl ?_
  intro p e s m args below meth c s₁ B hml hv
  obtain ⟨rfl, hsz, hn0, hG, hP, hK, hD0⟩ := hv
  have hx := B.exec
  have hb := B.bytes
  have hr := B.returns
  have hts := atoms_spec (ws := wM yX1_walkFrom cX1_walkFrom 5 none) B.pre
  have hown : s.vm.findClass RX1 = some m.cls := findClass_of_methodNamed B.named
  have hlocks := B.notSynchronized
  subst hsz
  have hD := hD0.self (sz := s.heap.size)
  have hA0 := vA_n0 hD0 hn0
  generalize hAe : va_A [(fl, .inr (1, [.int (nI mm), .ref fl_knotOf, .ref fl_smokeAt, .ref fl_reach, .ref fl_route, .ref bk, .ref st, .ref fl_smokeIn])), (st, .inr (9, [.ref st_open, .ref st_speed, .ref st_fallen, .ref st_fire, .int st_mark, .int st_moreIn, .int st_more, .ref bk])), (bk, .inr (0, [.int (nI bw), .ref bk_tail, .ref bk_head, .ref bk_hinder, .ref bk_size, .ref bk_walk, .ref bk_draught, .ref bk_doorIn, .ref bk_fanIn, .ref bk_faceIn, .int (nI bn), .int bk_day, .ref gr])), (bk_walk, .inl (k_bk_walk, 14, .inl f_bk_walk)), (fl_smokeAt, .inl (k_fl_smokeAt, 14, .inl f_fl_smokeAt)), (fl_reach, .inl (k_fl_reach, 10, .inl f_fl_reach)), (bk_tail, .inl (k_bk_tail, 14, .inl f_bk_tail)), (bk_head, .inl (k_bk_head, 14, .inl f_bk_head)), (st_fallen, .inl (k_st_fallen, 14, .inl f_st_fallen))] s.heap.size = A at hD hA0 ⊢
  have hA : ∀ q : Nat, s.heap.size ≤ q → A q := fun q h => by rw [← hAe]; exact Or.inr h
  have hS : va_S A s.heap s.heap [] := va_S.rf
  have hl := lv_entry ([.ref fl, .int kn]) (n := 5) (Nat.le_of_ble_eq_true rfl)
  rw [lg_entry_eq]
  generalize (lg_sl ([.ref fl, .int kn]) ++ List.replicate (5 - (lg_sl ([.ref fl, .int kn])).length) Slot.unset).toArray = ls at hl ⊢
  have hl : lv_has ls 5 [(0, .ref fl), (1, .int kn)] := hl
  refine lv_aload_n hx hb dX1_walkFrom_0 rfl (lv_at hl 0 rfl) ?_
  refine va_get (D := (dC, dI)) (ci := 1) (v := .ref fl_reach) (C := RX1) (T := TX1) (N := 8) hx hb hts (fun w h => wM_c (iX1 w h)) hown hK hP 0 rfl rfl 3 (by decide) (hts _ (wM_c wd_619)) (fun _ h9 => h9) rfl dX1_walkFrom_1 ?_
  refine lv_ldc hx hb hown (hts _ (wM_c wd_1223)) dX1_walkFrom_4 ?_
  obtain ⟨hPc, hDc, hFc⟩ := s3_c (ws' := [(fl_reach, .inl (k_fl_reach, 10, .inl f_fl_reach))]) [5] hP hD hS hA rfl (by decide)
  have hKc := hK.sub (tys' := [(k_fl_reach, .int)]) [2] rfl
  refine va_callv (va_runS (As := [.ref fl_reach, .int 2147483647]) (rest := []) ⟨hx, hb, hml, hown, hts⟩ (c_fill10 l dC dI n0 atx s.heap.size fl_reach k_fl_reach f_fl_reach 2147483647 ) (va_cwS 2 hts (gS (fun w h => wM_c h) wd_669 wd_1224 wd_668 wd_126) rfl rfl rfl (by decide +kernel) ⟨Nat.le_of_ble_eq_true rfl, Nat.le_of_ble_eq_true rfl⟩) ⟨fun a U g mk q => by obtain ⟨q0, q1, q2, qG, qP, qK, qD⟩ := q; exact ⟨q0, q1, q2, GW.blind qG, qP, va_K.moved (u := U) (U := U.calling g mk a) (Vm.Alike.refl U.vm) qK, qD⟩, fun U hU hW => ⟨rfl, by rw [hU], Nat.le_trans hn0 hS.1, GW.go hW hU hG (fun q hq hA9 => hS.2.1 q hq (fun h => hA9 (hA0 q h))), by rw [hU]; exact hPc, va_K.moved hW.alike hKc, hDc.weaken (fun _ _ _ h => hA0 _ h)⟩⟩ rfl rfl hl.1 rfl (lv_room (Nat.le_of_ble_eq_true rfl)) dX1_walkFrom_6 ⟨Nat.le_of_ble_eq_true rfl, Nat.le_of_ble_eq_true rfl⟩) hS (fun q _ h => hFc q h) hFc (fun u t H1 locs ht hvm hw_2 hB hz1 hk1 hS => ?_)
  obtain ⟨f2_3, hf_4, hP1, hK1, hD1⟩ := hB
  rw [ht] at hP1
  obtain ⟨hP, hD⟩ := s3_j (L := [(fl, .inr (1, [.int (nI mm), .ref fl_knotOf, .ref fl_smokeAt, .ref fl_reach, .ref fl_route, .ref bk, .ref st, .ref fl_smokeIn])), (st, .inr (9, [.ref st_open, .ref st_speed, .ref st_fallen, .ref st_fire, .int st_mark, .int st_moreIn, .int st_more, .ref bk])), (bk, .inr (0, [.int (nI bw), .ref bk_tail, .ref bk_head, .ref bk_hinder, .ref bk_size, .ref bk_walk, .ref bk_draught, .ref bk_doorIn, .ref bk_fanIn, .ref bk_faceIn, .int (nI bn), .int bk_day, .ref gr])), (bk_walk, .inl (k_bk_walk, 14, .inl f_bk_walk)), (fl_smokeAt, .inl (k_fl_smokeAt, 14, .inl f_fl_smokeAt)), (bk_tail, .inl (k_bk_tail, 14, .inl f_bk_tail)), (bk_head, .inl (k_bk_head, 14, .inl f_bk_head)), (st_fallen, .inl (k_st_fallen, 14, .inl f_st_fallen)), (fl_reach, .inl (k_fl_reach, 10, .inl f2_3))]) 8 hP hD [5] [0, 1, 2, 3, 4, 6, 7, 8] hk1 hFc hP1 hD1 rfl rfl rfl (by decide) (by decide)
  generalize H1 = H at hP hS ⊢
  refine lv_aload_n hx hb dX1_walkFrom_9 rfl (lv_at hl 0 rfl) ?_
  refine va_get (D := (dC, dI)) (ci := 1) (v := .ref fl_reach) (C := RX1) (T := TX1) (N := 8) hx hb hts (fun w h => wM_c (iX1 w h)) hown hK hP 0 rfl rfl 3 (by decide) (hts _ (wM_c wd_619)) (fun _ h9 => h9) rfl dX1_walkFrom_10 ?_
  refine lv_iload_n hx hb dX1_walkFrom_13 rfl (lv_at hl 1 rfl) ?_
  refine lv_iconst (v := 0) hx hb dX1_walkFrom_14 (by decide) ?_
  refine va_iast hx hb hK hP hD hS 8 2 rfl rfl (by first | with_reducible assumption | exact vp_in_iff.mpr (by omega)) dX1_walkFrom_15 (fun H locs hP hD hS => ?_)
  obtain ⟨f_5, ef_5⟩ : ∃ f9, f9 = (upd f2_3 kn.toNatClampNeg 0) := ⟨_, rfl⟩
  obtain ⟨hP, hD⟩ : s3_w (dC, dI) classes A [(fl, .inr (1, [.int (nI mm), .ref fl_knotOf, .ref fl_smokeAt, .ref fl_reach, .ref fl_route, .ref bk, .ref st, .ref fl_smokeIn])), (st, .inr (9, [.ref st_open, .ref st_speed, .ref st_fallen, .ref st_fire, .int st_mark, .int st_moreIn, .int st_more, .ref bk])), (bk, .inr (0, [.int (nI bw), .ref bk_tail, .ref bk_head, .ref bk_hinder, .ref bk_size, .ref bk_walk, .ref bk_draught, .ref bk_doorIn, .ref bk_fanIn, .ref bk_faceIn, .int (nI bn), .int bk_day, .ref gr])), (bk_walk, .inl (k_bk_walk, 14, .inl f_bk_walk)), (fl_smokeAt, .inl (k_fl_smokeAt, 14, .inl f_fl_smokeAt)), (bk_tail, .inl (k_bk_tail, 14, .inl f_bk_tail)), (bk_head, .inl (k_bk_head, 14, .inl f_bk_head)), (st_fallen, .inl (k_st_fallen, 14, .inl f_st_fallen)), (fl_reach, .inl (k_fl_reach, 10, .inl f_5))] H := ⟨(by rw [ef_5]; exact hP), (by rw [ef_5]; exact hD)⟩
  refine lv_iconst (v := 1) hx hb dX1_walkFrom_16 (by decide) ?_
  refine lv_istore_n (lv' := [(2, .int 1), (0, .ref fl), (1, .int kn)]) hx hb dX1_walkFrom_17 rfl hl (by decide) rfl (fun ls hl => ?_)
  refine lv_iconst (v := 0) hx hb dX1_walkFrom_18 (by decide) ?_
  refine lv_istore_n (lv' := [(3, .int 0), (2, .int 1), (0, .ref fl), (1, .int kn)]) hx hb dX1_walkFrom_19 rfl hl (by decide) rfl (fun ls hl => ?_)
  refine W_lp3 (I := fun (go1 : Int32) (i1 : Nat) (re1 : Nat → Int32) H locs ls => (i1 ≤ 11) ∧ va_P (dC, dI) classes [(fl, .inr (1, [.int (nI mm), .ref fl_knotOf, .ref fl_smokeAt, .ref fl_reach, .ref fl_route, .ref bk, .ref st, .ref fl_smokeIn])), (st, .inr (9, [.ref st_open, .ref st_speed, .ref st_fallen, .ref st_fire, .int st_mark, .int st_moreIn, .int st_more, .ref bk])), (bk, .inr (0, [.int (nI bw), .ref bk_tail, .ref bk_head, .ref bk_hinder, .ref bk_size, .ref bk_walk, .ref bk_draught, .ref bk_doorIn, .ref bk_fanIn, .ref bk_faceIn, .int (nI bn), .int bk_day, .ref gr])), (bk_walk, .inl (k_bk_walk, 14, .inl f_bk_walk)), (fl_smokeAt, .inl (k_fl_smokeAt, 14, .inl f_fl_smokeAt)), (bk_tail, .inl (k_bk_tail, 14, .inl f_bk_tail)), (bk_head, .inl (k_bk_head, 14, .inl f_bk_head)), (st_fallen, .inl (k_st_fallen, 14, .inl f_st_fallen)), (fl_reach, .inl (k_fl_reach, 10, .inl re1))] H ∧ va_D A [(fl, .inr (1, [.int (nI mm), .ref fl_knotOf, .ref fl_smokeAt, .ref fl_reach, .ref fl_route, .ref bk, .ref st, .ref fl_smokeIn])), (st, .inr (9, [.ref st_open, .ref st_speed, .ref st_fallen, .ref st_fire, .int st_mark, .int st_moreIn, .int st_more, .ref bk])), (bk, .inr (0, [.int (nI bw), .ref bk_tail, .ref bk_head, .ref bk_hinder, .ref bk_size, .ref bk_walk, .ref bk_draught, .ref bk_doorIn, .ref bk_fanIn, .ref bk_faceIn, .int (nI bn), .int bk_day, .ref gr])), (bk_walk, .inl (k_bk_walk, 14, .inl f_bk_walk)), (fl_smokeAt, .inl (k_fl_smokeAt, 14, .inl f_fl_smokeAt)), (bk_tail, .inl (k_bk_tail, 14, .inl f_bk_tail)), (bk_head, .inl (k_bk_head, 14, .inl f_bk_head)), (st_fallen, .inl (k_st_fallen, 14, .inl f_st_fallen)), (fl_reach, .inl (k_fl_reach, 10, .inl re1))] ∧ va_S A s.heap H locs ∧ lv_has ls 5 [(0, .ref fl), (2, .int go1), (3, .int (nI i1))]) (μ := fun (go1 : Int32) (i1 : Nat) (re1 : Nat → Int32) => 11 - i1) ?_ 1 0 f_5 _ _ _ ⟨(by first | with_reducible assumption | omega | exact vp_in_iff.mpr (by omega) | exact vp_in_nI (by omega) (by omega) | exact ⟨by omega, by omega⟩), hP, hD, hS, lv_sub hl [2, 1, 0] rfl⟩
  intro go1 i1 re1 H locs ls hI ih_6
  obtain ⟨hi1, hP, hD, hS, hl⟩ := hI
  refine lv_iload_n hx hb dX1_walkFrom_20 rfl (lv_at hl 2 rfl) ?_
  refine lv_bipush (v := 10) hx hb dX1_walkFrom_21 (by decide) ?_
  refine lv_icmp_gt (tgt := 137) hx hb dX1_walkFrom_23 (by decide) (fun c_7 => ?_) (fun c_7 => ?_)
  · skip
    have g_8 := n_lt (a := 10) (b := i1) c_7 (by omega) (by omega)
    have hK9 := hK.sub (tys' := [(k_bk_walk, .int), (k_fl_smokeAt, .int), (k_fl_reach, .int), (k_bk_tail, .int), (k_bk_head, .int), (k_st_fallen, .boolean)]) [0, 1, 2, 3, 4, 5] rfl
    exact W.vret hx hb hr (fun t ht hW => ⟨⟨(), rfl, trivial, re1, by rw [ht]; exact hP.sub [0, 1, 2, 3, 4, 8, 5, 6, 7] rfl, va_K.moved hW.alike hK9, hD.sub [0, 1, 2, 3, 4, 8, 5, 6, 7] (by decide) rfl⟩, hS.F ht⟩) hS.2.2 dX1_walkFrom_137
  · skip
    have g_9 := n_nlt (a := 10) (b := i1) c_7 (by omega) (by omega)
    refine lv_iload_n hx hb dX1_walkFrom_26 rfl (lv_at hl 1 rfl) ?_
    refine lv_if_eq (tgt := 137) hx hb dX1_walkFrom_27 (by decide) (fun c_10 => ?_) (fun c_10 => ?_)
    · skip
      have g_11 : go1.toInt = (0 : Int) := i_eq c_10
      have hK9 := hK.sub (tys' := [(k_bk_walk, .int), (k_fl_smokeAt, .int), (k_fl_reach, .int), (k_bk_tail, .int), (k_bk_head, .int), (k_st_fallen, .boolean)]) [0, 1, 2, 3, 4, 5] rfl
      exact W.vret hx hb hr (fun t ht hW => ⟨⟨(), rfl, trivial, re1, by rw [ht]; exact hP.sub [0, 1, 2, 3, 4, 8, 5, 6, 7] rfl, va_K.moved hW.alike hK9, hD.sub [0, 1, 2, 3, 4, 8, 5, 6, 7] (by decide) rfl⟩, hS.F ht⟩) hS.2.2 dX1_walkFrom_137
    · skip
      have g_12 : go1.toInt ≠ (0 : Int) := i_ne c_10
      refine lv_iconst (v := 0) hx hb dX1_walkFrom_30 (by decide) ?_
      refine lv_istore_n (lv' := [(2, .int 0), (0, .ref fl), (3, .int (nI i1))]) hx hb dX1_walkFrom_31 rfl hl (by decide) rfl (fun ls hl => ?_)
      refine lv_iconst (v := 0) hx hb dX1_walkFrom_32 (by decide) ?_
      refine lv_istore (lv' := [(4, .int 0), (2, .int 0), (0, .ref fl), (3, .int (nI i1))]) hx hb dX1_walkFrom_33 hl (by decide) rfl (fun ls hl => ?_)
      refine W_lp3 (I := fun (go2 : Int32) (i2 : Nat) (re2 : Nat → Int32) H locs ls => (i2 ≤ bw) ∧ va_P (dC, dI) classes [(fl, .inr (1, [.int (nI mm), .ref fl_knotOf, .ref fl_smokeAt, .ref fl_reach, .ref fl_route, .ref bk, .ref st, .ref fl_smokeIn])), (st, .inr (9, [.ref st_open, .ref st_speed, .ref st_fallen, .ref st_fire, .int st_mark, .int st_moreIn, .int st_more, .ref bk])), (bk, .inr (0, [.int (nI bw), .ref bk_tail, .ref bk_head, .ref bk_hinder, .ref bk_size, .ref bk_walk, .ref bk_draught, .ref bk_doorIn, .ref bk_fanIn, .ref bk_faceIn, .int (nI bn), .int bk_day, .ref gr])), (bk_walk, .inl (k_bk_walk, 14, .inl f_bk_walk)), (fl_smokeAt, .inl (k_fl_smokeAt, 14, .inl f_fl_smokeAt)), (bk_tail, .inl (k_bk_tail, 14, .inl f_bk_tail)), (bk_head, .inl (k_bk_head, 14, .inl f_bk_head)), (st_fallen, .inl (k_st_fallen, 14, .inl f_st_fallen)), (fl_reach, .inl (k_fl_reach, 10, .inl re2))] H ∧ va_D A [(fl, .inr (1, [.int (nI mm), .ref fl_knotOf, .ref fl_smokeAt, .ref fl_reach, .ref fl_route, .ref bk, .ref st, .ref fl_smokeIn])), (st, .inr (9, [.ref st_open, .ref st_speed, .ref st_fallen, .ref st_fire, .int st_mark, .int st_moreIn, .int st_more, .ref bk])), (bk, .inr (0, [.int (nI bw), .ref bk_tail, .ref bk_head, .ref bk_hinder, .ref bk_size, .ref bk_walk, .ref bk_draught, .ref bk_doorIn, .ref bk_fanIn, .ref bk_faceIn, .int (nI bn), .int bk_day, .ref gr])), (bk_walk, .inl (k_bk_walk, 14, .inl f_bk_walk)), (fl_smokeAt, .inl (k_fl_smokeAt, 14, .inl f_fl_smokeAt)), (bk_tail, .inl (k_bk_tail, 14, .inl f_bk_tail)), (bk_head, .inl (k_bk_head, 14, .inl f_bk_head)), (st_fallen, .inl (k_st_fallen, 14, .inl f_st_fallen)), (fl_reach, .inl (k_fl_reach, 10, .inl re2))] ∧ va_S A s.heap H locs ∧ lv_has ls 5 [(0, .ref fl), (2, .int go2), (3, .int (nI i1)), (4, .int (nI i2))]) (μ := fun (go2 : Int32) (i2 : Nat) (re2 : Nat → Int32) => bw - i2) ?_ 0 0 re1 _ _ _ ⟨(by first | with_reducible assumption | omega | exact vp_in_iff.mpr (by omega) | exact vp_in_nI (by omega) (by omega) | exact ⟨by omega, by omega⟩), hP, hD, hS, lv_sub hl [2, 1, 3, 0] rfl⟩
      intro go2 i2 re2 H locs ls hI ih_13
      obtain ⟨hi2, hP, hD, hS, hl⟩ := hI
      refine lv_iload hx hb dX1_walkFrom_35 (lv_at hl 3 rfl) ?_
      refine lv_aload_n hx hb dX1_walkFrom_37 rfl (lv_at hl 0 rfl) ?_
      refine va_get (D := (dC, dI)) (ci := 1) (v := .ref bk) (C := RX1) (T := TX1) (N := 8) hx hb hts (fun w h => wM_c (iX1 w h)) hown hK hP 0 rfl rfl 5 (by decide) (hts _ (wM_c wd_623)) (fun _ h9 => h9) rfl dX1_walkFrom_38 ?_
      refine va_get (D := (dC, dI)) (ci := 0) (v := .int (nI bw)) (C := RX0) (T := TX0) (N := 13) hx hb hts (fun w h => wM_c (iX0 w h)) hown hK hP 2 rfl rfl 0 (by decide) (hts _ (wM_c wd_239)) (fun _ h9 => h9) rfl dX1_walkFrom_41 ?_
      refine lv_icmp_ge (tgt := 131) hx hb dX1_walkFrom_44 (by decide) (fun c_14 => ?_) (fun c_14 => ?_)
      · skip
        have g_15 := n_ge (a := i2) (b := bw) c_14 (by omega) (by omega)
        refine lv_iinc (v := (nI (i1 + 1))) (lv' := [(3, .int (nI (i1 + 1))), (0, .ref fl), (2, .int go2), (4, .int (nI i2))]) hx hb dX1_walkFrom_131 hl (k := 2) rfl (nI_add _ 1) (by decide) rfl (fun ls hl => ?_)
        refine lv_goto (tgt := 20) hx hb dX1_walkFrom_134 (by decide) ?_
        exact ih_6 go2 (i1 + 1) re2 _ _ _ ⟨(by first | with_reducible assumption | omega | exact vp_in_iff.mpr (by omega) | exact vp_in_nI (by omega) (by omega) | exact ⟨by omega, by omega⟩), hP.sub [0, 1, 2, 3, 4, 5, 6, 7, 8] rfl, hD.sub [0, 1, 2, 3, 4, 5, 6, 7, 8] (by decide) rfl, hS, lv_sub hl [1, 2, 0] rfl⟩ (by omega)
      · skip
        have g_16 := n_nge (a := i2) (b := bw) c_14 (by omega) (by omega)
        refine lv_aload_n hx hb dX1_walkFrom_47 rfl (lv_at hl 0 rfl) ?_
        refine va_get (D := (dC, dI)) (ci := 1) (v := .ref st) (C := RX1) (T := TX1) (N := 8) hx hb hts (fun w h => wM_c (iX1 w h)) hown hK hP 0 rfl rfl 6 (by decide) (hts _ (wM_c wd_624)) (fun _ h9 => h9) rfl dX1_walkFrom_48 ?_
        refine va_get (D := (dC, dI)) (ci := 9) (v := .ref st_fallen) (C := RX9) (T := TX9) (N := 8) hx hb hts (fun w h => wM_c (iX9 w h)) hown hK hP 1 rfl rfl 2 (by decide) (hts _ (wM_c wd_398)) (fun _ h9 => h9) rfl dX1_walkFrom_51 ?_
        refine lv_iload hx hb dX1_walkFrom_54 (lv_at hl 3 rfl) ?_
        refine va_zald hx hb hK hP 7 5 rfl rfl (vp_in_nI (n := i2) (by omega) (by omega)) dX1_walkFrom_56 ?_
        refine lv_topi (fun v_17 ev_17 => ?_)
        have nv_17 : v_17 = f_st_fallen i2 := by rw [ev_17]; exact congrArg _ (nI_clamp (by omega))
        refine lv_if_eq (tgt := 63) hx hb dX1_walkFrom_57 (by decide) (fun c_18 => ?_) (fun c_18 => ?_)
        · skip
          have g_19 : v_17.toInt = (0 : Int) := i_eq c_18
          refine lv_aload_n hx hb dX1_walkFrom_63 rfl (lv_at hl 0 rfl) ?_
          refine lv_iload hx hb dX1_walkFrom_64 (lv_at hl 3 rfl) ?_
          refine lv_aload_n hx hb dX1_walkFrom_66 rfl (lv_at hl 0 rfl) ?_
          refine va_get (D := (dC, dI)) (ci := 1) (v := .ref bk) (C := RX1) (T := TX1) (N := 8) hx hb hts (fun w h => wM_c (iX1 w h)) hown hK hP 0 rfl rfl 5 (by decide) (hts _ (wM_c wd_623)) (fun _ h9 => h9) rfl dX1_walkFrom_67 ?_
          refine va_get (D := (dC, dI)) (ci := 0) (v := .ref bk_tail) (C := RX0) (T := TX0) (N := 13) hx hb hts (fun w h => wM_c (iX0 w h)) hown hK hP 2 rfl rfl 1 (by decide) (hts _ (wM_c wd_248)) (fun _ h9 => h9) rfl dX1_walkFrom_70 ?_
          refine lv_iload hx hb dX1_walkFrom_73 (lv_at hl 3 rfl) ?_
          refine va_iald hx hb hK hP 5 3 rfl rfl (vp_in_nI (n := i2) (by omega) (by omega)) dX1_walkFrom_75 ?_
          refine lv_topi (fun v_20 ev_20 => ?_)
          have nv_20 : v_20 = f_bk_tail i2 := by rw [ev_20]; exact congrArg _ (nI_clamp (by omega))
          have g_21 : 0 ≤ v_20.toInt ∧ v_20.toInt < 10 := by rw [ev_20]; exact rg_in q_tail (by omega) (by omega)
          refine lv_aload_n hx hb dX1_walkFrom_76 rfl (lv_at hl 0 rfl) ?_
          refine va_get (D := (dC, dI)) (ci := 1) (v := .ref bk) (C := RX1) (T := TX1) (N := 8) hx hb hts (fun w h => wM_c (iX1 w h)) hown hK hP 0 rfl rfl 5 (by decide) (hts _ (wM_c wd_623)) (fun _ h9 => h9) rfl dX1_walkFrom_77 ?_
          refine va_get (D := (dC, dI)) (ci := 0) (v := .ref bk_head) (C := RX0) (T := TX0) (N := 13) hx hb hts (fun w h => wM_c (iX0 w h)) hown hK hP 2 rfl rfl 2 (by decide) (hts _ (wM_c wd_253)) (fun _ h9 => h9) rfl dX1_walkFrom_80 ?_
          refine lv_iload hx hb dX1_walkFrom_83 (lv_at hl 3 rfl) ?_
          refine va_iald hx hb hK hP 6 4 rfl rfl (vp_in_nI (n := i2) (by omega) (by omega)) dX1_walkFrom_85 ?_
          refine lv_topi (fun v_22 ev_22 => ?_)
          have nv_22 : v_22 = f_bk_head i2 := by rw [ev_22]; exact congrArg _ (nI_clamp (by omega))
          have g_23 : 0 ≤ v_22.toInt ∧ v_22.toInt < 10 := by rw [ev_22]; exact rg_in q_head (by omega) (by omega)
          obtain ⟨hPc, hDc, hFc⟩ := s3_c (ws' := [(fl, .inr (1, [.int (nI mm), .ref fl_knotOf, .ref fl_smokeAt, .ref fl_reach, .ref fl_route, .ref bk, .ref st, .ref fl_smokeIn])), (bk, .inr (0, [.int (nI bw), .ref bk_tail, .ref bk_head, .ref bk_hinder, .ref bk_size, .ref bk_walk, .ref bk_draught, .ref bk_doorIn, .ref bk_fanIn, .ref bk_faceIn, .int (nI bn), .int bk_day, .ref gr])), (bk_walk, .inl (k_bk_walk, 14, .inl f_bk_walk)), (fl_smokeAt, .inl (k_fl_smokeAt, 14, .inl f_fl_smokeAt)), (fl_reach, .inl (k_fl_reach, 10, .inl re2))]) [0, 2, 3, 4, 8] hP hD hS hA rfl (by decide)
          have hKc := hK.sub (tys' := [(k_bk_walk, .int), (k_fl_smokeAt, .int), (k_fl_reach, .int)]) [0, 1, 2] rfl
          refine va_calli (va_runV (As := [.int (nI i2), .int v_20, .int v_22]) (rest := []) ⟨hx, hb, hml, hown, hts⟩ (c1_walk l dC dI n0 atx H.size fl mm fl_knotOf fl_smokeAt fl_reach fl_route bk st fl_smokeIn bw bk_tail bk_head bk_hinder bk_size bk_walk bk_draught bk_doorIn bk_fanIn bk_faceIn bn bk_day gr k_bk_walk f_bk_walk k_fl_smokeAt f_fl_smokeAt k_fl_reach re2 (nI i2) v_20 v_22 (by first | with_reducible assumption | omega | exact vp_in_iff.mpr (by omega) | exact vp_in_nI (by omega) (by omega) | exact ⟨by omega, by omega⟩) (by first | with_reducible assumption | omega | exact vp_in_iff.mpr (by omega) | exact vp_in_nI (by omega) (by omega) | exact ⟨by omega, by omega⟩) (by first | with_reducible assumption | omega | exact vp_in_iff.mpr (by omega) | exact vp_in_nI (by omega) (by omega) | exact ⟨by omega, by omega⟩) (by first | with_reducible assumption | omega | exact vp_in_iff.mpr (by omega) | exact vp_in_nI (by omega) (by omega) | exact ⟨by omega, by omega⟩) (by first | with_reducible assumption | omega | exact vp_in_iff.mpr (by omega) | exact vp_in_nI (by omega) (by omega) | exact ⟨by omega, by omega⟩) (by first | with_reducible assumption | omega | exact vp_in_iff.mpr (by omega) | exact vp_in_nI (by omega) (by omega) | exact ⟨by omega, by omega⟩)) (cwV 3 hts (gV (fun w h => wM_c h) wd_1257 wd_1254 wd_1256 wd_51 wd_124) rfl rfl rfl (by decide +kernel) ⟨Nat.le_of_ble_eq_true rfl, Nat.le_of_ble_eq_true rfl⟩) ⟨fun a U g mk q => by obtain ⟨q0, q1, q2, qG, qP, qK, qD⟩ := q; exact ⟨q0, q1, q2, GW.blind qG, qP, va_K.moved (u := U) (U := U.calling g mk a) (Vm.Alike.refl U.vm) qK, qD⟩, va_recv hKc hPc (ci := 1) (q0 := 0) rfl rfl, fun U hU hW => ⟨rfl, by rw [hU], Nat.le_trans hn0 hS.1, GW.go hW hU hG (fun q hq hA9 => hS.2.1 q hq (fun h => hA9 (hA0 q h))), by rw [hU]; exact hPc, va_K.moved hW.alike hKc, hDc.weaken (fun _ _ _ h => hA0 _ h)⟩⟩ rfl rfl hl.1 rfl (lv_room (Nat.le_of_ble_eq_true rfl)) dX1_walkFrom_86 ⟨Nat.le_of_ble_eq_true rfl, Nat.le_of_ble_eq_true rfl⟩) hS (fun q _ h => hFc q h) hFc (fun r_24 u t H1 locs ht hvm hw_25 hB hz1 hk1 hS => ?_)
          obtain ⟨re9_26, hP1, hK1, hD1⟩ := hB
          rw [ht] at hP1
          obtain ⟨hP, hD⟩ := s3_j (L := [(st, .inr (9, [.ref st_open, .ref st_speed, .ref st_fallen, .ref st_fire, .int st_mark, .int st_moreIn, .int st_more, .ref bk])), (bk_tail, .inl (k_bk_tail, 14, .inl f_bk_tail)), (bk_head, .inl (k_bk_head, 14, .inl f_bk_head)), (st_fallen, .inl (k_st_fallen, 14, .inl f_st_fallen)), (fl, .inr (1, [.int (nI mm), .ref fl_knotOf, .ref fl_smokeAt, .ref fl_reach, .ref fl_route, .ref bk, .ref st, .ref fl_smokeIn])), (bk, .inr (0, [.int (nI bw), .ref bk_tail, .ref bk_head, .ref bk_hinder, .ref bk_size, .ref bk_walk, .ref bk_draught, .ref bk_doorIn, .ref bk_fanIn, .ref bk_faceIn, .int (nI bn), .int bk_day, .ref gr])), (bk_walk, .inl (k_bk_walk, 14, .inl f_bk_walk)), (fl_smokeAt, .inl (k_fl_smokeAt, 14, .inl f_fl_smokeAt)), (fl_reach, .inl (k_fl_reach, 10, .inl re9_26))]) 4 hP hD [0, 2, 3, 4, 8] [1, 5, 6, 7] hk1 hFc hP1 hD1 rfl rfl rfl (by decide) (by decide)
          generalize H1 = H at hP hS ⊢
          rcases hw_25 with rfl | rfl
          · skip
            refine lv_if_eq (tgt := 94) hx hb dX1_walkFrom_89 (by decide) (fun c_27 => ?_) (fun c_27 => ?_)
            · skip
              refine lv_aload_n hx hb dX1_walkFrom_94 rfl (lv_at hl 0 rfl) ?_
              refine lv_iload hx hb dX1_walkFrom_95 (lv_at hl 3 rfl) ?_
              refine lv_aload_n hx hb dX1_walkFrom_97 rfl (lv_at hl 0 rfl) ?_
              refine va_get (D := (dC, dI)) (ci := 1) (v := .ref bk) (C := RX1) (T := TX1) (N := 8) hx hb hts (fun w h => wM_c (iX1 w h)) hown hK hP 4 rfl rfl 5 (by decide) (hts _ (wM_c wd_623)) (fun _ h9 => h9) rfl dX1_walkFrom_98 ?_
              refine va_get (D := (dC, dI)) (ci := 0) (v := .ref bk_head) (C := RX0) (T := TX0) (N := 13) hx hb hts (fun w h => wM_c (iX0 w h)) hown hK hP 5 rfl rfl 2 (by decide) (hts _ (wM_c wd_253)) (fun _ h9 => h9) rfl dX1_walkFrom_101 ?_
              refine lv_iload hx hb dX1_walkFrom_104 (lv_at hl 3 rfl) ?_
              refine va_iald hx hb hK hP 2 4 rfl rfl (vp_in_nI (n := i2) (by omega) (by omega)) dX1_walkFrom_106 ?_
              refine lv_topi (fun v_28 ev_28 => ?_)
              have nv_28 : v_28 = f_bk_head i2 := by rw [ev_28]; exact congrArg _ (nI_clamp (by omega))
              have g_29 : 0 ≤ v_28.toInt ∧ v_28.toInt < 10 := by rw [ev_28]; exact rg_in q_head (by omega) (by omega)
              refine lv_aload_n hx hb dX1_walkFrom_107 rfl (lv_at hl 0 rfl) ?_
              refine va_get (D := (dC, dI)) (ci := 1) (v := .ref bk) (C := RX1) (T := TX1) (N := 8) hx hb hts (fun w h => wM_c (iX1 w h)) hown hK hP 4 rfl rfl 5 (by decide) (hts _ (wM_c wd_623)) (fun _ h9 => h9) rfl dX1_walkFrom_108 ?_
              refine va_get (D := (dC, dI)) (ci := 0) (v := .ref bk_tail) (C := RX0) (T := TX0) (N := 13) hx hb hts (fun w h => wM_c (iX0 w h)) hown hK hP 5 rfl rfl 1 (by decide) (hts _ (wM_c wd_248)) (fun _ h9 => h9) rfl dX1_walkFrom_111 ?_
              refine lv_iload hx hb dX1_walkFrom_114 (lv_at hl 3 rfl) ?_
              refine va_iald hx hb hK hP 1 3 rfl rfl (vp_in_nI (n := i2) (by omega) (by omega)) dX1_walkFrom_116 ?_
              refine lv_topi (fun v_30 ev_30 => ?_)
              have nv_30 : v_30 = f_bk_tail i2 := by rw [ev_30]; exact congrArg _ (nI_clamp (by omega))
              have g_31 : 0 ≤ v_30.toInt ∧ v_30.toInt < 10 := by rw [ev_30]; exact rg_in q_tail (by omega) (by omega)
              obtain ⟨hPc, hDc, hFc⟩ := s3_c (ws' := [(fl, .inr (1, [.int (nI mm), .ref fl_knotOf, .ref fl_smokeAt, .ref fl_reach, .ref fl_route, .ref bk, .ref st, .ref fl_smokeIn])), (bk, .inr (0, [.int (nI bw), .ref bk_tail, .ref bk_head, .ref bk_hinder, .ref bk_size, .ref bk_walk, .ref bk_draught, .ref bk_doorIn, .ref bk_fanIn, .ref bk_faceIn, .int (nI bn), .int bk_day, .ref gr])), (bk_walk, .inl (k_bk_walk, 14, .inl f_bk_walk)), (fl_smokeAt, .inl (k_fl_smokeAt, 14, .inl f_fl_smokeAt)), (fl_reach, .inl (k_fl_reach, 10, .inl re9_26))]) [4, 5, 6, 7, 8] hP hD hS hA rfl (by decide)
              have hKc := hK.sub (tys' := [(k_bk_walk, .int), (k_fl_smokeAt, .int), (k_fl_reach, .int)]) [0, 1, 2] rfl
              refine va_calli (va_runV (As := [.int (nI i2), .int v_28, .int v_30]) (rest := []) ⟨hx, hb, hml, hown, hts⟩ (c1_walk l dC dI n0 atx H.size fl mm fl_knotOf fl_smokeAt fl_reach fl_route bk st fl_smokeIn bw bk_tail bk_head bk_hinder bk_size bk_walk bk_draught bk_doorIn bk_fanIn bk_faceIn bn bk_day gr k_bk_walk f_bk_walk k_fl_smokeAt f_fl_smokeAt k_fl_reach re9_26 (nI i2) v_28 v_30 (by first | with_reducible assumption | omega | exact vp_in_iff.mpr (by omega) | exact vp_in_nI (by omega) (by omega) | exact ⟨by omega, by omega⟩) (by first | with_reducible assumption | omega | exact vp_in_iff.mpr (by omega) | exact vp_in_nI (by omega) (by omega) | exact ⟨by omega, by omega⟩) (by first | with_reducible assumption | omega | exact vp_in_iff.mpr (by omega) | exact vp_in_nI (by omega) (by omega) | exact ⟨by omega, by omega⟩) (by first | with_reducible assumption | omega | exact vp_in_iff.mpr (by omega) | exact vp_in_nI (by omega) (by omega) | exact ⟨by omega, by omega⟩) (by first | with_reducible assumption | omega | exact vp_in_iff.mpr (by omega) | exact vp_in_nI (by omega) (by omega) | exact ⟨by omega, by omega⟩) (by first | with_reducible assumption | omega | exact vp_in_iff.mpr (by omega) | exact vp_in_nI (by omega) (by omega) | exact ⟨by omega, by omega⟩)) (cwV 3 hts (gV (fun w h => wM_c h) wd_1257 wd_1254 wd_1256 wd_51 wd_124) rfl rfl rfl (by decide +kernel) ⟨Nat.le_of_ble_eq_true rfl, Nat.le_of_ble_eq_true rfl⟩) ⟨fun a U g mk q => by obtain ⟨q0, q1, q2, qG, qP, qK, qD⟩ := q; exact ⟨q0, q1, q2, GW.blind qG, qP, va_K.moved (u := U) (U := U.calling g mk a) (Vm.Alike.refl U.vm) qK, qD⟩, va_recv hKc hPc (ci := 1) (q0 := 0) rfl rfl, fun U hU hW => ⟨rfl, by rw [hU], Nat.le_trans hn0 hS.1, GW.go hW hU hG (fun q hq hA9 => hS.2.1 q hq (fun h => hA9 (hA0 q h))), by rw [hU]; exact hPc, va_K.moved hW.alike hKc, hDc.weaken (fun _ _ _ h => hA0 _ h)⟩⟩ rfl rfl hl.1 rfl (lv_room (Nat.le_of_ble_eq_true rfl)) dX1_walkFrom_117 ⟨Nat.le_of_ble_eq_true rfl, Nat.le_of_ble_eq_true rfl⟩) hS (fun q _ h => hFc q h) hFc (fun r_32 u t H1 locs ht hvm hw_33 hB hz1 hk1 hS => ?_)
              obtain ⟨re9_34, hP1, hK1, hD1⟩ := hB
              rw [ht] at hP1
              obtain ⟨hP, hD⟩ := s3_j (L := [(st, .inr (9, [.ref st_open, .ref st_speed, .ref st_fallen, .ref st_fire, .int st_mark, .int st_moreIn, .int st_more, .ref bk])), (bk_tail, .inl (k_bk_tail, 14, .inl f_bk_tail)), (bk_head, .inl (k_bk_head, 14, .inl f_bk_head)), (st_fallen, .inl (k_st_fallen, 14, .inl f_st_fallen)), (fl, .inr (1, [.int (nI mm), .ref fl_knotOf, .ref fl_smokeAt, .ref fl_reach, .ref fl_route, .ref bk, .ref st, .ref fl_smokeIn])), (bk, .inr (0, [.int (nI bw), .ref bk_tail, .ref bk_head, .ref bk_hinder, .ref bk_size, .ref bk_walk, .ref bk_draught, .ref bk_doorIn, .ref bk_fanIn, .ref bk_faceIn, .int (nI bn), .int bk_day, .ref gr])), (bk_walk, .inl (k_bk_walk, 14, .inl f_bk_walk)), (fl_smokeAt, .inl (k_fl_smokeAt, 14, .inl f_fl_smokeAt)), (fl_reach, .inl (k_fl_reach, 10, .inl re9_34))]) 4 hP hD [4, 5, 6, 7, 8] [0, 1, 2, 3] hk1 hFc hP1 hD1 rfl rfl rfl (by decide) (by decide)
              generalize H1 = H at hP hS ⊢
              rcases hw_33 with rfl | rfl
              · skip
                refine lv_if_eq (tgt := 125) hx hb dX1_walkFrom_120 (by decide) (fun c_35 => ?_) (fun c_35 => ?_)
                · skip
                  refine lv_iinc (v := (nI (i2 + 1))) (lv' := [(4, .int (nI (i2 + 1))), (0, .ref fl), (2, .int go2), (3, .int (nI i1))]) hx hb dX1_walkFrom_125 hl (k := 3) rfl (nI_add _ 1) (by decide) rfl (fun ls hl => ?_)
                  refine lv_goto (tgt := 35) hx hb dX1_walkFrom_128 (by decide) ?_
                  exact ih_13 go2 (i2 + 1) re9_34 _ _ _ ⟨(by first | with_reducible assumption | omega | exact vp_in_iff.mpr (by omega) | exact vp_in_nI (by omega) (by omega) | exact ⟨by omega, by omega⟩), hP.sub [4, 0, 5, 6, 7, 1, 2, 3, 8] rfl, hD.sub [4, 0, 5, 6, 7, 1, 2, 3, 8] (by decide) rfl, hS, lv_sub hl [1, 2, 3, 0] rfl⟩ (by omega)
                · exact absurd c_35 (by decide)
              · skip
                refine lv_if_eq (tgt := 125) hx hb dX1_walkFrom_120 (by decide) (fun c_36 => ?_) (fun c_36 => ?_)
                · exact absurd c_36 (by decide)
                refine lv_iconst (v := 1) hx hb dX1_walkFrom_123 (by decide) ?_
                refine lv_istore_n (lv' := [(2, .int 1), (0, .ref fl), (3, .int (nI i1)), (4, .int (nI i2))]) hx hb dX1_walkFrom_124 rfl hl (by decide) rfl (fun ls hl => ?_)
                refine lv_iinc (v := (nI (i2 + 1))) (lv' := [(4, .int (nI (i2 + 1))), (2, .int 1), (0, .ref fl), (3, .int (nI i1))]) hx hb dX1_walkFrom_125 hl (k := 3) rfl (nI_add _ 1) (by decide) rfl (fun ls hl => ?_)
                refine lv_goto (tgt := 35) hx hb dX1_walkFrom_128 (by decide) ?_
                exact ih_13 1 (i2 + 1) re9_34 _ _ _ ⟨(by first | with_reducible assumption | omega | exact vp_in_iff.mpr (by omega) | exact vp_in_nI (by omega) (by omega) | exact ⟨by omega, by omega⟩), hP.sub [4, 0, 5, 6, 7, 1, 2, 3, 8] rfl, hD.sub [4, 0, 5, 6, 7, 1, 2, 3, 8] (by decide) rfl, hS, lv_sub hl [2, 1, 3, 0] rfl⟩ (by omega)
            · exact absurd c_27 (by decide)
          · skip
            refine lv_if_eq (tgt := 94) hx hb dX1_walkFrom_89 (by decide) (fun c_37 => ?_) (fun c_37 => ?_)
            · exact absurd c_37 (by decide)
            refine lv_iconst (v := 1) hx hb dX1_walkFrom_92 (by decide) ?_
            refine lv_istore_n (lv' := [(2, .int 1), (0, .ref fl), (3, .int (nI i1)), (4, .int (nI i2))]) hx hb dX1_walkFrom_93 rfl hl (by decide) rfl (fun ls hl => ?_)
            refine lv_aload_n hx hb dX1_walkFrom_94 rfl (lv_at hl 1 rfl) ?_
            refine lv_iload hx hb dX1_walkFrom_95 (lv_at hl 3 rfl) ?_
            refine lv_aload_n hx hb dX1_walkFrom_97 rfl (lv_at hl 1 rfl) ?_
            refine va_get (D := (dC, dI)) (ci := 1) (v := .ref bk) (C := RX1) (T := TX1) (N := 8) hx hb hts (fun w h => wM_c (iX1 w h)) hown hK hP 4 rfl rfl 5 (by decide) (hts _ (wM_c wd_623)) (fun _ h9 => h9) rfl dX1_walkFrom_98 ?_
            refine va_get (D := (dC, dI)) (ci := 0) (v := .ref bk_head) (C := RX0) (T := TX0) (N := 13) hx hb hts (fun w h => wM_c (iX0 w h)) hown hK hP 5 rfl rfl 2 (by decide) (hts _ (wM_c wd_253)) (fun _ h9 => h9) rfl dX1_walkFrom_101 ?_
            refine lv_iload hx hb dX1_walkFrom_104 (lv_at hl 3 rfl) ?_
            refine va_iald hx hb hK hP 2 4 rfl rfl (vp_in_nI (n := i2) (by omega) (by omega)) dX1_walkFrom_106 ?_
            refine lv_topi (fun v_38 ev_38 => ?_)
            have nv_38 : v_38 = f_bk_head i2 := by rw [ev_38]; exact congrArg _ (nI_clamp (by omega))
            have g_39 : 0 ≤ v_38.toInt ∧ v_38.toInt < 10 := by rw [ev_38]; exact rg_in q_head (by omega) (by omega)
            refine lv_aload_n hx hb dX1_walkFrom_107 rfl (lv_at hl 1 rfl) ?_
            refine va_get (D := (dC, dI)) (ci := 1) (v := .ref bk) (C := RX1) (T := TX1) (N := 8) hx hb hts (fun w h => wM_c (iX1 w h)) hown hK hP 4 rfl rfl 5 (by decide) (hts _ (wM_c wd_623)) (fun _ h9 => h9) rfl dX1_walkFrom_108 ?_
            refine va_get (D := (dC, dI)) (ci := 0) (v := .ref bk_tail) (C := RX0) (T := TX0) (N := 13) hx hb hts (fun w h => wM_c (iX0 w h)) hown hK hP 5 rfl rfl 1 (by decide) (hts _ (wM_c wd_248)) (fun _ h9 => h9) rfl dX1_walkFrom_111 ?_
            refine lv_iload hx hb dX1_walkFrom_114 (lv_at hl 3 rfl) ?_
            refine va_iald hx hb hK hP 1 3 rfl rfl (vp_in_nI (n := i2) (by omega) (by omega)) dX1_walkFrom_116 ?_
            refine lv_topi (fun v_40 ev_40 => ?_)
            have nv_40 : v_40 = f_bk_tail i2 := by rw [ev_40]; exact congrArg _ (nI_clamp (by omega))
            have g_41 : 0 ≤ v_40.toInt ∧ v_40.toInt < 10 := by rw [ev_40]; exact rg_in q_tail (by omega) (by omega)
            obtain ⟨hPc, hDc, hFc⟩ := s3_c (ws' := [(fl, .inr (1, [.int (nI mm), .ref fl_knotOf, .ref fl_smokeAt, .ref fl_reach, .ref fl_route, .ref bk, .ref st, .ref fl_smokeIn])), (bk, .inr (0, [.int (nI bw), .ref bk_tail, .ref bk_head, .ref bk_hinder, .ref bk_size, .ref bk_walk, .ref bk_draught, .ref bk_doorIn, .ref bk_fanIn, .ref bk_faceIn, .int (nI bn), .int bk_day, .ref gr])), (bk_walk, .inl (k_bk_walk, 14, .inl f_bk_walk)), (fl_smokeAt, .inl (k_fl_smokeAt, 14, .inl f_fl_smokeAt)), (fl_reach, .inl (k_fl_reach, 10, .inl re9_26))]) [4, 5, 6, 7, 8] hP hD hS hA rfl (by decide)
            have hKc := hK.sub (tys' := [(k_bk_walk, .int), (k_fl_smokeAt, .int), (k_fl_reach, .int)]) [0, 1, 2] rfl
            refine va_calli (va_runV (As := [.int (nI i2), .int v_38, .int v_40]) (rest := []) ⟨hx, hb, hml, hown, hts⟩ (c1_walk l dC dI n0 atx H.size fl mm fl_knotOf fl_smokeAt fl_reach fl_route bk st fl_smokeIn bw bk_tail bk_head bk_hinder bk_size bk_walk bk_draught bk_doorIn bk_fanIn bk_faceIn bn bk_day gr k_bk_walk f_bk_walk k_fl_smokeAt f_fl_smokeAt k_fl_reach re9_26 (nI i2) v_38 v_40 (by first | with_reducible assumption | omega | exact vp_in_iff.mpr (by omega) | exact vp_in_nI (by omega) (by omega) | exact ⟨by omega, by omega⟩) (by first | with_reducible assumption | omega | exact vp_in_iff.mpr (by omega) | exact vp_in_nI (by omega) (by omega) | exact ⟨by omega, by omega⟩) (by first | with_reducible assumption | omega | exact vp_in_iff.mpr (by omega) | exact vp_in_nI (by omega) (by omega) | exact ⟨by omega, by omega⟩) (by first | with_reducible assumption | omega | exact vp_in_iff.mpr (by omega) | exact vp_in_nI (by omega) (by omega) | exact ⟨by omega, by omega⟩) (by first | with_reducible assumption | omega | exact vp_in_iff.mpr (by omega) | exact vp_in_nI (by omega) (by omega) | exact ⟨by omega, by omega⟩) (by first | with_reducible assumption | omega | exact vp_in_iff.mpr (by omega) | exact vp_in_nI (by omega) (by omega) | exact ⟨by omega, by omega⟩)) (cwV 3 hts (gV (fun w h => wM_c h) wd_1257 wd_1254 wd_1256 wd_51 wd_124) rfl rfl rfl (by decide +kernel) ⟨Nat.le_of_ble_eq_true rfl, Nat.le_of_ble_eq_true rfl⟩) ⟨fun a U g mk q => by obtain ⟨q0, q1, q2, qG, qP, qK, qD⟩ := q; exact ⟨q0, q1, q2, GW.blind qG, qP, va_K.moved (u := U) (U := U.calling g mk a) (Vm.Alike.refl U.vm) qK, qD⟩, va_recv hKc hPc (ci := 1) (q0 := 0) rfl rfl, fun U hU hW => ⟨rfl, by rw [hU], Nat.le_trans hn0 hS.1, GW.go hW hU hG (fun q hq hA9 => hS.2.1 q hq (fun h => hA9 (hA0 q h))), by rw [hU]; exact hPc, va_K.moved hW.alike hKc, hDc.weaken (fun _ _ _ h => hA0 _ h)⟩⟩ rfl rfl hl.1 rfl (lv_room (Nat.le_of_ble_eq_true rfl)) dX1_walkFrom_117 ⟨Nat.le_of_ble_eq_true rfl, Nat.le_of_ble_eq_true rfl⟩) hS (fun q _ h => hFc q h) hFc (fun r_42 u t H1 locs ht hvm hw_43 hB hz1 hk1 hS => ?_)
            obtain ⟨re9_44, hP1, hK1, hD1⟩ := hB
            rw [ht] at hP1
            obtain ⟨hP, hD⟩ := s3_j (L := [(st, .inr (9, [.ref st_open, .ref st_speed, .ref st_fallen, .ref st_fire, .int st_mark, .int st_moreIn, .int st_more, .ref bk])), (bk_tail, .inl (k_bk_tail, 14, .inl f_bk_tail)), (bk_head, .inl (k_bk_head, 14, .inl f_bk_head)), (st_fallen, .inl (k_st_fallen, 14, .inl f_st_fallen)), (fl, .inr (1, [.int (nI mm), .ref fl_knotOf, .ref fl_smokeAt, .ref fl_reach, .ref fl_route, .ref bk, .ref st, .ref fl_smokeIn])), (bk, .inr (0, [.int (nI bw), .ref bk_tail, .ref bk_head, .ref bk_hinder, .ref bk_size, .ref bk_walk, .ref bk_draught, .ref bk_doorIn, .ref bk_fanIn, .ref bk_faceIn, .int (nI bn), .int bk_day, .ref gr])), (bk_walk, .inl (k_bk_walk, 14, .inl f_bk_walk)), (fl_smokeAt, .inl (k_fl_smokeAt, 14, .inl f_fl_smokeAt)), (fl_reach, .inl (k_fl_reach, 10, .inl re9_44))]) 4 hP hD [4, 5, 6, 7, 8] [0, 1, 2, 3] hk1 hFc hP1 hD1 rfl rfl rfl (by decide) (by decide)
            generalize H1 = H at hP hS ⊢
            rcases hw_43 with rfl | rfl
            · skip
              refine lv_if_eq (tgt := 125) hx hb dX1_walkFrom_120 (by decide) (fun c_45 => ?_) (fun c_45 => ?_)
              · skip
                refine lv_iinc (v := (nI (i2 + 1))) (lv' := [(4, .int (nI (i2 + 1))), (2, .int 1), (0, .ref fl), (3, .int (nI i1))]) hx hb dX1_walkFrom_125 hl (k := 3) rfl (nI_add _ 1) (by decide) rfl (fun ls hl => ?_)
                refine lv_goto (tgt := 35) hx hb dX1_walkFrom_128 (by decide) ?_
                exact ih_13 1 (i2 + 1) re9_44 _ _ _ ⟨(by first | with_reducible assumption | omega | exact vp_in_iff.mpr (by omega) | exact vp_in_nI (by omega) (by omega) | exact ⟨by omega, by omega⟩), hP.sub [4, 0, 5, 6, 7, 1, 2, 3, 8] rfl, hD.sub [4, 0, 5, 6, 7, 1, 2, 3, 8] (by decide) rfl, hS, lv_sub hl [2, 1, 3, 0] rfl⟩ (by omega)
              · exact absurd c_45 (by decide)
            · skip
              refine lv_if_eq (tgt := 125) hx hb dX1_walkFrom_120 (by decide) (fun c_46 => ?_) (fun c_46 => ?_)
              · exact absurd c_46 (by decide)
              refine lv_iconst (v := 1) hx hb dX1_walkFrom_123 (by decide) ?_
              refine lv_istore_n (lv' := [(2, .int 1), (0, .ref fl), (3, .int (nI i1)), (4, .int (nI i2))]) hx hb dX1_walkFrom_124 rfl hl (by decide) rfl (fun ls hl => ?_)
              refine lv_iinc (v := (nI (i2 + 1))) (lv' := [(4, .int (nI (i2 + 1))), (2, .int 1), (0, .ref fl), (3, .int (nI i1))]) hx hb dX1_walkFrom_125 hl (k := 3) rfl (nI_add _ 1) (by decide) rfl (fun ls hl => ?_)
              refine lv_goto (tgt := 35) hx hb dX1_walkFrom_128 (by decide) ?_
              exact ih_13 1 (i2 + 1) re9_44 _ _ _ ⟨(by first | with_reducible assumption | omega | exact vp_in_iff.mpr (by omega) | exact vp_in_nI (by omega) (by omega) | exact ⟨by omega, by omega⟩), hP.sub [4, 0, 5, 6, 7, 1, 2, 3, 8] rfl, hD.sub [4, 0, 5, 6, 7, 1, 2, 3, 8] (by decide) rfl, hS, lv_sub hl [2, 1, 3, 0] rfl⟩ (by omega)
        · skip
          have g_47 : v_17.toInt ≠ (0 : Int) := i_ne c_18
          refine lv_goto (tgt := 125) hx hb dX1_walkFrom_60 (by decide) ?_
          refine lv_iinc (v := (nI (i2 + 1))) (lv' := [(4, .int (nI (i2 + 1))), (0, .ref fl), (2, .int go2), (3, .int (nI i1))]) hx hb dX1_walkFrom_125 hl (k := 3) rfl (nI_add _ 1) (by decide) rfl (fun ls hl => ?_)
          refine lv_goto (tgt := 35) hx hb dX1_walkFrom_128 (by decide) ?_
          exact ih_13 go2 (i2 + 1) re2 _ _ _ ⟨(by first | with_reducible assumption | omega | exact vp_in_iff.mpr (by omega) | exact vp_in_nI (by omega) (by omega) | exact ⟨by omega, by omega⟩), hP.sub [0, 1, 2, 3, 4, 5, 6, 7, 8] rfl, hD.sub [0, 1, 2, 3, 4, 5, 6, 7, 8] (by decide) rfl, hS, lv_sub hl [1, 2, 3, 0] rfl⟩ (by omega)
set_option maxHeartbeats 4000000 in
set_option maxRecDepth 100000 in
theorem c1_isEarly (l : Launch) (dC : Nat → ClassId) (dI : Nat → Nat → Nat) (n0 : Nat) (atx : Nat → Nat × Nat) (sz : Nat) (fl : Nat) (mm : Nat) (fl_knotOf : Nat) (fl_smokeAt : Nat) (fl_reach : Nat) (fl_route : Nat) (bk : Nat) (st : Nat) (fl_smokeIn : Nat) (bw : Nat) (bk_tail : Nat) (bk_head : Nat) (bk_hinder : Nat) (bk_size : Nat) (bk_walk : Nat) (bk_draught : Nat) (bk_doorIn : Nat) (bk_fanIn : Nat) (bk_faceIn : Nat) (bn : Nat) (bk_day : Int32) (gr : Nat) (k_bk_walk : ClassId) (f_bk_walk : Nat → Int32) (k_fl_reach : ClassId) (f_fl_reach : Nat → Int32) (w : Int32) (fr : Int32) (tt0 : Int32) (hbw : bw ≤ 14) (hbn : bn ≤ 10) (q_day : -1 ≤ bk_day.toInt ∧ bk_day.toInt < 10) (hw : vp_in w 14) (h_fr : 0 ≤ fr.toInt ∧ fr.toInt < 10) (h_tt0 : 0 ≤ tt0.toInt ∧ tt0.toInt < 10) : Met l yX1_isEarly (wM yX1_isEarly cX1_isEarly 4 (some .boolean)) ({ frames := 0, cells := 0, slots := 0, locals := 0 }) (va_Pc [.ref fl, .int w, .int fr, .int tt0] (fun U => U.heap.size = sz ∧ n0 ≤ sz ∧ GW n0 atx U ∧ va_P (dC, dI) classes [(fl, .inr (1, [.int (nI mm), .ref fl_knotOf, .ref fl_smokeAt, .ref fl_reach, .ref fl_route, .ref bk, .ref st, .ref fl_smokeIn])), (bk, .inr (0, [.int (nI bw), .ref bk_tail, .ref bk_head, .ref bk_hinder, .ref bk_size, .ref bk_walk, .ref bk_draught, .ref bk_doorIn, .ref bk_fanIn, .ref bk_faceIn, .int (nI bn), .int bk_day, .ref gr])), (bk_walk, .inl (k_bk_walk, 14, .inl f_bk_walk)), (fl_reach, .inl (k_fl_reach, 10, .inl f_fl_reach))] U.heap ∧ va_K (dC, dI) classes [(k_bk_walk, .int), (k_fl_reach, .int)] U ∧ va_D (fun q => n0 ≤ q) [(fl, .inr (1, [.int (nI mm), .ref fl_knotOf, .ref fl_smokeAt, .ref fl_reach, .ref fl_route, .ref bk, .ref st, .ref fl_smokeIn])), (bk, .inr (0, [.int (nI bw), .ref bk_tail, .ref bk_head, .ref bk_hinder, .ref bk_size, .ref bk_walk, .ref bk_draught, .ref bk_doorIn, .ref bk_fanIn, .ref bk_faceIn, .int (nI bn), .int bk_day, .ref gr])), (bk_walk, .inl (k_bk_walk, 14, .inl f_bk_walk)), (fl_reach, .inl (k_fl_reach, 10, .inl f_fl_reach))])) (va_Qi (fun (r : Int32) (_ : Unit) => r = 0 ∨ r = 1) (fun (_ : Unit) (t : State) => va_P (dC, dI) classes [(fl, .inr (1, [.int (nI mm), .ref fl_knotOf, .ref fl_smokeAt, .ref fl_reach, .ref fl_route, .ref bk, .ref st, .ref fl_smokeIn])), (bk, .inr (0, [.int (nI bw), .ref bk_tail, .ref bk_head, .ref bk_hinder, .ref bk_size, .ref bk_walk, .ref bk_draught, .ref bk_doorIn, .ref bk_fanIn, .ref bk_faceIn, .int (nI bn), .int bk_day, .ref gr])), (bk_walk, .inl (k_bk_walk, 14, .inl f_bk_walk)), (fl_reach, .inl (k_fl_reach, 10, .inl f_fl_reach))] t.heap ∧ va_K (dC, dI) classes [(k_bk_walk, .int), (k_fl_reach, .int)] t ∧ va_D (va_A [(fl, .inr (1, [.int (nI mm), .ref fl_knotOf, .ref fl_smokeAt, .ref fl_reach, .ref fl_route, .ref bk, .ref st, .ref fl_smokeIn])), (bk, .inr (0, [.int (nI bw), .ref bk_tail, .ref bk_head, .ref bk_hinder, .ref bk_size, .ref bk_walk, .ref bk_draught, .ref bk_doorIn, .ref bk_fanIn, .ref bk_faceIn, .int (nI bn), .int bk_day, .ref gr])), (bk_walk, .inl (k_bk_walk, 14, .inl f_bk_walk)), (fl_reach, .inl (k_fl_reach, 10, .inl f_fl_reach))] sz) [(fl, .inr (1, [.int (nI mm), .ref fl_knotOf, .ref fl_smokeAt, .ref fl_reach, .ref fl_route, .ref bk, .ref st, .ref fl_smokeIn])), (bk, .inr (0, [.int (nI bw), .ref bk_tail, .ref bk_head, .ref bk_hinder, .ref bk_size, .ref bk_walk, .ref bk_draught, .ref bk_doorIn, .ref bk_fanIn, .ref bk_faceIn, .int (nI bn), .int bk_day, .ref gr])), (bk_walk, .inl (k_bk_walk, 14, .inl f_bk_walk)), (fl_reach, .inl (k_fl_reach, 10, .inl f_fl_reach))]) (va_A [(fl, .inr (1, [.int (nI mm), .ref fl_knotOf, .ref fl_smokeAt, .ref fl_reach, .ref fl_route, .ref bk, .ref st, .ref fl_smokeIn])), (bk, .inr (0, [.int (nI bw), .ref bk_tail, .ref bk_head, .ref bk_hinder, .ref bk_size, .ref bk_walk, .ref bk_draught, .ref bk_doorIn, .ref bk_fanIn, .ref bk_faceIn, .int (nI bn), .int bk_day, .ref gr])), (bk_walk, .inl (k_bk_walk, 14, .inl f_bk_walk)), (fl_reach, .inl (k_fl_reach, 10, .inl f_fl_reach))] sz)) 0 0 (va_A [(fl, .inr (1, [.int (nI mm), .ref fl_knotOf, .ref fl_smokeAt, .ref fl_reach, .ref fl_route, .ref bk, .ref st, .ref fl_smokeIn])), (bk, .inr (0, [.int (nI bw), .ref bk_tail, .ref bk_head, .ref bk_hinder, .ref bk_size, .ref bk_walk, .ref bk_draught, .ref bk_doorIn, .ref bk_fanIn, .ref bk_faceIn, .int (nI bn), .int bk_day, .ref gr])), (bk_walk, .inl (k_bk_walk, 14, .inl f_bk_walk)), (fl_reach, .inl (k_fl_reach, 10, .inl f_fl_reach))] sz) := by
  refine Met.ofW (cc := cX1_isEarly) (maxL := 4) (ret := (some .boolean)) (by decide) rfl ?_
  intro p e s m args below meth c s₁ B hml hv
  obtain ⟨rfl, hsz, hn0, hG, hP, hK, hD0⟩ := hv
  have hx := B.exec
  have hb := B.bytes
  have hr := B.returns
  have hts := atoms_spec (ws := wM yX1_isEarly cX1_isEarly 4 (some .boolean)) B.pre
  have hown : s.vm.findClass RX1 = some m.cls := findClass_of_methodNamed B.named
  have hlocks := B.notSynchronized
  subst hsz
  have hD := hD0.self (sz := s.heap.size)
  have hA0 := vA_n0 hD0 hn0
  generalize hAe : va_A [(fl, .inr (1, [.int (nI mm), .ref fl_knotOf, .ref fl_smokeAt, .ref fl_reach, .ref fl_route, .ref bk, .ref st, .ref fl_smokeIn])), (bk, .inr (0, [.int (nI bw), .ref bk_tail, .ref bk_head, .ref bk_hinder, .ref bk_size, .ref bk_walk, .ref bk_draught, .ref bk_doorIn, .ref bk_fanIn, .ref bk_faceIn, .int (nI bn), .int bk_day, .ref gr])), (bk_walk, .inl (k_bk_walk, 14, .inl f_bk_walk)), (fl_reach, .inl (k_fl_reach, 10, .inl f_fl_reach))] s.heap.size = A at hD hA0 ⊢
  have hA : ∀ q : Nat, s.heap.size ≤ q → A q := fun q h => by rw [← hAe]; exact Or.inr h
  have hS : va_S A s.heap s.heap [] := va_S.rf
  have hl := lv_entry ([.ref fl, .int w, .int fr, .int tt0]) (n := 4) (Nat.le_of_ble_eq_true rfl)
  rw [lg_entry_eq]
  generalize (lg_sl ([.ref fl, .int w, .int fr, .int tt0]) ++ List.replicate (4 - (lg_sl ([.ref fl, .int w, .int fr, .int tt0])).length) Slot.unset).toArray = ls at hl ⊢
  have hl : lv_has ls 4 [(0, .ref fl), (1, .int w), (2, .int fr), (3, .int tt0)] := hl
  refine lv_aload_n hx hb dX1_isEarly_0 rfl (lv_at hl 0 rfl) ?_
  refine va_get (D := (dC, dI)) (ci := 1) (v := .ref fl_reach) (C := RX1) (T := TX1) (N := 8) hx hb hts (fun w h => wM_c (iX1 w h)) hown hK hP 0 rfl rfl 3 (by decide) (hts _ (wM_c wd_619)) (fun _ h9 => h9) rfl dX1_isEarly_1 ?_
  refine lv_iload_n hx hb dX1_isEarly_4 rfl (lv_at hl 2 rfl) ?_
  refine va_iald hx hb hK hP 3 1 rfl rfl (by first | with_reducible assumption | exact vp_in_iff.mpr (by omega)) dX1_isEarly_5 ?_
  refine lv_topi (fun v_1 ev_1 => ?_)
  refine lv_ldc hx hb hown (hts _ (wM_c wd_1223)) dX1_isEarly_6 ?_
  refine lv_icmp_eq (tgt := 40) hx hb dX1_isEarly_8 (by decide) (fun c_2 => ?_) (fun c_2 => ?_)
  · skip
    have g_3 : v_1.toInt = (2147483647 : Int) := i_eq c_2
    refine lv_iconst (v := 0) hx hb dX1_isEarly_40 (by decide) ?_
    have hK9 := hK.sub (tys' := [(k_bk_walk, .int), (k_fl_reach, .int)]) [0, 1] rfl
    exact W.zret (v := 0) hx hb hr rfl (fun t ht hW => ⟨⟨0, (), rfl, (Or.inl rfl), by rw [ht]; exact hP.sub [0, 1, 2, 3] rfl, va_K.moved hW.alike hK9, hD.sub [0, 1, 2, 3] (by decide) rfl⟩, hS.F ht⟩) hS.2.2 dX1_isEarly_41
  · skip
    have g_4 : v_1.toInt ≠ (2147483647 : Int) := i_ne c_2
    refine lv_aload_n hx hb dX1_isEarly_11 rfl (lv_at hl 0 rfl) ?_
    refine va_get (D := (dC, dI)) (ci := 1) (v := .ref fl_reach) (C := RX1) (T := TX1) (N := 8) hx hb hts (fun w h => wM_c (iX1 w h)) hown hK hP 0 rfl rfl 3 (by decide) (hts _ (wM_c wd_619)) (fun _ h9 => h9) rfl dX1_isEarly_12 ?_
    refine lv_iload_n hx hb dX1_isEarly_15 rfl (lv_at hl 2 rfl) ?_
    refine va_iald hx hb hK hP 3 1 rfl rfl (by first | with_reducible assumption | exact vp_in_iff.mpr (by omega)) dX1_isEarly_16 ?_
    refine lv_topi (fun v_5 ev_5 => ?_)
    refine lv_aload_n hx hb dX1_isEarly_17 rfl (lv_at hl 0 rfl) ?_
    refine va_get (D := (dC, dI)) (ci := 1) (v := .ref bk) (C := RX1) (T := TX1) (N := 8) hx hb hts (fun w h => wM_c (iX1 w h)) hown hK hP 0 rfl rfl 5 (by decide) (hts _ (wM_c wd_623)) (fun _ h9 => h9) rfl dX1_isEarly_18 ?_
    refine va_get (D := (dC, dI)) (ci := 0) (v := .ref bk_walk) (C := RX0) (T := TX0) (N := 13) hx hb hts (fun w h => wM_c (iX0 w h)) hown hK hP 1 rfl rfl 5 (by decide) (hts _ (wM_c wd_265)) (fun _ h9 => h9) rfl dX1_isEarly_21 ?_
    refine lv_iload_n hx hb dX1_isEarly_24 rfl (lv_at hl 1 rfl) ?_
    refine va_iald hx hb hK hP 2 0 rfl rfl (by first | with_reducible assumption | exact vp_in_iff.mpr (by omega)) dX1_isEarly_25 ?_
    refine lv_topi (fun v_6 ev_6 => ?_)
    refine lv_iadd hx hb dX1_isEarly_26 ?_
    refine lv_topi (fun v_7 ev_7 => ?_)
    refine lv_aload_n hx hb dX1_isEarly_27 rfl (lv_at hl 0 rfl) ?_
    refine va_get (D := (dC, dI)) (ci := 1) (v := .ref fl_reach) (C := RX1) (T := TX1) (N := 8) hx hb hts (fun w h => wM_c (iX1 w h)) hown hK hP 0 rfl rfl 3 (by decide) (hts _ (wM_c wd_619)) (fun _ h9 => h9) rfl dX1_isEarly_28 ?_
    refine lv_iload_n hx hb dX1_isEarly_31 rfl (lv_at hl 3 rfl) ?_
    refine va_iald hx hb hK hP 3 1 rfl rfl (by first | with_reducible assumption | exact vp_in_iff.mpr (by omega)) dX1_isEarly_32 ?_
    refine lv_topi (fun v_8 ev_8 => ?_)
    refine lv_icmp_gt (tgt := 40) hx hb dX1_isEarly_33 (by decide) (fun c_9 => ?_) (fun c_9 => ?_)
    · skip
      have g_10 : v_8.toInt < v_7.toInt := i_lt c_9
      refine lv_iconst (v := 0) hx hb dX1_isEarly_40 (by decide) ?_
      have hK9 := hK.sub (tys' := [(k_bk_walk, .int), (k_fl_reach, .int)]) [0, 1] rfl
      exact W.zret (v := 0) hx hb hr rfl (fun t ht hW => ⟨⟨0, (), rfl, (Or.inl rfl), by rw [ht]; exact hP.sub [0, 1, 2, 3] rfl, va_K.moved hW.alike hK9, hD.sub [0, 1, 2, 3] (by decide) rfl⟩, hS.F ht⟩) hS.2.2 dX1_isEarly_41
    · skip
      have g_11 : v_7.toInt ≤ v_8.toInt := i_nlt c_9
      refine lv_iconst (v := 1) hx hb dX1_isEarly_36 (by decide) ?_
      refine lv_goto (tgt := 41) hx hb dX1_isEarly_37 (by decide) ?_
      have hK9 := hK.sub (tys' := [(k_bk_walk, .int), (k_fl_reach, .int)]) [0, 1] rfl
      exact W.zret (v := 1) hx hb hr rfl (fun t ht hW => ⟨⟨1, (), rfl, (Or.inr rfl), by rw [ht]; exact hP.sub [0, 1, 2, 3] rfl, va_K.moved hW.alike hK9, hD.sub [0, 1, 2, 3] (by decide) rfl⟩, hS.F ht⟩) hS.2.2 dX1_isEarly_41
set_option maxHeartbeats 4000000 in
set_option maxRecDepth 100000 in
theorem c1_knotBefore (l : Launch) (dC : Nat → ClassId) (dI : Nat → Nat → Nat) (n0 : Nat) (atx : Nat → Nat × Nat) (sz : Nat) (fl : Nat) (mm : Nat) (fl_knotOf : Nat) (fl_smokeAt : Nat) (fl_reach : Nat) (fl_route : Nat) (bk : Nat) (st : Nat) (fl_smokeIn : Nat) (st_open : Nat) (st_speed : Nat) (st_fallen : Nat) (st_fire : Nat) (st_mark : Int32) (st_moreIn : Int32) (st_more : Int32) (bw : Nat) (bk_tail : Nat) (bk_head : Nat) (bk_hinder : Nat) (bk_size : Nat) (bk_walk : Nat) (bk_draught : Nat) (bk_doorIn : Nat) (bk_fanIn : Nat) (bk_faceIn : Nat) (bn : Nat) (bk_day : Int32) (gr : Nat) (k_bk_tail : ClassId) (f_bk_tail : Nat → Int32) (k_bk_head : ClassId) (f_bk_head : Nat → Int32) (k_st_fallen : ClassId) (f_st_fallen : Nat → Int32) (k_bk_walk : ClassId) (f_bk_walk : Nat → Int32) (k_fl_smokeAt : ClassId) (f_fl_smokeAt : Nat → Int32) (k_fl_reach : ClassId) (f_fl_reach : Nat → Int32) (kn : Int32) (hbw : bw ≤ 14) (hbn : bn ≤ 10) (q_day : -1 ≤ bk_day.toInt ∧ bk_day.toInt < 10) (q_tail : rg f_bk_tail 14 0 10) (q_head : rg f_bk_head 14 0 10) (h_kn : 0 ≤ kn.toInt ∧ kn.toInt < 10) : Met l yX1_knotBefore (wM yX1_knotBefore cX1_knotBefore 3 (some .int)) ({ frames := 1, cells := 0, slots := 0, locals := 23 }) (va_Pc [.ref fl, .int kn] (fun U => U.heap.size = sz ∧ n0 ≤ sz ∧ GW n0 atx U ∧ va_P (dC, dI) classes [(fl, .inr (1, [.int (nI mm), .ref fl_knotOf, .ref fl_smokeAt, .ref fl_reach, .ref fl_route, .ref bk, .ref st, .ref fl_smokeIn])), (st, .inr (9, [.ref st_open, .ref st_speed, .ref st_fallen, .ref st_fire, .int st_mark, .int st_moreIn, .int st_more, .ref bk])), (bk, .inr (0, [.int (nI bw), .ref bk_tail, .ref bk_head, .ref bk_hinder, .ref bk_size, .ref bk_walk, .ref bk_draught, .ref bk_doorIn, .ref bk_fanIn, .ref bk_faceIn, .int (nI bn), .int bk_day, .ref gr])), (bk_tail, .inl (k_bk_tail, 14, .inl f_bk_tail)), (bk_head, .inl (k_bk_head, 14, .inl f_bk_head)), (st_fallen, .inl (k_st_fallen, 14, .inl f_st_fallen)), (bk_walk, .inl (k_bk_walk, 14, .inl f_bk_walk)), (fl_smokeAt, .inl (k_fl_smokeAt, 14, .inl f_fl_smokeAt)), (fl_reach, .inl (k_fl_reach, 10, .inl f_fl_reach))] U.heap ∧ va_K (dC, dI) classes [(k_bk_tail, .int), (k_bk_head, .int), (k_st_fallen, .boolean), (k_bk_walk, .int), (k_fl_smokeAt, .int), (k_fl_reach, .int)] U ∧ va_D (fun q => n0 ≤ q) [(fl, .inr (1, [.int (nI mm), .ref fl_knotOf, .ref fl_smokeAt, .ref fl_reach, .ref fl_route, .ref bk, .ref st, .ref fl_smokeIn])), (st, .inr (9, [.ref st_open, .ref st_speed, .ref st_fallen, .ref st_fire, .int st_mark, .int st_moreIn, .int st_more, .ref bk])), (bk, .inr (0, [.int (nI bw), .ref bk_tail, .ref bk_head, .ref bk_hinder, .ref bk_size, .ref bk_walk, .ref bk_draught, .ref bk_doorIn, .ref bk_fanIn, .ref bk_faceIn, .int (nI bn), .int bk_day, .ref gr])), (bk_tail, .inl (k_bk_tail, 14, .inl f_bk_tail)), (bk_head, .inl (k_bk_head, 14, .inl f_bk_head)), (st_fallen, .inl (k_st_fallen, 14, .inl f_st_fallen)), (bk_walk, .inl (k_bk_walk, 14, .inl f_bk_walk)), (fl_smokeAt, .inl (k_fl_smokeAt, 14, .inl f_fl_smokeAt)), (fl_reach, .inl (k_fl_reach, 10, .inl f_fl_reach))])) (va_Qi (fun (r : Int32) (_ : Unit) => -1 ≤ r.toInt ∧ r.toInt < 10) (fun (_ : Unit) (t : State) => va_P (dC, dI) classes [(fl, .inr (1, [.int (nI mm), .ref fl_knotOf, .ref fl_smokeAt, .ref fl_reach, .ref fl_route, .ref bk, .ref st, .ref fl_smokeIn])), (st, .inr (9, [.ref st_open, .ref st_speed, .ref st_fallen, .ref st_fire, .int st_mark, .int st_moreIn, .int st_more, .ref bk])), (bk, .inr (0, [.int (nI bw), .ref bk_tail, .ref bk_head, .ref bk_hinder, .ref bk_size, .ref bk_walk, .ref bk_draught, .ref bk_doorIn, .ref bk_fanIn, .ref bk_faceIn, .int (nI bn), .int bk_day, .ref gr])), (bk_tail, .inl (k_bk_tail, 14, .inl f_bk_tail)), (bk_head, .inl (k_bk_head, 14, .inl f_bk_head)), (st_fallen, .inl (k_st_fallen, 14, .inl f_st_fallen)), (bk_walk, .inl (k_bk_walk, 14, .inl f_bk_walk)), (fl_smokeAt, .inl (k_fl_smokeAt, 14, .inl f_fl_smokeAt)), (fl_reach, .inl (k_fl_reach, 10, .inl f_fl_reach))] t.heap ∧ va_K (dC, dI) classes [(k_bk_tail, .int), (k_bk_head, .int), (k_st_fallen, .boolean), (k_bk_walk, .int), (k_fl_smokeAt, .int), (k_fl_reach, .int)] t ∧ va_D (va_A [(fl, .inr (1, [.int (nI mm), .ref fl_knotOf, .ref fl_smokeAt, .ref fl_reach, .ref fl_route, .ref bk, .ref st, .ref fl_smokeIn])), (st, .inr (9, [.ref st_open, .ref st_speed, .ref st_fallen, .ref st_fire, .int st_mark, .int st_moreIn, .int st_more, .ref bk])), (bk, .inr (0, [.int (nI bw), .ref bk_tail, .ref bk_head, .ref bk_hinder, .ref bk_size, .ref bk_walk, .ref bk_draught, .ref bk_doorIn, .ref bk_fanIn, .ref bk_faceIn, .int (nI bn), .int bk_day, .ref gr])), (bk_tail, .inl (k_bk_tail, 14, .inl f_bk_tail)), (bk_head, .inl (k_bk_head, 14, .inl f_bk_head)), (st_fallen, .inl (k_st_fallen, 14, .inl f_st_fallen)), (bk_walk, .inl (k_bk_walk, 14, .inl f_bk_walk)), (fl_smokeAt, .inl (k_fl_smokeAt, 14, .inl f_fl_smokeAt)), (fl_reach, .inl (k_fl_reach, 10, .inl f_fl_reach))] sz) [(fl, .inr (1, [.int (nI mm), .ref fl_knotOf, .ref fl_smokeAt, .ref fl_reach, .ref fl_route, .ref bk, .ref st, .ref fl_smokeIn])), (st, .inr (9, [.ref st_open, .ref st_speed, .ref st_fallen, .ref st_fire, .int st_mark, .int st_moreIn, .int st_more, .ref bk])), (bk, .inr (0, [.int (nI bw), .ref bk_tail, .ref bk_head, .ref bk_hinder, .ref bk_size, .ref bk_walk, .ref bk_draught, .ref bk_doorIn, .ref bk_fanIn, .ref bk_faceIn, .int (nI bn), .int bk_day, .ref gr])), (bk_tail, .inl (k_bk_tail, 14, .inl f_bk_tail)), (bk_head, .inl (k_bk_head, 14, .inl f_bk_head)), (st_fallen, .inl (k_st_fallen, 14, .inl f_st_fallen)), (bk_walk, .inl (k_bk_walk, 14, .inl f_bk_walk)), (fl_smokeAt, .inl (k_fl_smokeAt, 14, .inl f_fl_smokeAt)), (fl_reach, .inl (k_fl_reach, 10, .inl f_fl_reach))]) (va_A [(fl, .inr (1, [.int (nI mm), .ref fl_knotOf, .ref fl_smokeAt, .ref fl_reach, .ref fl_route, .ref bk, .ref st, .ref fl_smokeIn])), (st, .inr (9, [.ref st_open, .ref st_speed, .ref st_fallen, .ref st_fire, .int st_mark, .int st_moreIn, .int st_more, .ref bk])), (bk, .inr (0, [.int (nI bw), .ref bk_tail, .ref bk_head, .ref bk_hinder, .ref bk_size, .ref bk_walk, .ref bk_draught, .ref bk_doorIn, .ref bk_fanIn, .ref bk_faceIn, .int (nI bn), .int bk_day, .ref gr])), (bk_tail, .inl (k_bk_tail, 14, .inl f_bk_tail)), (bk_head, .inl (k_bk_head, 14, .inl f_bk_head)), (st_fallen, .inl (k_st_fallen, 14, .inl f_st_fallen)), (bk_walk, .inl (k_bk_walk, 14, .inl f_bk_walk)), (fl_smokeAt, .inl (k_fl_smokeAt, 14, .inl f_fl_smokeAt)), (fl_reach, .inl (k_fl_reach, 10, .inl f_fl_reach))] sz)) 0 0 (va_A [(fl, .inr (1, [.int (nI mm), .ref fl_knotOf, .ref fl_smokeAt, .ref fl_reach, .ref fl_route, .ref bk, .ref st, .ref fl_smokeIn])), (st, .inr (9, [.ref st_open, .ref st_speed, .ref st_fallen, .ref st_fire, .int st_mark, .int st_moreIn, .int st_more, .ref bk])), (bk, .inr (0, [.int (nI bw), .ref bk_tail, .ref bk_head, .ref bk_hinder, .ref bk_size, .ref bk_walk, .ref bk_draught, .ref bk_doorIn, .ref bk_fanIn, .ref bk_faceIn, .int (nI bn), .int bk_day, .ref gr])), (bk_tail, .inl (k_bk_tail, 14, .inl f_bk_tail)), (bk_head, .inl (k_bk_head, 14, .inl f_bk_head)), (st_fallen, .inl (k_st_fallen, 14, .inl f_st_fallen)), (bk_walk, .inl (k_bk_walk, 14, .inl f_bk_walk)), (fl_smokeAt, .inl (k_fl_smokeAt, 14, .inl f_fl_smokeAt)), (fl_reach, .inl (k_fl_reach, 10, .inl f_fl_reach))] sz) := by
  refine Met.ofW (cc := cX1_knotBefore) (maxL := 3) (ret := (some .int)) (by decide) rfl ?_
  intro p e s m args below meth c s₁ B hml hv
  obtain ⟨rfl, hsz, hn0, hG, hP, hK, hD0⟩ := hv
  have hx := B.exec
  have hb := B.bytes
  have hr := B.returns
  have hts := atoms_spec (ws := wM yX1_knotBefore cX1_knotBefore 3 (some .int)) B.pre
  have hown : s.vm.findClass RX1 = some m.cls := findClass_of_methodNamed B.named
  have hlocks := B.notSynchronized
  subst hsz
  have hD := hD0.self (sz := s.heap.size)
  have hA0 := vA_n0 hD0 hn0
  generalize hAe : va_A [(fl, .inr (1, [.int (nI mm), .ref fl_knotOf, .ref fl_smokeAt, .ref fl_reach, .ref fl_route, .ref bk, .ref st, .ref fl_smokeIn])), (st, .inr (9, [.ref st_open, .ref st_speed, .ref st_fallen, .ref st_fire, .int st_mark, .int st_moreIn, .int st_more, .ref bk])), (bk, .inr (0, [.int (nI bw), .ref bk_tail, .ref bk_head, .ref bk_hinder, .ref bk_size, .ref bk_walk, .ref bk_draught, .ref bk_doorIn, .ref bk_fanIn, .ref bk_faceIn, .int (nI bn), .int bk_day, .ref gr])), (bk_tail, .inl (k_bk_tail, 14, .inl f_bk_tail)), (bk_head, .inl (k_bk_head, 14, .inl f_bk_head)), (st_fallen, .inl (k_st_fallen, 14, .inl f_st_fallen)), (bk_walk, .inl (k_bk_walk, 14, .inl f_bk_walk)), (fl_smokeAt, .inl (k_fl_smokeAt, 14, .inl f_fl_smokeAt)), (fl_reach, .inl (k_fl_reach, 10, .inl f_fl_reach))] s.heap.size = A at hD hA0 ⊢
  have hA : ∀ q : Nat, s.heap.size ≤ q → A q := fun q h => by rw [← hAe]; exact Or.inr h
  have hS : va_S A s.heap s.heap [] := va_S.rf
  have hl := lv_entry ([.ref fl, .int kn]) (n := 3) (Nat.le_of_ble_eq_true rfl)
  rw [lg_entry_eq]
  generalize (lg_sl ([.ref fl, .int kn]) ++ List.replicate (3 - (lg_sl ([.ref fl, .int kn])).length) Slot.unset).toArray = ls at hl ⊢
  have hl : lv_has ls 3 [(0, .ref fl), (1, .int kn)] := hl
  refine lv_iconst (v := 0) hx hb dX1_knotBefore_0 (by decide) ?_
  refine lv_istore_n (lv' := [(2, .int 0), (0, .ref fl), (1, .int kn)]) hx hb dX1_knotBefore_1 rfl hl (by decide) rfl (fun ls hl => ?_)
  refine W_lp1 (I := fun (i : Nat) H locs ls => (i ≤ bw) ∧ va_P (dC, dI) classes [(fl, .inr (1, [.int (nI mm), .ref fl_knotOf, .ref fl_smokeAt, .ref fl_reach, .ref fl_route, .ref bk, .ref st, .ref fl_smokeIn])), (st, .inr (9, [.ref st_open, .ref st_speed, .ref st_fallen, .ref st_fire, .int st_mark, .int st_moreIn, .int st_more, .ref bk])), (bk, .inr (0, [.int (nI bw), .ref bk_tail, .ref bk_head, .ref bk_hinder, .ref bk_size, .ref bk_walk, .ref bk_draught, .ref bk_doorIn, .ref bk_fanIn, .ref bk_faceIn, .int (nI bn), .int bk_day, .ref gr])), (bk_tail, .inl (k_bk_tail, 14, .inl f_bk_tail)), (bk_head, .inl (k_bk_head, 14, .inl f_bk_head)), (st_fallen, .inl (k_st_fallen, 14, .inl f_st_fallen)), (bk_walk, .inl (k_bk_walk, 14, .inl f_bk_walk)), (fl_smokeAt, .inl (k_fl_smokeAt, 14, .inl f_fl_smokeAt)), (fl_reach, .inl (k_fl_reach, 10, .inl f_fl_reach))] H ∧ va_D A [(fl, .inr (1, [.int (nI mm), .ref fl_knotOf, .ref fl_smokeAt, .ref fl_reach, .ref fl_route, .ref bk, .ref st, .ref fl_smokeIn])), (st, .inr (9, [.ref st_open, .ref st_speed, .ref st_fallen, .ref st_fire, .int st_mark, .int st_moreIn, .int st_more, .ref bk])), (bk, .inr (0, [.int (nI bw), .ref bk_tail, .ref bk_head, .ref bk_hinder, .ref bk_size, .ref bk_walk, .ref bk_draught, .ref bk_doorIn, .ref bk_fanIn, .ref bk_faceIn, .int (nI bn), .int bk_day, .ref gr])), (bk_tail, .inl (k_bk_tail, 14, .inl f_bk_tail)), (bk_head, .inl (k_bk_head, 14, .inl f_bk_head)), (st_fallen, .inl (k_st_fallen, 14, .inl f_st_fallen)), (bk_walk, .inl (k_bk_walk, 14, .inl f_bk_walk)), (fl_smokeAt, .inl (k_fl_smokeAt, 14, .inl f_fl_smokeAt)), (fl_reach, .inl (k_fl_reach, 10, .inl f_fl_reach))] ∧ va_S A s.heap H locs ∧ lv_has ls 3 [(0, .ref fl), (1, .int kn), (2, .int (nI i))]) (μ := fun (i : Nat) => bw - i) ?_ 0 _ _ _ ⟨(by first | with_reducible assumption | omega | exact vp_in_iff.mpr (by omega) | exact vp_in_nI (by omega) (by omega) | exact ⟨by omega, by omega⟩), hP, hD, hS, lv_sub hl [1, 2, 0] rfl⟩
  intro i H locs ls hI ih_1
  obtain ⟨hi, hP, hD, hS, hl⟩ := hI
  refine lv_iload_n hx hb dX1_knotBefore_2 rfl (lv_at hl 2 rfl) ?_
  refine lv_aload_n hx hb dX1_knotBefore_3 rfl (lv_at hl 0 rfl) ?_
  refine va_get (D := (dC, dI)) (ci := 1) (v := .ref bk) (C := RX1) (T := TX1) (N := 8) hx hb hts (fun w h => wM_c (iX1 w h)) hown hK hP 0 rfl rfl 5 (by decide) (hts _ (wM_c wd_623)) (fun _ h9 => h9) rfl dX1_knotBefore_4 ?_
  refine va_get (D := (dC, dI)) (ci := 0) (v := .int (nI bw)) (C := RX0) (T := TX0) (N := 13) hx hb hts (fun w h => wM_c (iX0 w h)) hown hK hP 2 rfl rfl 0 (by decide) (hts _ (wM_c wd_239)) (fun _ h9 => h9) rfl dX1_knotBefore_7 ?_
  refine lv_icmp_ge (tgt := 131) hx hb dX1_knotBefore_10 (by decide) (fun c_2 => ?_) (fun c_2 => ?_)
  · skip
    have g_3 := n_ge (a := i) (b := bw) c_2 (by omega) (by omega)
    refine lv_iconst (v := (-1)) hx hb dX1_knotBefore_131 (by decide) ?_
    have hK9 := hK.sub (tys' := [(k_bk_tail, .int), (k_bk_head, .int), (k_st_fallen, .boolean), (k_bk_walk, .int), (k_fl_smokeAt, .int), (k_fl_reach, .int)]) [0, 1, 2, 3, 4, 5] rfl
    exact W.iret (v := (-1)) hx hb hr (fun t ht hW => ⟨⟨(-1), (), rfl, (by decide), by rw [ht]; exact hP.sub [0, 1, 2, 3, 4, 5, 6, 7, 8] rfl, va_K.moved hW.alike hK9, hD.sub [0, 1, 2, 3, 4, 5, 6, 7, 8] (by decide) rfl⟩, hS.F ht⟩) hS.2.2 dX1_knotBefore_132
  · skip
    have g_4 := n_nge (a := i) (b := bw) c_2 (by omega) (by omega)
    refine lv_aload_n hx hb dX1_knotBefore_13 rfl (lv_at hl 0 rfl) ?_
    refine va_get (D := (dC, dI)) (ci := 1) (v := .ref st) (C := RX1) (T := TX1) (N := 8) hx hb hts (fun w h => wM_c (iX1 w h)) hown hK hP 0 rfl rfl 6 (by decide) (hts _ (wM_c wd_624)) (fun _ h9 => h9) rfl dX1_knotBefore_14 ?_
    refine va_get (D := (dC, dI)) (ci := 9) (v := .ref st_fallen) (C := RX9) (T := TX9) (N := 8) hx hb hts (fun w h => wM_c (iX9 w h)) hown hK hP 1 rfl rfl 2 (by decide) (hts _ (wM_c wd_398)) (fun _ h9 => h9) rfl dX1_knotBefore_17 ?_
    refine lv_iload_n hx hb dX1_knotBefore_20 rfl (lv_at hl 2 rfl) ?_
    refine va_zald hx hb hK hP 5 2 rfl rfl (vp_in_nI (n := i) (by omega) (by omega)) dX1_knotBefore_21 ?_
    refine lv_topi (fun v_5 ev_5 => ?_)
    have nv_5 : v_5 = f_st_fallen i := by rw [ev_5]; exact congrArg _ (nI_clamp (by omega))
    refine lv_if_ne (tgt := 125) hx hb dX1_knotBefore_22 (by decide) (fun c_6 => ?_) (fun c_6 => ?_)
    · skip
      have g_7 : v_5.toInt ≠ (0 : Int) := i_ne c_6
      refine lv_iinc (v := (nI (i + 1))) (lv' := [(2, .int (nI (i + 1))), (0, .ref fl), (1, .int kn)]) hx hb dX1_knotBefore_125 hl (k := 2) rfl (nI_add _ 1) (by decide) rfl (fun ls hl => ?_)
      refine lv_goto (tgt := 2) hx hb dX1_knotBefore_128 (by decide) ?_
      exact ih_1 (i + 1) _ _ _ ⟨(by first | with_reducible assumption | omega | exact vp_in_iff.mpr (by omega) | exact vp_in_nI (by omega) (by omega) | exact ⟨by omega, by omega⟩), hP.sub [0, 1, 2, 3, 4, 5, 6, 7, 8] rfl, hD.sub [0, 1, 2, 3, 4, 5, 6, 7, 8] (by decide) rfl, hS, lv_sub hl [1, 2, 0] rfl⟩ (by omega)
    · skip
      have g_8 : v_5.toInt = (0 : Int) := i_eq c_6
      refine lv_aload_n hx hb dX1_knotBefore_25 rfl (lv_at hl 0 rfl) ?_
      refine va_get (D := (dC, dI)) (ci := 1) (v := .ref fl_smokeAt) (C := RX1) (T := TX1) (N := 8) hx hb hts (fun w h => wM_c (iX1 w h)) hown hK hP 0 rfl rfl 2 (by decide) (hts _ (wM_c wd_617)) (fun _ h9 => h9) rfl dX1_knotBefore_26 ?_
      refine lv_iload_n hx hb dX1_knotBefore_29 rfl (lv_at hl 2 rfl) ?_
      refine va_iald hx hb hK hP 7 4 rfl rfl (vp_in_nI (n := i) (by omega) (by omega)) dX1_knotBefore_30 ?_
      refine lv_topi (fun v_9 ev_9 => ?_)
      have nv_9 : v_9 = f_fl_smokeAt i := by rw [ev_9]; exact congrArg _ (nI_clamp (by omega))
      refine lv_aload_n hx hb dX1_knotBefore_31 rfl (lv_at hl 0 rfl) ?_
      refine va_get (D := (dC, dI)) (ci := 1) (v := .ref fl_reach) (C := RX1) (T := TX1) (N := 8) hx hb hts (fun w h => wM_c (iX1 w h)) hown hK hP 0 rfl rfl 3 (by decide) (hts _ (wM_c wd_619)) (fun _ h9 => h9) rfl dX1_knotBefore_32 ?_
      refine lv_iload_n hx hb dX1_knotBefore_35 rfl (lv_at hl 1 rfl) ?_
      refine va_iald hx hb hK hP 8 5 rfl rfl (by first | with_reducible assumption | exact vp_in_iff.mpr (by omega)) dX1_knotBefore_36 ?_
      refine lv_topi (fun v_10 ev_10 => ?_)
      refine lv_icmp_gt (tgt := 43) hx hb dX1_knotBefore_37 (by decide) (fun c_11 => ?_) (fun c_11 => ?_)
      · skip
        have g_12 : v_10.toInt < v_9.toInt := i_lt c_11
        refine lv_aload_n hx hb dX1_knotBefore_43 rfl (lv_at hl 0 rfl) ?_
        refine va_get (D := (dC, dI)) (ci := 1) (v := .ref bk) (C := RX1) (T := TX1) (N := 8) hx hb hts (fun w h => wM_c (iX1 w h)) hown hK hP 0 rfl rfl 5 (by decide) (hts _ (wM_c wd_623)) (fun _ h9 => h9) rfl dX1_knotBefore_44 ?_
        refine va_get (D := (dC, dI)) (ci := 0) (v := .ref bk_head) (C := RX0) (T := TX0) (N := 13) hx hb hts (fun w h => wM_c (iX0 w h)) hown hK hP 2 rfl rfl 2 (by decide) (hts _ (wM_c wd_253)) (fun _ h9 => h9) rfl dX1_knotBefore_47 ?_
        refine lv_iload_n hx hb dX1_knotBefore_50 rfl (lv_at hl 2 rfl) ?_
        refine va_iald hx hb hK hP 4 1 rfl rfl (vp_in_nI (n := i) (by omega) (by omega)) dX1_knotBefore_51 ?_
        refine lv_topi (fun v_13 ev_13 => ?_)
        have nv_13 : v_13 = f_bk_head i := by rw [ev_13]; exact congrArg _ (nI_clamp (by omega))
        have g_14 : 0 ≤ v_13.toInt ∧ v_13.toInt < 10 := by rw [ev_13]; exact rg_in q_head (by omega) (by omega)
        refine lv_iload_n hx hb dX1_knotBefore_52 rfl (lv_at hl 1 rfl) ?_
        refine lv_icmp_ne (tgt := 84) hx hb dX1_knotBefore_53 (by decide) (fun c_15 => ?_) (fun c_15 => ?_)
        · skip
          have g_16 : v_13.toInt ≠ kn.toInt := i_ne c_15
          refine lv_aload_n hx hb dX1_knotBefore_84 rfl (lv_at hl 0 rfl) ?_
          refine va_get (D := (dC, dI)) (ci := 1) (v := .ref bk) (C := RX1) (T := TX1) (N := 8) hx hb hts (fun w h => wM_c (iX1 w h)) hown hK hP 0 rfl rfl 5 (by decide) (hts _ (wM_c wd_623)) (fun _ h9 => h9) rfl dX1_knotBefore_85 ?_
          refine va_get (D := (dC, dI)) (ci := 0) (v := .ref bk_tail) (C := RX0) (T := TX0) (N := 13) hx hb hts (fun w h => wM_c (iX0 w h)) hown hK hP 2 rfl rfl 1 (by decide) (hts _ (wM_c wd_248)) (fun _ h9 => h9) rfl dX1_knotBefore_88 ?_
          refine lv_iload_n hx hb dX1_knotBefore_91 rfl (lv_at hl 2 rfl) ?_
          refine va_iald hx hb hK hP 3 0 rfl rfl (vp_in_nI (n := i) (by omega) (by omega)) dX1_knotBefore_92 ?_
          refine lv_topi (fun v_17 ev_17 => ?_)
          have nv_17 : v_17 = f_bk_tail i := by rw [ev_17]; exact congrArg _ (nI_clamp (by omega))
          have g_18 : 0 ≤ v_17.toInt ∧ v_17.toInt < 10 := by rw [ev_17]; exact rg_in q_tail (by omega) (by omega)
          refine lv_iload_n hx hb dX1_knotBefore_93 rfl (lv_at hl 1 rfl) ?_
          refine lv_icmp_ne (tgt := 125) hx hb dX1_knotBefore_94 (by decide) (fun c_19 => ?_) (fun c_19 => ?_)
          · skip
            have g_20 : v_17.toInt ≠ kn.toInt := i_ne c_19
            refine lv_iinc (v := (nI (i + 1))) (lv' := [(2, .int (nI (i + 1))), (0, .ref fl), (1, .int kn)]) hx hb dX1_knotBefore_125 hl (k := 2) rfl (nI_add _ 1) (by decide) rfl (fun ls hl => ?_)
            refine lv_goto (tgt := 2) hx hb dX1_knotBefore_128 (by decide) ?_
            exact ih_1 (i + 1) _ _ _ ⟨(by first | with_reducible assumption | omega | exact vp_in_iff.mpr (by omega) | exact vp_in_nI (by omega) (by omega) | exact ⟨by omega, by omega⟩), hP.sub [0, 1, 2, 3, 4, 5, 6, 7, 8] rfl, hD.sub [0, 1, 2, 3, 4, 5, 6, 7, 8] (by decide) rfl, hS, lv_sub hl [1, 2, 0] rfl⟩ (by omega)
          · skip
            have g_21 : v_17.toInt = kn.toInt := i_eq c_19
            refine lv_aload_n hx hb dX1_knotBefore_97 rfl (lv_at hl 0 rfl) ?_
            refine lv_iload_n hx hb dX1_knotBefore_98 rfl (lv_at hl 2 rfl) ?_
            refine lv_aload_n hx hb dX1_knotBefore_99 rfl (lv_at hl 0 rfl) ?_
            refine va_get (D := (dC, dI)) (ci := 1) (v := .ref bk) (C := RX1) (T := TX1) (N := 8) hx hb hts (fun w h => wM_c (iX1 w h)) hown hK hP 0 rfl rfl 5 (by decide) (hts _ (wM_c wd_623)) (fun _ h9 => h9) rfl dX1_knotBefore_100 ?_
            refine va_get (D := (dC, dI)) (ci := 0) (v := .ref bk_head) (C := RX0) (T := TX0) (N := 13) hx hb hts (fun w h => wM_c (iX0 w h)) hown hK hP 2 rfl rfl 2 (by decide) (hts _ (wM_c wd_253)) (fun _ h9 => h9) rfl dX1_knotBefore_103 ?_
            refine lv_iload_n hx hb dX1_knotBefore_106 rfl (lv_at hl 2 rfl) ?_
            refine va_iald hx hb hK hP 4 1 rfl rfl (vp_in_nI (n := i) (by omega) (by omega)) dX1_knotBefore_107 ?_
            refine lv_topi (fun v_22 ev_22 => ?_)
            have nv_22 : v_22 = f_bk_head i := by rw [ev_22]; exact congrArg _ (nI_clamp (by omega))
            have g_23 : 0 ≤ v_22.toInt ∧ v_22.toInt < 10 := by rw [ev_22]; exact rg_in q_head (by omega) (by omega)
            refine lv_iload_n hx hb dX1_knotBefore_108 rfl (lv_at hl 1 rfl) ?_
            obtain ⟨hPc, hDc, hFc⟩ := s3_c (ws' := [(fl, .inr (1, [.int (nI mm), .ref fl_knotOf, .ref fl_smokeAt, .ref fl_reach, .ref fl_route, .ref bk, .ref st, .ref fl_smokeIn])), (bk, .inr (0, [.int (nI bw), .ref bk_tail, .ref bk_head, .ref bk_hinder, .ref bk_size, .ref bk_walk, .ref bk_draught, .ref bk_doorIn, .ref bk_fanIn, .ref bk_faceIn, .int (nI bn), .int bk_day, .ref gr])), (bk_walk, .inl (k_bk_walk, 14, .inl f_bk_walk)), (fl_reach, .inl (k_fl_reach, 10, .inl f_fl_reach))]) [0, 2, 6, 8] hP hD hS hA rfl (by decide)
            have hKc := hK.sub (tys' := [(k_bk_walk, .int), (k_fl_reach, .int)]) [3, 5] rfl
            refine va_calli (va_runV (As := [.int (nI i), .int v_22, .int kn]) (rest := []) ⟨hx, hb, hml, hown, hts⟩ (c1_isEarly l dC dI n0 atx H.size fl mm fl_knotOf fl_smokeAt fl_reach fl_route bk st fl_smokeIn bw bk_tail bk_head bk_hinder bk_size bk_walk bk_draught bk_doorIn bk_fanIn bk_faceIn bn bk_day gr k_bk_walk f_bk_walk k_fl_reach f_fl_reach (nI i) v_22 kn (by first | with_reducible assumption | omega | exact vp_in_iff.mpr (by omega) | exact vp_in_nI (by omega) (by omega) | exact ⟨by omega, by omega⟩) (by first | with_reducible assumption | omega | exact vp_in_iff.mpr (by omega) | exact vp_in_nI (by omega) (by omega) | exact ⟨by omega, by omega⟩) (by first | with_reducible assumption | omega | exact vp_in_iff.mpr (by omega) | exact vp_in_nI (by omega) (by omega) | exact ⟨by omega, by omega⟩) (by first | with_reducible assumption | omega | exact vp_in_iff.mpr (by omega) | exact vp_in_nI (by omega) (by omega) | exact ⟨by omega, by omega⟩) (by first | with_reducible assumption | omega | exact vp_in_iff.mpr (by omega) | exact vp_in_nI (by omega) (by omega) | exact ⟨by omega, by omega⟩) (by first | with_reducible assumption | omega | exact vp_in_iff.mpr (by omega) | exact vp_in_nI (by omega) (by omega) | exact ⟨by omega, by omega⟩)) (cwV 3 hts (gV (fun w h => wM_c h) wd_1416 wd_1413 wd_1415 wd_59 wd_124) rfl rfl rfl (by decide +kernel) ⟨Nat.le_of_ble_eq_true rfl, Nat.le_of_ble_eq_true rfl⟩) ⟨fun a U g mk q => by obtain ⟨q0, q1, q2, qG, qP, qK, qD⟩ := q; exact ⟨q0, q1, q2, GW.blind qG, qP, va_K.moved (u := U) (U := U.calling g mk a) (Vm.Alike.refl U.vm) qK, qD⟩, va_recv hKc hPc (ci := 1) (q0 := 0) rfl rfl, fun U hU hW => ⟨rfl, by rw [hU], Nat.le_trans hn0 hS.1, GW.go hW hU hG (fun q hq hA9 => hS.2.1 q hq (fun h => hA9 (hA0 q h))), by rw [hU]; exact hPc, va_K.moved hW.alike hKc, hDc.weaken (fun _ _ _ h => hA0 _ h)⟩⟩ rfl rfl hl.1 rfl (lv_room (Nat.le_of_ble_eq_true rfl)) dX1_knotBefore_109 ⟨Nat.le_of_ble_eq_true rfl, Nat.le_of_ble_eq_true rfl⟩) hS (fun q _ h => hFc q h) hFc (fun r_24 u t H1 locs ht hvm hw_25 hB hz1 hk1 hS => ?_)
            obtain ⟨hP1, hK1, hD1⟩ := hB
            rw [ht] at hP1
            obtain ⟨hP, hD⟩ := s3_j (L := [(st, .inr (9, [.ref st_open, .ref st_speed, .ref st_fallen, .ref st_fire, .int st_mark, .int st_moreIn, .int st_more, .ref bk])), (bk_tail, .inl (k_bk_tail, 14, .inl f_bk_tail)), (bk_head, .inl (k_bk_head, 14, .inl f_bk_head)), (st_fallen, .inl (k_st_fallen, 14, .inl f_st_fallen)), (fl_smokeAt, .inl (k_fl_smokeAt, 14, .inl f_fl_smokeAt)), (fl, .inr (1, [.int (nI mm), .ref fl_knotOf, .ref fl_smokeAt, .ref fl_reach, .ref fl_route, .ref bk, .ref st, .ref fl_smokeIn])), (bk, .inr (0, [.int (nI bw), .ref bk_tail, .ref bk_head, .ref bk_hinder, .ref bk_size, .ref bk_walk, .ref bk_draught, .ref bk_doorIn, .ref bk_fanIn, .ref bk_faceIn, .int (nI bn), .int bk_day, .ref gr])), (bk_walk, .inl (k_bk_walk, 14, .inl f_bk_walk)), (fl_reach, .inl (k_fl_reach, 10, .inl f_fl_reach))]) 5 hP hD [0, 2, 6, 8] [1, 3, 4, 5, 7] hk1 hFc hP1 hD1 rfl rfl rfl (by decide) (by decide)
            generalize H1 = H at hP hS ⊢
            rcases hw_25 with rfl | rfl
            · skip
              refine lv_if_eq (tgt := 125) hx hb dX1_knotBefore_112 (by decide) (fun c_26 => ?_) (fun c_26 => ?_)
              · skip
                refine lv_iinc (v := (nI (i + 1))) (lv' := [(2, .int (nI (i + 1))), (0, .ref fl), (1, .int kn)]) hx hb dX1_knotBefore_125 hl (k := 2) rfl (nI_add _ 1) (by decide) rfl (fun ls hl => ?_)
                refine lv_goto (tgt := 2) hx hb dX1_knotBefore_128 (by decide) ?_
                exact ih_1 (i + 1) _ _ _ ⟨(by first | with_reducible assumption | omega | exact vp_in_iff.mpr (by omega) | exact vp_in_nI (by omega) (by omega) | exact ⟨by omega, by omega⟩), hP.sub [5, 0, 6, 1, 2, 3, 7, 4, 8] rfl, hD.sub [5, 0, 6, 1, 2, 3, 7, 4, 8] (by decide) rfl, hS, lv_sub hl [1, 2, 0] rfl⟩ (by omega)
              · exact absurd c_26 (by decide)
            · skip
              refine lv_if_eq (tgt := 125) hx hb dX1_knotBefore_112 (by decide) (fun c_27 => ?_) (fun c_27 => ?_)
              · exact absurd c_27 (by decide)
              refine lv_aload_n hx hb dX1_knotBefore_115 rfl (lv_at hl 0 rfl) ?_
              refine va_get (D := (dC, dI)) (ci := 1) (v := .ref bk) (C := RX1) (T := TX1) (N := 8) hx hb hts (fun w h => wM_c (iX1 w h)) hown hK hP 5 rfl rfl 5 (by decide) (hts _ (wM_c wd_623)) (fun _ h9 => h9) rfl dX1_knotBefore_116 ?_
              refine va_get (D := (dC, dI)) (ci := 0) (v := .ref bk_head) (C := RX0) (T := TX0) (N := 13) hx hb hts (fun w h => wM_c (iX0 w h)) hown hK hP 6 rfl rfl 2 (by decide) (hts _ (wM_c wd_253)) (fun _ h9 => h9) rfl dX1_knotBefore_119 ?_
              refine lv_iload_n hx hb dX1_knotBefore_122 rfl (lv_at hl 2 rfl) ?_
              refine va_iald hx hb hK hP 2 1 rfl rfl (vp_in_nI (n := i) (by omega) (by omega)) dX1_knotBefore_123 ?_
              refine lv_topi (fun v_28 ev_28 => ?_)
              have nv_28 : v_28 = f_bk_head i := by rw [ev_28]; exact congrArg _ (nI_clamp (by omega))
              have g_29 : 0 ≤ v_28.toInt ∧ v_28.toInt < 10 := by rw [ev_28]; exact rg_in q_head (by omega) (by omega)
              have hK9 := hK.sub (tys' := [(k_bk_tail, .int), (k_bk_head, .int), (k_st_fallen, .boolean), (k_bk_walk, .int), (k_fl_smokeAt, .int), (k_fl_reach, .int)]) [0, 1, 2, 3, 4, 5] rfl
              exact W.iret (v := v_28) hx hb hr (fun t ht hW => ⟨⟨v_28, (), rfl, (by omega), by rw [ht]; exact hP.sub [5, 0, 6, 1, 2, 3, 7, 4, 8] rfl, va_K.moved hW.alike hK9, hD.sub [5, 0, 6, 1, 2, 3, 7, 4, 8] (by decide) rfl⟩, hS.F ht⟩) hS.2.2 dX1_knotBefore_124
        · skip
          have g_30 : v_13.toInt = kn.toInt := i_eq c_15
          refine lv_aload_n hx hb dX1_knotBefore_56 rfl (lv_at hl 0 rfl) ?_
          refine lv_iload_n hx hb dX1_knotBefore_57 rfl (lv_at hl 2 rfl) ?_
          refine lv_aload_n hx hb dX1_knotBefore_58 rfl (lv_at hl 0 rfl) ?_
          refine va_get (D := (dC, dI)) (ci := 1) (v := .ref bk) (C := RX1) (T := TX1) (N := 8) hx hb hts (fun w h => wM_c (iX1 w h)) hown hK hP 0 rfl rfl 5 (by decide) (hts _ (wM_c wd_623)) (fun _ h9 => h9) rfl dX1_knotBefore_59 ?_
          refine va_get (D := (dC, dI)) (ci := 0) (v := .ref bk_tail) (C := RX0) (T := TX0) (N := 13) hx hb hts (fun w h => wM_c (iX0 w h)) hown hK hP 2 rfl rfl 1 (by decide) (hts _ (wM_c wd_248)) (fun _ h9 => h9) rfl dX1_knotBefore_62 ?_
          refine lv_iload_n hx hb dX1_knotBefore_65 rfl (lv_at hl 2 rfl) ?_
          refine va_iald hx hb hK hP 3 0 rfl rfl (vp_in_nI (n := i) (by omega) (by omega)) dX1_knotBefore_66 ?_
          refine lv_topi (fun v_31 ev_31 => ?_)
          have nv_31 : v_31 = f_bk_tail i := by rw [ev_31]; exact congrArg _ (nI_clamp (by omega))
          have g_32 : 0 ≤ v_31.toInt ∧ v_31.toInt < 10 := by rw [ev_31]; exact rg_in q_tail (by omega) (by omega)
          refine lv_iload_n hx hb dX1_knotBefore_67 rfl (lv_at hl 1 rfl) ?_
          obtain ⟨hPc, hDc, hFc⟩ := s3_c (ws' := [(fl, .inr (1, [.int (nI mm), .ref fl_knotOf, .ref fl_smokeAt, .ref fl_reach, .ref fl_route, .ref bk, .ref st, .ref fl_smokeIn])), (bk, .inr (0, [.int (nI bw), .ref bk_tail, .ref bk_head, .ref bk_hinder, .ref bk_size, .ref bk_walk, .ref bk_draught, .ref bk_doorIn, .ref bk_fanIn, .ref bk_faceIn, .int (nI bn), .int bk_day, .ref gr])), (bk_walk, .inl (k_bk_walk, 14, .inl f_bk_walk)), (fl_reach, .inl (k_fl_reach, 10, .inl f_fl_reach))]) [0, 2, 6, 8] hP hD hS hA rfl (by decide)
          have hKc := hK.sub (tys' := [(k_bk_walk, .int), (k_fl_reach, .int)]) [3, 5] rfl
          refine va_calli (va_runV (As := [.int (nI i), .int v_31, .int kn]) (rest := []) ⟨hx, hb, hml, hown, hts⟩ (c1_isEarly l dC dI n0 atx H.size fl mm fl_knotOf fl_smokeAt fl_reach fl_route bk st fl_smokeIn bw bk_tail bk_head bk_hinder bk_size bk_walk bk_draught bk_doorIn bk_fanIn bk_faceIn bn bk_day gr k_bk_walk f_bk_walk k_fl_reach f_fl_reach (nI i) v_31 kn (by first | with_reducible assumption | omega | exact vp_in_iff.mpr (by omega) | exact vp_in_nI (by omega) (by omega) | exact ⟨by omega, by omega⟩) (by first | with_reducible assumption | omega | exact vp_in_iff.mpr (by omega) | exact vp_in_nI (by omega) (by omega) | exact ⟨by omega, by omega⟩) (by first | with_reducible assumption | omega | exact vp_in_iff.mpr (by omega) | exact vp_in_nI (by omega) (by omega) | exact ⟨by omega, by omega⟩) (by first | with_reducible assumption | omega | exact vp_in_iff.mpr (by omega) | exact vp_in_nI (by omega) (by omega) | exact ⟨by omega, by omega⟩) (by first | with_reducible assumption | omega | exact vp_in_iff.mpr (by omega) | exact vp_in_nI (by omega) (by omega) | exact ⟨by omega, by omega⟩) (by first | with_reducible assumption | omega | exact vp_in_iff.mpr (by omega) | exact vp_in_nI (by omega) (by omega) | exact ⟨by omega, by omega⟩)) (cwV 3 hts (gV (fun w h => wM_c h) wd_1416 wd_1413 wd_1415 wd_59 wd_124) rfl rfl rfl (by decide +kernel) ⟨Nat.le_of_ble_eq_true rfl, Nat.le_of_ble_eq_true rfl⟩) ⟨fun a U g mk q => by obtain ⟨q0, q1, q2, qG, qP, qK, qD⟩ := q; exact ⟨q0, q1, q2, GW.blind qG, qP, va_K.moved (u := U) (U := U.calling g mk a) (Vm.Alike.refl U.vm) qK, qD⟩, va_recv hKc hPc (ci := 1) (q0 := 0) rfl rfl, fun U hU hW => ⟨rfl, by rw [hU], Nat.le_trans hn0 hS.1, GW.go hW hU hG (fun q hq hA9 => hS.2.1 q hq (fun h => hA9 (hA0 q h))), by rw [hU]; exact hPc, va_K.moved hW.alike hKc, hDc.weaken (fun _ _ _ h => hA0 _ h)⟩⟩ rfl rfl hl.1 rfl (lv_room (Nat.le_of_ble_eq_true rfl)) dX1_knotBefore_68 ⟨Nat.le_of_ble_eq_true rfl, Nat.le_of_ble_eq_true rfl⟩) hS (fun q _ h => hFc q h) hFc (fun r_33 u t H1 locs ht hvm hw_34 hB hz1 hk1 hS => ?_)
          obtain ⟨hP1, hK1, hD1⟩ := hB
          rw [ht] at hP1
          obtain ⟨hP, hD⟩ := s3_j (L := [(st, .inr (9, [.ref st_open, .ref st_speed, .ref st_fallen, .ref st_fire, .int st_mark, .int st_moreIn, .int st_more, .ref bk])), (bk_tail, .inl (k_bk_tail, 14, .inl f_bk_tail)), (bk_head, .inl (k_bk_head, 14, .inl f_bk_head)), (st_fallen, .inl (k_st_fallen, 14, .inl f_st_fallen)), (fl_smokeAt, .inl (k_fl_smokeAt, 14, .inl f_fl_smokeAt)), (fl, .inr (1, [.int (nI mm), .ref fl_knotOf, .ref fl_smokeAt, .ref fl_reach, .ref fl_route, .ref bk, .ref st, .ref fl_smokeIn])), (bk, .inr (0, [.int (nI bw), .ref bk_tail, .ref bk_head, .ref bk_hinder, .ref bk_size, .ref bk_walk, .ref bk_draught, .ref bk_doorIn, .ref bk_fanIn, .ref bk_faceIn, .int (nI bn), .int bk_day, .ref gr])), (bk_walk, .inl (k_bk_walk, 14, .inl f_bk_walk)), (fl_reach, .inl (k_fl_reach, 10, .inl f_fl_reach))]) 5 hP hD [0, 2, 6, 8] [1, 3, 4, 5, 7] hk1 hFc hP1 hD1 rfl rfl rfl (by decide) (by decide)
          generalize H1 = H at hP hS ⊢
          rcases hw_34 with rfl | rfl
          · skip
            refine lv_if_eq (tgt := 84) hx hb dX1_knotBefore_71 (by decide) (fun c_35 => ?_) (fun c_35 => ?_)
            · skip
              refine lv_aload_n hx hb dX1_knotBefore_84 rfl (lv_at hl 0 rfl) ?_
              refine va_get (D := (dC, dI)) (ci := 1) (v := .ref bk) (C := RX1) (T := TX1) (N := 8) hx hb hts (fun w h => wM_c (iX1 w h)) hown hK hP 5 rfl rfl 5 (by decide) (hts _ (wM_c wd_623)) (fun _ h9 => h9) rfl dX1_knotBefore_85 ?_
              refine va_get (D := (dC, dI)) (ci := 0) (v := .ref bk_tail) (C := RX0) (T := TX0) (N := 13) hx hb hts (fun w h => wM_c (iX0 w h)) hown hK hP 6 rfl rfl 1 (by decide) (hts _ (wM_c wd_248)) (fun _ h9 => h9) rfl dX1_knotBefore_88 ?_
              refine lv_iload_n hx hb dX1_knotBefore_91 rfl (lv_at hl 2 rfl) ?_
              refine va_iald hx hb hK hP 1 0 rfl rfl (vp_in_nI (n := i) (by omega) (by omega)) dX1_knotBefore_92 ?_
              refine lv_topi (fun v_36 ev_36 => ?_)
              have nv_36 : v_36 = f_bk_tail i := by rw [ev_36]; exact congrArg _ (nI_clamp (by omega))
              have g_37 : 0 ≤ v_36.toInt ∧ v_36.toInt < 10 := by rw [ev_36]; exact rg_in q_tail (by omega) (by omega)
              refine lv_iload_n hx hb dX1_knotBefore_93 rfl (lv_at hl 1 rfl) ?_
              refine lv_icmp_ne (tgt := 125) hx hb dX1_knotBefore_94 (by decide) (fun c_38 => ?_) (fun c_38 => ?_)
              · skip
                have g_39 : v_36.toInt ≠ kn.toInt := i_ne c_38
                refine lv_iinc (v := (nI (i + 1))) (lv' := [(2, .int (nI (i + 1))), (0, .ref fl), (1, .int kn)]) hx hb dX1_knotBefore_125 hl (k := 2) rfl (nI_add _ 1) (by decide) rfl (fun ls hl => ?_)
                refine lv_goto (tgt := 2) hx hb dX1_knotBefore_128 (by decide) ?_
                exact ih_1 (i + 1) _ _ _ ⟨(by first | with_reducible assumption | omega | exact vp_in_iff.mpr (by omega) | exact vp_in_nI (by omega) (by omega) | exact ⟨by omega, by omega⟩), hP.sub [5, 0, 6, 1, 2, 3, 7, 4, 8] rfl, hD.sub [5, 0, 6, 1, 2, 3, 7, 4, 8] (by decide) rfl, hS, lv_sub hl [1, 2, 0] rfl⟩ (by omega)
              · skip
                have g_40 : v_36.toInt = kn.toInt := i_eq c_38
                refine lv_aload_n hx hb dX1_knotBefore_97 rfl (lv_at hl 0 rfl) ?_
                refine lv_iload_n hx hb dX1_knotBefore_98 rfl (lv_at hl 2 rfl) ?_
                refine lv_aload_n hx hb dX1_knotBefore_99 rfl (lv_at hl 0 rfl) ?_
                refine va_get (D := (dC, dI)) (ci := 1) (v := .ref bk) (C := RX1) (T := TX1) (N := 8) hx hb hts (fun w h => wM_c (iX1 w h)) hown hK hP 5 rfl rfl 5 (by decide) (hts _ (wM_c wd_623)) (fun _ h9 => h9) rfl dX1_knotBefore_100 ?_
                refine va_get (D := (dC, dI)) (ci := 0) (v := .ref bk_head) (C := RX0) (T := TX0) (N := 13) hx hb hts (fun w h => wM_c (iX0 w h)) hown hK hP 6 rfl rfl 2 (by decide) (hts _ (wM_c wd_253)) (fun _ h9 => h9) rfl dX1_knotBefore_103 ?_
                refine lv_iload_n hx hb dX1_knotBefore_106 rfl (lv_at hl 2 rfl) ?_
                refine va_iald hx hb hK hP 2 1 rfl rfl (vp_in_nI (n := i) (by omega) (by omega)) dX1_knotBefore_107 ?_
                refine lv_topi (fun v_41 ev_41 => ?_)
                have nv_41 : v_41 = f_bk_head i := by rw [ev_41]; exact congrArg _ (nI_clamp (by omega))
                have g_42 : 0 ≤ v_41.toInt ∧ v_41.toInt < 10 := by rw [ev_41]; exact rg_in q_head (by omega) (by omega)
                refine lv_iload_n hx hb dX1_knotBefore_108 rfl (lv_at hl 1 rfl) ?_
                obtain ⟨hPc, hDc, hFc⟩ := s3_c (ws' := [(fl, .inr (1, [.int (nI mm), .ref fl_knotOf, .ref fl_smokeAt, .ref fl_reach, .ref fl_route, .ref bk, .ref st, .ref fl_smokeIn])), (bk, .inr (0, [.int (nI bw), .ref bk_tail, .ref bk_head, .ref bk_hinder, .ref bk_size, .ref bk_walk, .ref bk_draught, .ref bk_doorIn, .ref bk_fanIn, .ref bk_faceIn, .int (nI bn), .int bk_day, .ref gr])), (bk_walk, .inl (k_bk_walk, 14, .inl f_bk_walk)), (fl_reach, .inl (k_fl_reach, 10, .inl f_fl_reach))]) [5, 6, 7, 8] hP hD hS hA rfl (by decide)
                have hKc := hK.sub (tys' := [(k_bk_walk, .int), (k_fl_reach, .int)]) [3, 5] rfl
                refine va_calli (va_runV (As := [.int (nI i), .int v_41, .int kn]) (rest := []) ⟨hx, hb, hml, hown, hts⟩ (c1_isEarly l dC dI n0 atx H.size fl mm fl_knotOf fl_smokeAt fl_reach fl_route bk st fl_smokeIn bw bk_tail bk_head bk_hinder bk_size bk_walk bk_draught bk_doorIn bk_fanIn bk_faceIn bn bk_day gr k_bk_walk f_bk_walk k_fl_reach f_fl_reach (nI i) v_41 kn (by first | with_reducible assumption | omega | exact vp_in_iff.mpr (by omega) | exact vp_in_nI (by omega) (by omega) | exact ⟨by omega, by omega⟩) (by first | with_reducible assumption | omega | exact vp_in_iff.mpr (by omega) | exact vp_in_nI (by omega) (by omega) | exact ⟨by omega, by omega⟩) (by first | with_reducible assumption | omega | exact vp_in_iff.mpr (by omega) | exact vp_in_nI (by omega) (by omega) | exact ⟨by omega, by omega⟩) (by first | with_reducible assumption | omega | exact vp_in_iff.mpr (by omega) | exact vp_in_nI (by omega) (by omega) | exact ⟨by omega, by omega⟩) (by first | with_reducible assumption | omega | exact vp_in_iff.mpr (by omega) | exact vp_in_nI (by omega) (by omega) | exact ⟨by omega, by omega⟩) (by first | with_reducible assumption | omega | exact vp_in_iff.mpr (by omega) | exact vp_in_nI (by omega) (by omega) | exact ⟨by omega, by omega⟩)) (cwV 3 hts (gV (fun w h => wM_c h) wd_1416 wd_1413 wd_1415 wd_59 wd_124) rfl rfl rfl (by decide +kernel) ⟨Nat.le_of_ble_eq_true rfl, Nat.le_of_ble_eq_true rfl⟩) ⟨fun a U g mk q => by obtain ⟨q0, q1, q2, qG, qP, qK, qD⟩ := q; exact ⟨q0, q1, q2, GW.blind qG, qP, va_K.moved (u := U) (U := U.calling g mk a) (Vm.Alike.refl U.vm) qK, qD⟩, va_recv hKc hPc (ci := 1) (q0 := 0) rfl rfl, fun U hU hW => ⟨rfl, by rw [hU], Nat.le_trans hn0 hS.1, GW.go hW hU hG (fun q hq hA9 => hS.2.1 q hq (fun h => hA9 (hA0 q h))), by rw [hU]; exact hPc, va_K.moved hW.alike hKc, hDc.weaken (fun _ _ _ h => hA0 _ h)⟩⟩ rfl rfl hl.1 rfl (lv_room (Nat.le_of_ble_eq_true rfl)) dX1_knotBefore_109 ⟨Nat.le_of_ble_eq_true rfl, Nat.le_of_ble_eq_true rfl⟩) hS (fun q _ h => hFc q h) hFc (fun r_43 u t H1 locs ht hvm hw_44 hB hz1 hk1 hS => ?_)
                obtain ⟨hP1, hK1, hD1⟩ := hB
                rw [ht] at hP1
                obtain ⟨hP, hD⟩ := s3_j (L := [(st, .inr (9, [.ref st_open, .ref st_speed, .ref st_fallen, .ref st_fire, .int st_mark, .int st_moreIn, .int st_more, .ref bk])), (bk_tail, .inl (k_bk_tail, 14, .inl f_bk_tail)), (bk_head, .inl (k_bk_head, 14, .inl f_bk_head)), (st_fallen, .inl (k_st_fallen, 14, .inl f_st_fallen)), (fl_smokeAt, .inl (k_fl_smokeAt, 14, .inl f_fl_smokeAt)), (fl, .inr (1, [.int (nI mm), .ref fl_knotOf, .ref fl_smokeAt, .ref fl_reach, .ref fl_route, .ref bk, .ref st, .ref fl_smokeIn])), (bk, .inr (0, [.int (nI bw), .ref bk_tail, .ref bk_head, .ref bk_hinder, .ref bk_size, .ref bk_walk, .ref bk_draught, .ref bk_doorIn, .ref bk_fanIn, .ref bk_faceIn, .int (nI bn), .int bk_day, .ref gr])), (bk_walk, .inl (k_bk_walk, 14, .inl f_bk_walk)), (fl_reach, .inl (k_fl_reach, 10, .inl f_fl_reach))]) 5 hP hD [5, 6, 7, 8] [0, 1, 2, 3, 4] hk1 hFc hP1 hD1 rfl rfl rfl (by decide) (by decide)
                generalize H1 = H at hP hS ⊢
                rcases hw_44 with rfl | rfl
                · skip
                  refine lv_if_eq (tgt := 125) hx hb dX1_knotBefore_112 (by decide) (fun c_45 => ?_) (fun c_45 => ?_)
                  · skip
                    refine lv_iinc (v := (nI (i + 1))) (lv' := [(2, .int (nI (i + 1))), (0, .ref fl), (1, .int kn)]) hx hb dX1_knotBefore_125 hl (k := 2) rfl (nI_add _ 1) (by decide) rfl (fun ls hl => ?_)
                    refine lv_goto (tgt := 2) hx hb dX1_knotBefore_128 (by decide) ?_
                    exact ih_1 (i + 1) _ _ _ ⟨(by first | with_reducible assumption | omega | exact vp_in_iff.mpr (by omega) | exact vp_in_nI (by omega) (by omega) | exact ⟨by omega, by omega⟩), hP.sub [5, 0, 6, 1, 2, 3, 7, 4, 8] rfl, hD.sub [5, 0, 6, 1, 2, 3, 7, 4, 8] (by decide) rfl, hS, lv_sub hl [1, 2, 0] rfl⟩ (by omega)
                  · exact absurd c_45 (by decide)
                · skip
                  refine lv_if_eq (tgt := 125) hx hb dX1_knotBefore_112 (by decide) (fun c_46 => ?_) (fun c_46 => ?_)
                  · exact absurd c_46 (by decide)
                  refine lv_aload_n hx hb dX1_knotBefore_115 rfl (lv_at hl 0 rfl) ?_
                  refine va_get (D := (dC, dI)) (ci := 1) (v := .ref bk) (C := RX1) (T := TX1) (N := 8) hx hb hts (fun w h => wM_c (iX1 w h)) hown hK hP 5 rfl rfl 5 (by decide) (hts _ (wM_c wd_623)) (fun _ h9 => h9) rfl dX1_knotBefore_116 ?_
                  refine va_get (D := (dC, dI)) (ci := 0) (v := .ref bk_head) (C := RX0) (T := TX0) (N := 13) hx hb hts (fun w h => wM_c (iX0 w h)) hown hK hP 6 rfl rfl 2 (by decide) (hts _ (wM_c wd_253)) (fun _ h9 => h9) rfl dX1_knotBefore_119 ?_
                  refine lv_iload_n hx hb dX1_knotBefore_122 rfl (lv_at hl 2 rfl) ?_
                  refine va_iald hx hb hK hP 2 1 rfl rfl (vp_in_nI (n := i) (by omega) (by omega)) dX1_knotBefore_123 ?_
                  refine lv_topi (fun v_47 ev_47 => ?_)
                  have nv_47 : v_47 = f_bk_head i := by rw [ev_47]; exact congrArg _ (nI_clamp (by omega))
                  have g_48 : 0 ≤ v_47.toInt ∧ v_47.toInt < 10 := by rw [ev_47]; exact rg_in q_head (by omega) (by omega)
                  have hK9 := hK.sub (tys' := [(k_bk_tail, .int), (k_bk_head, .int), (k_st_fallen, .boolean), (k_bk_walk, .int), (k_fl_smokeAt, .int), (k_fl_reach, .int)]) [0, 1, 2, 3, 4, 5] rfl
                  exact W.iret (v := v_47) hx hb hr (fun t ht hW => ⟨⟨v_47, (), rfl, (by omega), by rw [ht]; exact hP.sub [5, 0, 6, 1, 2, 3, 7, 4, 8] rfl, va_K.moved hW.alike hK9, hD.sub [5, 0, 6, 1, 2, 3, 7, 4, 8] (by decide) rfl⟩, hS.F ht⟩) hS.2.2 dX1_knotBefore_124
            · exact absurd c_35 (by decide)
          · skip
            refine lv_if_eq (tgt := 84) hx hb dX1_knotBefore_71 (by decide) (fun c_49 => ?_) (fun c_49 => ?_)
            · exact absurd c_49 (by decide)
            refine lv_aload_n hx hb dX1_knotBefore_74 rfl (lv_at hl 0 rfl) ?_
            refine va_get (D := (dC, dI)) (ci := 1) (v := .ref bk) (C := RX1) (T := TX1) (N := 8) hx hb hts (fun w h => wM_c (iX1 w h)) hown hK hP 5 rfl rfl 5 (by decide) (hts _ (wM_c wd_623)) (fun _ h9 => h9) rfl dX1_knotBefore_75 ?_
            refine va_get (D := (dC, dI)) (ci := 0) (v := .ref bk_tail) (C := RX0) (T := TX0) (N := 13) hx hb hts (fun w h => wM_c (iX0 w h)) hown hK hP 6 rfl rfl 1 (by decide) (hts _ (wM_c wd_248)) (fun _ h9 => h9) rfl dX1_knotBefore_78 ?_
            refine lv_iload_n hx hb dX1_knotBefore_81 rfl (lv_at hl 2 rfl) ?_
            refine va_iald hx hb hK hP 1 0 rfl rfl (vp_in_nI (n := i) (by omega) (by omega)) dX1_knotBefore_82 ?_
            refine lv_topi (fun v_50 ev_50 => ?_)
            have nv_50 : v_50 = f_bk_tail i := by rw [ev_50]; exact congrArg _ (nI_clamp (by omega))
            have g_51 : 0 ≤ v_50.toInt ∧ v_50.toInt < 10 := by rw [ev_50]; exact rg_in q_tail (by omega) (by omega)
            have hK9 := hK.sub (tys' := [(k_bk_tail, .int), (k_bk_head, .int), (k_st_fallen, .boolean), (k_bk_walk, .int), (k_fl_smokeAt, .int), (k_fl_reach, .int)]) [0, 1, 2, 3, 4, 5] rfl
            exact W.iret (v := v_50) hx hb hr (fun t ht hW => ⟨⟨v_50, (), rfl, (by omega), by rw [ht]; exact hP.sub [5, 0, 6, 1, 2, 3, 7, 4, 8] rfl, va_K.moved hW.alike hK9, hD.sub [5, 0, 6, 1, 2, 3, 7, 4, 8] (by decide) rfl⟩, hS.F ht⟩) hS.2.2 dX1_knotBefore_83
      · skip
        have g_52 : v_9.toInt ≤ v_10.toInt := i_nlt c_11
        refine lv_goto (tgt := 125) hx hb dX1_knotBefore_40 (by decide) ?_
        refine lv_iinc (v := (nI (i + 1))) (lv' := [(2, .int (nI (i + 1))), (0, .ref fl), (1, .int kn)]) hx hb dX1_knotBefore_125 hl (k := 2) rfl (nI_add _ 1) (by decide) rfl (fun ls hl => ?_)
        refine lv_goto (tgt := 2) hx hb dX1_knotBefore_128 (by decide) ?_
        exact ih_1 (i + 1) _ _ _ ⟨(by first | with_reducible assumption | omega | exact vp_in_iff.mpr (by omega) | exact vp_in_nI (by omega) (by omega) | exact ⟨by omega, by omega⟩), hP.sub [0, 1, 2, 3, 4, 5, 6, 7, 8] rfl, hD.sub [0, 1, 2, 3, 4, 5, 6, 7, 8] (by decide) rfl, hS, lv_sub hl [1, 2, 0] rfl⟩ (by omega)
set_option maxHeartbeats 4000000 in
set_option maxRecDepth 100000 in
theorem c1_traceBack (l : Launch) (dC : Nat → ClassId) (dI : Nat → Nat → Nat) (n0 : Nat) (atx : Nat → Nat × Nat) (sz : Nat) (fl : Nat) (mm : Nat) (fl_knotOf : Nat) (fl_smokeAt : Nat) (fl_reach : Nat) (fl_route : Nat) (bk : Nat) (st : Nat) (fl_smokeIn : Nat) (st_open : Nat) (st_speed : Nat) (st_fallen : Nat) (st_fire : Nat) (st_mark : Int32) (st_moreIn : Int32) (st_more : Int32) (bw : Nat) (bk_tail : Nat) (bk_head : Nat) (bk_hinder : Nat) (bk_size : Nat) (bk_walk : Nat) (bk_draught : Nat) (bk_doorIn : Nat) (bk_fanIn : Nat) (bk_faceIn : Nat) (bn : Nat) (bk_day : Int32) (gr : Nat) (k_bk_tail : ClassId) (f_bk_tail : Nat → Int32) (k_bk_head : ClassId) (f_bk_head : Nat → Int32) (k_st_fallen : ClassId) (f_st_fallen : Nat → Int32) (k_bk_walk : ClassId) (f_bk_walk : Nat → Int32) (k_fl_smokeAt : ClassId) (f_fl_smokeAt : Nat → Int32) (k_fl_reach : ClassId) (f_fl_reach : Nat → Int32) (k_fl_route : ClassId) (f_fl_route : Nat → Int32) (kn : Int32) (hbw : bw ≤ 14) (hbn : bn ≤ 10) (q_day : -1 ≤ bk_day.toInt ∧ bk_day.toInt < 10) (q_tail : rg f_bk_tail 14 0 10) (q_head : rg f_bk_head 14 0 10) (hday0 : 0 ≤ bk_day.toInt) (q_ro : rg f_fl_route 11 0 10) : Met l yX1_traceBack (wM yX1_traceBack cX1_traceBack 5 (some .int)) ({ frames := 2, cells := 0, slots := 0, locals := 45 }) (va_Pc [.ref fl, .int kn] (fun U => U.heap.size = sz ∧ n0 ≤ sz ∧ GW n0 atx U ∧ va_P (dC, dI) classes [(fl, .inr (1, [.int (nI mm), .ref fl_knotOf, .ref fl_smokeAt, .ref fl_reach, .ref fl_route, .ref bk, .ref st, .ref fl_smokeIn])), (st, .inr (9, [.ref st_open, .ref st_speed, .ref st_fallen, .ref st_fire, .int st_mark, .int st_moreIn, .int st_more, .ref bk])), (bk, .inr (0, [.int (nI bw), .ref bk_tail, .ref bk_head, .ref bk_hinder, .ref bk_size, .ref bk_walk, .ref bk_draught, .ref bk_doorIn, .ref bk_fanIn, .ref bk_faceIn, .int (nI bn), .int bk_day, .ref gr])), (bk_tail, .inl (k_bk_tail, 14, .inl f_bk_tail)), (bk_head, .inl (k_bk_head, 14, .inl f_bk_head)), (st_fallen, .inl (k_st_fallen, 14, .inl f_st_fallen)), (bk_walk, .inl (k_bk_walk, 14, .inl f_bk_walk)), (fl_smokeAt, .inl (k_fl_smokeAt, 14, .inl f_fl_smokeAt)), (fl_reach, .inl (k_fl_reach, 10, .inl f_fl_reach)), (fl_route, .inl (k_fl_route, 11, .inl f_fl_route))] U.heap ∧ va_K (dC, dI) classes [(k_bk_tail, .int), (k_bk_head, .int), (k_st_fallen, .boolean), (k_bk_walk, .int), (k_fl_smokeAt, .int), (k_fl_reach, .int), (k_fl_route, .int)] U ∧ va_D (fun q => n0 ≤ q) [(fl, .inr (1, [.int (nI mm), .ref fl_knotOf, .ref fl_smokeAt, .ref fl_reach, .ref fl_route, .ref bk, .ref st, .ref fl_smokeIn])), (st, .inr (9, [.ref st_open, .ref st_speed, .ref st_fallen, .ref st_fire, .int st_mark, .int st_moreIn, .int st_more, .ref bk])), (bk, .inr (0, [.int (nI bw), .ref bk_tail, .ref bk_head, .ref bk_hinder, .ref bk_size, .ref bk_walk, .ref bk_draught, .ref bk_doorIn, .ref bk_fanIn, .ref bk_faceIn, .int (nI bn), .int bk_day, .ref gr])), (bk_tail, .inl (k_bk_tail, 14, .inl f_bk_tail)), (bk_head, .inl (k_bk_head, 14, .inl f_bk_head)), (st_fallen, .inl (k_st_fallen, 14, .inl f_st_fallen)), (bk_walk, .inl (k_bk_walk, 14, .inl f_bk_walk)), (fl_smokeAt, .inl (k_fl_smokeAt, 14, .inl f_fl_smokeAt)), (fl_reach, .inl (k_fl_reach, 10, .inl f_fl_reach)), (fl_route, .inl (k_fl_route, 11, .inl f_fl_route))])) (va_Qi (fun (r : Int32) (_ : Unit) => 0 ≤ r.toInt ∧ r.toInt ≤ 10) (fun (_ : Unit) (t : State) => ∃ (ro9 : Nat → Int32), (rg ro9 11 0 10) ∧ va_P (dC, dI) classes [(fl, .inr (1, [.int (nI mm), .ref fl_knotOf, .ref fl_smokeAt, .ref fl_reach, .ref fl_route, .ref bk, .ref st, .ref fl_smokeIn])), (st, .inr (9, [.ref st_open, .ref st_speed, .ref st_fallen, .ref st_fire, .int st_mark, .int st_moreIn, .int st_more, .ref bk])), (bk, .inr (0, [.int (nI bw), .ref bk_tail, .ref bk_head, .ref bk_hinder, .ref bk_size, .ref bk_walk, .ref bk_draught, .ref bk_doorIn, .ref bk_fanIn, .ref bk_faceIn, .int (nI bn), .int bk_day, .ref gr])), (bk_tail, .inl (k_bk_tail, 14, .inl f_bk_tail)), (bk_head, .inl (k_bk_head, 14, .inl f_bk_head)), (st_fallen, .inl (k_st_fallen, 14, .inl f_st_fallen)), (bk_walk, .inl (k_bk_walk, 14, .inl f_bk_walk)), (fl_smokeAt, .inl (k_fl_smokeAt, 14, .inl f_fl_smokeAt)), (fl_reach, .inl (k_fl_reach, 10, .inl f_fl_reach)), (fl_route, .inl (k_fl_route, 11, .inl ro9))] t.heap ∧ va_K (dC, dI) classes [(k_bk_tail, .int), (k_bk_head, .int), (k_st_fallen, .boolean), (k_bk_walk, .int), (k_fl_smokeAt, .int), (k_fl_reach, .int), (k_fl_route, .int)] t ∧ va_D (va_A [(fl, .inr (1, [.int (nI mm), .ref fl_knotOf, .ref fl_smokeAt, .ref fl_reach, .ref fl_route, .ref bk, .ref st, .ref fl_smokeIn])), (st, .inr (9, [.ref st_open, .ref st_speed, .ref st_fallen, .ref st_fire, .int st_mark, .int st_moreIn, .int st_more, .ref bk])), (bk, .inr (0, [.int (nI bw), .ref bk_tail, .ref bk_head, .ref bk_hinder, .ref bk_size, .ref bk_walk, .ref bk_draught, .ref bk_doorIn, .ref bk_fanIn, .ref bk_faceIn, .int (nI bn), .int bk_day, .ref gr])), (bk_tail, .inl (k_bk_tail, 14, .inl f_bk_tail)), (bk_head, .inl (k_bk_head, 14, .inl f_bk_head)), (st_fallen, .inl (k_st_fallen, 14, .inl f_st_fallen)), (bk_walk, .inl (k_bk_walk, 14, .inl f_bk_walk)), (fl_smokeAt, .inl (k_fl_smokeAt, 14, .inl f_fl_smokeAt)), (fl_reach, .inl (k_fl_reach, 10, .inl f_fl_reach)), (fl_route, .inl (k_fl_route, 11, .inl f_fl_route))] sz) [(fl, .inr (1, [.int (nI mm), .ref fl_knotOf, .ref fl_smokeAt, .ref fl_reach, .ref fl_route, .ref bk, .ref st, .ref fl_smokeIn])), (st, .inr (9, [.ref st_open, .ref st_speed, .ref st_fallen, .ref st_fire, .int st_mark, .int st_moreIn, .int st_more, .ref bk])), (bk, .inr (0, [.int (nI bw), .ref bk_tail, .ref bk_head, .ref bk_hinder, .ref bk_size, .ref bk_walk, .ref bk_draught, .ref bk_doorIn, .ref bk_fanIn, .ref bk_faceIn, .int (nI bn), .int bk_day, .ref gr])), (bk_tail, .inl (k_bk_tail, 14, .inl f_bk_tail)), (bk_head, .inl (k_bk_head, 14, .inl f_bk_head)), (st_fallen, .inl (k_st_fallen, 14, .inl f_st_fallen)), (bk_walk, .inl (k_bk_walk, 14, .inl f_bk_walk)), (fl_smokeAt, .inl (k_fl_smokeAt, 14, .inl f_fl_smokeAt)), (fl_reach, .inl (k_fl_reach, 10, .inl f_fl_reach)), (fl_route, .inl (k_fl_route, 11, .inl ro9))]) (va_A [(fl, .inr (1, [.int (nI mm), .ref fl_knotOf, .ref fl_smokeAt, .ref fl_reach, .ref fl_route, .ref bk, .ref st, .ref fl_smokeIn])), (st, .inr (9, [.ref st_open, .ref st_speed, .ref st_fallen, .ref st_fire, .int st_mark, .int st_moreIn, .int st_more, .ref bk])), (bk, .inr (0, [.int (nI bw), .ref bk_tail, .ref bk_head, .ref bk_hinder, .ref bk_size, .ref bk_walk, .ref bk_draught, .ref bk_doorIn, .ref bk_fanIn, .ref bk_faceIn, .int (nI bn), .int bk_day, .ref gr])), (bk_tail, .inl (k_bk_tail, 14, .inl f_bk_tail)), (bk_head, .inl (k_bk_head, 14, .inl f_bk_head)), (st_fallen, .inl (k_st_fallen, 14, .inl f_st_fallen)), (bk_walk, .inl (k_bk_walk, 14, .inl f_bk_walk)), (fl_smokeAt, .inl (k_fl_smokeAt, 14, .inl f_fl_smokeAt)), (fl_reach, .inl (k_fl_reach, 10, .inl f_fl_reach)), (fl_route, .inl (k_fl_route, 11, .inl f_fl_route))] sz)) 0 0 (va_A [(fl, .inr (1, [.int (nI mm), .ref fl_knotOf, .ref fl_smokeAt, .ref fl_reach, .ref fl_route, .ref bk, .ref st, .ref fl_smokeIn])), (st, .inr (9, [.ref st_open, .ref st_speed, .ref st_fallen, .ref st_fire, .int st_mark, .int st_moreIn, .int st_more, .ref bk])), (bk, .inr (0, [.int (nI bw), .ref bk_tail, .ref bk_head, .ref bk_hinder, .ref bk_size, .ref bk_walk, .ref bk_draught, .ref bk_doorIn, .ref bk_fanIn, .ref bk_faceIn, .int (nI bn), .int bk_day, .ref gr])), (bk_tail, .inl (k_bk_tail, 14, .inl f_bk_tail)), (bk_head, .inl (k_bk_head, 14, .inl f_bk_head)), (st_fallen, .inl (k_st_fallen, 14, .inl f_st_fallen)), (bk_walk, .inl (k_bk_walk, 14, .inl f_bk_walk)), (fl_smokeAt, .inl (k_fl_smokeAt, 14, .inl f_fl_smokeAt)), (fl_reach, .inl (k_fl_reach, 10, .inl f_fl_reach)), (fl_route, .inl (k_fl_route, 11, .inl f_fl_route))] sz) := by
  refine Met.ofW (cc := cX1_traceBack) (maxL := 5) (ret := (some .int)) (by decide) rfl ?_
  intro p e s m args below meth c s₁ B hml hv
  obtain ⟨rfl, hsz, hn0, hG, hP, hK, hD0⟩ := hv
  have hx := B.exec
  have hb := B.bytes
  have hr := B.returns
  have hts := atoms_spec (ws := wM yX1_traceBack cX1_traceBack 5 (some .int)) B.pre
  have hown : s.vm.findClass RX1 = some m.cls := findClass_of_methodNamed B.named
  have hlocks := B.notSynchronized
  subst hsz
  have hD := hD0.self (sz := s.heap.size)
  have hA0 := vA_n0 hD0 hn0
  generalize hAe : va_A [(fl, .inr (1, [.int (nI mm), .ref fl_knotOf, .ref fl_smokeAt, .ref fl_reach, .ref fl_route, .ref bk, .ref st, .ref fl_smokeIn])), (st, .inr (9, [.ref st_open, .ref st_speed, .ref st_fallen, .ref st_fire, .int st_mark, .int st_moreIn, .int st_more, .ref bk])), (bk, .inr (0, [.int (nI bw), .ref bk_tail, .ref bk_head, .ref bk_hinder, .ref bk_size, .ref bk_walk, .ref bk_draught, .ref bk_doorIn, .ref bk_fanIn, .ref bk_faceIn, .int (nI bn), .int bk_day, .ref gr])), (bk_tail, .inl (k_bk_tail, 14, .inl f_bk_tail)), (bk_head, .inl (k_bk_head, 14, .inl f_bk_head)), (st_fallen, .inl (k_st_fallen, 14, .inl f_st_fallen)), (bk_walk, .inl (k_bk_walk, 14, .inl f_bk_walk)), (fl_smokeAt, .inl (k_fl_smokeAt, 14, .inl f_fl_smokeAt)), (fl_reach, .inl (k_fl_reach, 10, .inl f_fl_reach)), (fl_route, .inl (k_fl_route, 11, .inl f_fl_route))] s.heap.size = A at hD hA0 ⊢
  have hA : ∀ q : Nat, s.heap.size ≤ q → A q := fun q h => by rw [← hAe]; exact Or.inr h
  have hS : va_S A s.heap s.heap [] := va_S.rf
  have hl := lv_entry ([.ref fl, .int kn]) (n := 5) (Nat.le_of_ble_eq_true rfl)
  rw [lg_entry_eq]
  generalize (lg_sl ([.ref fl, .int kn]) ++ List.replicate (5 - (lg_sl ([.ref fl, .int kn])).length) Slot.unset).toArray = ls at hl ⊢
  have hl : lv_has ls 5 [(0, .ref fl), (1, .int kn)] := hl
  refine lv_iconst (v := 0) hx hb dX1_traceBack_0 (by decide) ?_
  refine lv_istore_n (lv' := [(2, .int 0), (0, .ref fl), (1, .int kn)]) hx hb dX1_traceBack_1 rfl hl (by decide) rfl (fun ls hl => ?_)
  refine lv_aload_n hx hb dX1_traceBack_2 rfl (lv_at hl 1 rfl) ?_
  refine va_get (D := (dC, dI)) (ci := 1) (v := .ref fl_route) (C := RX1) (T := TX1) (N := 8) hx hb hts (fun w h => wM_c (iX1 w h)) hown hK hP 0 rfl rfl 4 (by decide) (hts _ (wM_c wd_621)) (fun _ h9 => h9) rfl dX1_traceBack_3 ?_
  refine lv_iconst (v := 0) hx hb dX1_traceBack_6 (by decide) ?_
  refine lv_aload_n hx hb dX1_traceBack_7 rfl (lv_at hl 1 rfl) ?_
  refine va_get (D := (dC, dI)) (ci := 1) (v := .ref bk) (C := RX1) (T := TX1) (N := 8) hx hb hts (fun w h => wM_c (iX1 w h)) hown hK hP 0 rfl rfl 5 (by decide) (hts _ (wM_c wd_623)) (fun _ h9 => h9) rfl dX1_traceBack_8 ?_
  refine va_get (D := (dC, dI)) (ci := 0) (v := .int bk_day) (C := RX0) (T := TX0) (N := 13) hx hb hts (fun w h => wM_c (iX0 w h)) hown hK hP 2 rfl rfl 11 (by decide) (hts _ (wM_c wd_290)) (fun _ h9 => h9) rfl dX1_traceBack_11 ?_
  refine va_iast hx hb hK hP hD hS 9 6 rfl rfl (by unfold vp_in; decide) dX1_traceBack_14 (fun H locs hP hD hS => ?_)
  obtain ⟨f_1, ef_1⟩ : ∃ f9, f9 = (upd f_fl_route (0 : Int32).toNatClampNeg bk_day) := ⟨_, rfl⟩
  obtain ⟨hP, hD⟩ : s3_w (dC, dI) classes A [(fl, .inr (1, [.int (nI mm), .ref fl_knotOf, .ref fl_smokeAt, .ref fl_reach, .ref fl_route, .ref bk, .ref st, .ref fl_smokeIn])), (st, .inr (9, [.ref st_open, .ref st_speed, .ref st_fallen, .ref st_fire, .int st_mark, .int st_moreIn, .int st_more, .ref bk])), (bk, .inr (0, [.int (nI bw), .ref bk_tail, .ref bk_head, .ref bk_hinder, .ref bk_size, .ref bk_walk, .ref bk_draught, .ref bk_doorIn, .ref bk_fanIn, .ref bk_faceIn, .int (nI bn), .int bk_day, .ref gr])), (bk_tail, .inl (k_bk_tail, 14, .inl f_bk_tail)), (bk_head, .inl (k_bk_head, 14, .inl f_bk_head)), (st_fallen, .inl (k_st_fallen, 14, .inl f_st_fallen)), (bk_walk, .inl (k_bk_walk, 14, .inl f_bk_walk)), (fl_smokeAt, .inl (k_fl_smokeAt, 14, .inl f_fl_smokeAt)), (fl_reach, .inl (k_fl_reach, 10, .inl f_fl_reach)), (fl_route, .inl (k_fl_route, 11, .inl f_1))] H := ⟨(by rw [ef_1]; exact hP), (by rw [ef_1]; exact hD)⟩
  have hr_2 : rg f_1 11 0 10 := by rw [ef_1]; exact rg_upd q_ro ⟨by omega, by omega⟩
  refine lv_iconst (v := 0) hx hb dX1_traceBack_15 (by decide) ?_
  refine lv_istore_n (lv' := [(3, .int 0), (2, .int 0), (0, .ref fl), (1, .int kn)]) hx hb dX1_traceBack_16 rfl hl (by decide) rfl (fun ls hl => ?_)
  refine W_lp3 (I := fun (s1 : Nat) (i1 : Nat) (ro1 : Nat → Int32) H locs ls => (i1 ≤ 10 ∧ s1 ≤ i1) ∧ (rg ro1 11 0 10) ∧ va_P (dC, dI) classes [(fl, .inr (1, [.int (nI mm), .ref fl_knotOf, .ref fl_smokeAt, .ref fl_reach, .ref fl_route, .ref bk, .ref st, .ref fl_smokeIn])), (st, .inr (9, [.ref st_open, .ref st_speed, .ref st_fallen, .ref st_fire, .int st_mark, .int st_moreIn, .int st_more, .ref bk])), (bk, .inr (0, [.int (nI bw), .ref bk_tail, .ref bk_head, .ref bk_hinder, .ref bk_size, .ref bk_walk, .ref bk_draught, .ref bk_doorIn, .ref bk_fanIn, .ref bk_faceIn, .int (nI bn), .int bk_day, .ref gr])), (bk_tail, .inl (k_bk_tail, 14, .inl f_bk_tail)), (bk_head, .inl (k_bk_head, 14, .inl f_bk_head)), (st_fallen, .inl (k_st_fallen, 14, .inl f_st_fallen)), (bk_walk, .inl (k_bk_walk, 14, .inl f_bk_walk)), (fl_smokeAt, .inl (k_fl_smokeAt, 14, .inl f_fl_smokeAt)), (fl_reach, .inl (k_fl_reach, 10, .inl f_fl_reach)), (fl_route, .inl (k_fl_route, 11, .inl ro1))] H ∧ va_D A [(fl, .inr (1, [.int (nI mm), .ref fl_knotOf, .ref fl_smokeAt, .ref fl_reach, .ref fl_route, .ref bk, .ref st, .ref fl_smokeIn])), (st, .inr (9, [.ref st_open, .ref st_speed, .ref st_fallen, .ref st_fire, .int st_mark, .int st_moreIn, .int st_more, .ref bk])), (bk, .inr (0, [.int (nI bw), .ref bk_tail, .ref bk_head, .ref bk_hinder, .ref bk_size, .ref bk_walk, .ref bk_draught, .ref bk_doorIn, .ref bk_fanIn, .ref bk_faceIn, .int (nI bn), .int bk_day, .ref gr])), (bk_tail, .inl (k_bk_tail, 14, .inl f_bk_tail)), (bk_head, .inl (k_bk_head, 14, .inl f_bk_head)), (st_fallen, .inl (k_st_fallen, 14, .inl f_st_fallen)), (bk_walk, .inl (k_bk_walk, 14, .inl f_bk_walk)), (fl_smokeAt, .inl (k_fl_smokeAt, 14, .inl f_fl_smokeAt)), (fl_reach, .inl (k_fl_reach, 10, .inl f_fl_reach)), (fl_route, .inl (k_fl_route, 11, .inl ro1))] ∧ va_S A s.heap H locs ∧ lv_has ls 5 [(0, .ref fl), (1, .int kn), (2, .int (nI s1)), (3, .int (nI i1))]) (μ := fun (s1 : Nat) (i1 : Nat) (ro1 : Nat → Int32) => 10 - i1) ?_ 0 0 f_1 _ _ _ ⟨(by first | with_reducible assumption | omega | exact vp_in_iff.mpr (by omega) | exact vp_in_nI (by omega) (by omega) | exact ⟨by omega, by omega⟩), (by first | with_reducible assumption | omega | exact vp_in_iff.mpr (by omega) | exact vp_in_nI (by omega) (by omega) | exact ⟨by omega, by omega⟩), hP, hD, hS, lv_sub hl [2, 3, 1, 0] rfl⟩
  intro s1 i1 ro1 H locs ls hI ih_3
  obtain ⟨hi1, hro1, hP, hD, hS, hl⟩ := hI
  refine lv_iload_n hx hb dX1_traceBack_17 rfl (lv_at hl 3 rfl) ?_
  refine lv_bipush (v := 10) hx hb dX1_traceBack_18 (by decide) ?_
  refine lv_icmp_ge (tgt := 70) hx hb dX1_traceBack_20 (by decide) (fun c_4 => ?_) (fun c_4 => ?_)
  · skip
    have g_5 := n_ge (a := i1) (b := 10) c_4 (by omega) (by omega)
    refine lv_iload_n hx hb dX1_traceBack_70 rfl (lv_at hl 2 rfl) ?_
    have hK9 := hK.sub (tys' := [(k_bk_tail, .int), (k_bk_head, .int), (k_st_fallen, .boolean), (k_bk_walk, .int), (k_fl_smokeAt, .int), (k_fl_reach, .int), (k_fl_route, .int)]) [0, 1, 2, 3, 4, 5, 6] rfl
    exact W.iret (v := (nI s1)) hx hb hr (fun t ht hW => ⟨⟨(nI s1), (), rfl, (by dsimp only; rw [nI_toInt (by omega)]; omega), ro1, (by assumption), by rw [ht]; exact hP.sub [0, 1, 2, 3, 4, 5, 6, 7, 8, 9] rfl, va_K.moved hW.alike hK9, hD.sub [0, 1, 2, 3, 4, 5, 6, 7, 8, 9] (by decide) rfl⟩, hS.F ht⟩) hS.2.2 dX1_traceBack_71
  · skip
    have g_6 := n_nge (a := i1) (b := 10) c_4 (by omega) (by omega)
    refine lv_aload_n hx hb dX1_traceBack_23 rfl (lv_at hl 0 rfl) ?_
    refine va_get (D := (dC, dI)) (ci := 1) (v := .ref fl_route) (C := RX1) (T := TX1) (N := 8) hx hb hts (fun w h => wM_c (iX1 w h)) hown hK hP 0 rfl rfl 4 (by decide) (hts _ (wM_c wd_621)) (fun _ h9 => h9) rfl dX1_traceBack_24 ?_
    refine lv_iload_n hx hb dX1_traceBack_27 rfl (lv_at hl 2 rfl) ?_
    refine va_iald hx hb hK hP 9 6 rfl rfl (vp_in_nI (n := s1) (by omega) (by omega)) dX1_traceBack_28 ?_
    refine lv_topi (fun v_7 ev_7 => ?_)
    have nv_7 : v_7 = ro1 s1 := by rw [ev_7]; exact congrArg _ (nI_clamp (by omega))
    have g_8 : 0 ≤ v_7.toInt ∧ v_7.toInt < 10 := by rw [ev_7]; exact rg_in hro1 (by omega) (by omega)
    refine lv_iload_n hx hb dX1_traceBack_29 rfl (lv_at hl 1 rfl) ?_
    refine lv_icmp_eq (tgt := 70) hx hb dX1_traceBack_30 (by decide) (fun c_9 => ?_) (fun c_9 => ?_)
    · skip
      have g_10 : v_7.toInt = kn.toInt := i_eq c_9
      refine lv_iload_n hx hb dX1_traceBack_70 rfl (lv_at hl 2 rfl) ?_
      have hK9 := hK.sub (tys' := [(k_bk_tail, .int), (k_bk_head, .int), (k_st_fallen, .boolean), (k_bk_walk, .int), (k_fl_smokeAt, .int), (k_fl_reach, .int), (k_fl_route, .int)]) [0, 1, 2, 3, 4, 5, 6] rfl
      exact W.iret (v := (nI s1)) hx hb hr (fun t ht hW => ⟨⟨(nI s1), (), rfl, (by dsimp only; rw [nI_toInt (by omega)]; omega), ro1, (by assumption), by rw [ht]; exact hP.sub [0, 1, 2, 3, 4, 5, 6, 7, 8, 9] rfl, va_K.moved hW.alike hK9, hD.sub [0, 1, 2, 3, 4, 5, 6, 7, 8, 9] (by decide) rfl⟩, hS.F ht⟩) hS.2.2 dX1_traceBack_71
    · skip
      have g_11 : v_7.toInt ≠ kn.toInt := i_ne c_9
      refine lv_aload_n hx hb dX1_traceBack_33 rfl (lv_at hl 0 rfl) ?_
      refine lv_aload_n hx hb dX1_traceBack_34 rfl (lv_at hl 0 rfl) ?_
      refine va_get (D := (dC, dI)) (ci := 1) (v := .ref fl_route) (C := RX1) (T := TX1) (N := 8) hx hb hts (fun w h => wM_c (iX1 w h)) hown hK hP 0 rfl rfl 4 (by decide) (hts _ (wM_c wd_621)) (fun _ h9 => h9) rfl dX1_traceBack_35 ?_
      refine lv_iload_n hx hb dX1_traceBack_38 rfl (lv_at hl 2 rfl) ?_
      refine va_iald hx hb hK hP 9 6 rfl rfl (vp_in_nI (n := s1) (by omega) (by omega)) dX1_traceBack_39 ?_
      refine lv_topi (fun v_12 ev_12 => ?_)
      have nv_12 : v_12 = ro1 s1 := by rw [ev_12]; exact congrArg _ (nI_clamp (by omega))
      have g_13 : 0 ≤ v_12.toInt ∧ v_12.toInt < 10 := by rw [ev_12]; exact rg_in hro1 (by omega) (by omega)
      obtain ⟨hPc, hDc, hFc⟩ := s3_c (ws' := [(fl, .inr (1, [.int (nI mm), .ref fl_knotOf, .ref fl_smokeAt, .ref fl_reach, .ref fl_route, .ref bk, .ref st, .ref fl_smokeIn])), (st, .inr (9, [.ref st_open, .ref st_speed, .ref st_fallen, .ref st_fire, .int st_mark, .int st_moreIn, .int st_more, .ref bk])), (bk, .inr (0, [.int (nI bw), .ref bk_tail, .ref bk_head, .ref bk_hinder, .ref bk_size, .ref bk_walk, .ref bk_draught, .ref bk_doorIn, .ref bk_fanIn, .ref bk_faceIn, .int (nI bn), .int bk_day, .ref gr])), (bk_tail, .inl (k_bk_tail, 14, .inl f_bk_tail)), (bk_head, .inl (k_bk_head, 14, .inl f_bk_head)), (st_fallen, .inl (k_st_fallen, 14, .inl f_st_fallen)), (bk_walk, .inl (k_bk_walk, 14, .inl f_bk_walk)), (fl_smokeAt, .inl (k_fl_smokeAt, 14, .inl f_fl_smokeAt)), (fl_reach, .inl (k_fl_reach, 10, .inl f_fl_reach))]) [0, 1, 2, 3, 4, 5, 6, 7, 8] hP hD hS hA rfl (by decide)
      have hKc := hK.sub (tys' := [(k_bk_tail, .int), (k_bk_head, .int), (k_st_fallen, .boolean), (k_bk_walk, .int), (k_fl_smokeAt, .int), (k_fl_reach, .int)]) [0, 1, 2, 3, 4, 5] rfl
      refine va_calli (va_runV (As := [.int v_12]) (rest := []) ⟨hx, hb, hml, hown, hts⟩ (c1_knotBefore l dC dI n0 atx H.size fl mm fl_knotOf fl_smokeAt fl_reach fl_route bk st fl_smokeIn st_open st_speed st_fallen st_fire st_mark st_moreIn st_more bw bk_tail bk_head bk_hinder bk_size bk_walk bk_draught bk_doorIn bk_fanIn bk_faceIn bn bk_day gr k_bk_tail f_bk_tail k_bk_head f_bk_head k_st_fallen f_st_fallen k_bk_walk f_bk_walk k_fl_smokeAt f_fl_smokeAt k_fl_reach f_fl_reach v_12 (by first | with_reducible assumption | omega | exact vp_in_iff.mpr (by omega) | exact vp_in_nI (by omega) (by omega) | exact ⟨by omega, by omega⟩) (by first | with_reducible assumption | omega | exact vp_in_iff.mpr (by omega) | exact vp_in_nI (by omega) (by omega) | exact ⟨by omega, by omega⟩) (by first | with_reducible assumption | omega | exact vp_in_iff.mpr (by omega) | exact vp_in_nI (by omega) (by omega) | exact ⟨by omega, by omega⟩) (by first | with_reducible assumption | omega | exact vp_in_iff.mpr (by omega) | exact vp_in_nI (by omega) (by omega) | exact ⟨by omega, by omega⟩) (by first | with_reducible assumption | omega | exact vp_in_iff.mpr (by omega) | exact vp_in_nI (by omega) (by omega) | exact ⟨by omega, by omega⟩) (by first | with_reducible assumption | omega | exact vp_in_iff.mpr (by omega) | exact vp_in_nI (by omega) (by omega) | exact ⟨by omega, by omega⟩)) (cwV 1 hts (gV (fun w h => wM_c h) wd_1412 wd_1409 wd_1411 wd_58 wd_124) rfl rfl rfl (by decide +kernel) ⟨Nat.le_of_ble_eq_true rfl, Nat.le_of_ble_eq_true rfl⟩) ⟨fun a U g mk q => by obtain ⟨q0, q1, q2, qG, qP, qK, qD⟩ := q; exact ⟨q0, q1, q2, GW.blind qG, qP, va_K.moved (u := U) (U := U.calling g mk a) (Vm.Alike.refl U.vm) qK, qD⟩, va_recv hKc hPc (ci := 1) (q0 := 0) rfl rfl, fun U hU hW => ⟨rfl, by rw [hU], Nat.le_trans hn0 hS.1, GW.go hW hU hG (fun q hq hA9 => hS.2.1 q hq (fun h => hA9 (hA0 q h))), by rw [hU]; exact hPc, va_K.moved hW.alike hKc, hDc.weaken (fun _ _ _ h => hA0 _ h)⟩⟩ rfl rfl hl.1 rfl (lv_room (Nat.le_of_ble_eq_true rfl)) dX1_traceBack_40 ⟨Nat.le_of_ble_eq_true rfl, Nat.le_of_ble_eq_true rfl⟩) hS (fun q _ h => hFc q h) hFc (fun r_14 u t H1 locs ht hvm hw_15 hB hz1 hk1 hS => ?_)
      obtain ⟨hP1, hK1, hD1⟩ := hB
      rw [ht] at hP1
      obtain ⟨hP, hD⟩ := s3_j (L := [(fl_route, .inl (k_fl_route, 11, .inl ro1)), (fl, .inr (1, [.int (nI mm), .ref fl_knotOf, .ref fl_smokeAt, .ref fl_reach, .ref fl_route, .ref bk, .ref st, .ref fl_smokeIn])), (st, .inr (9, [.ref st_open, .ref st_speed, .ref st_fallen, .ref st_fire, .int st_mark, .int st_moreIn, .int st_more, .ref bk])), (bk, .inr (0, [.int (nI bw), .ref bk_tail, .ref bk_head, .ref bk_hinder, .ref bk_size, .ref bk_walk, .ref bk_draught, .ref bk_doorIn, .ref bk_fanIn, .ref bk_faceIn, .int (nI bn), .int bk_day, .ref gr])), (bk_tail, .inl (k_bk_tail, 14, .inl f_bk_tail)), (bk_head, .inl (k_bk_head, 14, .inl f_bk_head)), (st_fallen, .inl (k_st_fallen, 14, .inl f_st_fallen)), (bk_walk, .inl (k_bk_walk, 14, .inl f_bk_walk)), (fl_smokeAt, .inl (k_fl_smokeAt, 14, .inl f_fl_smokeAt)), (fl_reach, .inl (k_fl_reach, 10, .inl f_fl_reach))]) 1 hP hD [0, 1, 2, 3, 4, 5, 6, 7, 8] [9] hk1 hFc hP1 hD1 rfl rfl rfl (by decide) (by decide)
      generalize H1 = H at hP hS ⊢
      refine lv_istore (lv' := [(4, .int r_14), (0, .ref fl), (1, .int kn), (2, .int (nI s1)), (3, .int (nI i1))]) hx hb dX1_traceBack_43 hl (by decide) rfl (fun ls hl => ?_)
      refine lv_iload hx hb dX1_traceBack_45 (lv_at hl 0 rfl) ?_
      refine lv_iconst (v := (-1)) hx hb dX1_traceBack_47 (by decide) ?_
      refine lv_icmp_ne (tgt := 53) hx hb dX1_traceBack_48 (by decide) (fun c_16 => ?_) (fun c_16 => ?_)
      · skip
        have g_17 : r_14.toInt ≠ (-1 : Int) := i_ne c_16
        refine lv_iinc (v := (nI (s1 + 1))) (lv' := [(2, .int (nI (s1 + 1))), (4, .int r_14), (0, .ref fl), (1, .int kn), (3, .int (nI i1))]) hx hb dX1_traceBack_53 hl (k := 3) rfl (nI_add _ 1) (by decide) rfl (fun ls hl => ?_)
        refine lv_aload_n hx hb dX1_traceBack_56 rfl (lv_at hl 2 rfl) ?_
        refine va_get (D := (dC, dI)) (ci := 1) (v := .ref fl_route) (C := RX1) (T := TX1) (N := 8) hx hb hts (fun w h => wM_c (iX1 w h)) hown hK hP 1 rfl rfl 4 (by decide) (hts _ (wM_c wd_621)) (fun _ h9 => h9) rfl dX1_traceBack_57 ?_
        refine lv_iload_n hx hb dX1_traceBack_60 rfl (lv_at hl 0 rfl) ?_
        refine lv_iload hx hb dX1_traceBack_61 (lv_at hl 1 rfl) ?_
        refine va_iast hx hb hK hP hD hS 0 6 rfl rfl (vp_in_nI (n := (s1 + 1)) (by omega) (by omega)) dX1_traceBack_63 (fun H locs hP hD hS => ?_)
        obtain ⟨f_18, ef_18⟩ : ∃ f9, f9 = (upd ro1 (nI (s1 + 1)).toNatClampNeg r_14) := ⟨_, rfl⟩
        obtain ⟨hP, hD⟩ : s3_w (dC, dI) classes A [(fl_route, .inl (k_fl_route, 11, .inl f_18)), (fl, .inr (1, [.int (nI mm), .ref fl_knotOf, .ref fl_smokeAt, .ref fl_reach, .ref fl_route, .ref bk, .ref st, .ref fl_smokeIn])), (st, .inr (9, [.ref st_open, .ref st_speed, .ref st_fallen, .ref st_fire, .int st_mark, .int st_moreIn, .int st_more, .ref bk])), (bk, .inr (0, [.int (nI bw), .ref bk_tail, .ref bk_head, .ref bk_hinder, .ref bk_size, .ref bk_walk, .ref bk_draught, .ref bk_doorIn, .ref bk_fanIn, .ref bk_faceIn, .int (nI bn), .int bk_day, .ref gr])), (bk_tail, .inl (k_bk_tail, 14, .inl f_bk_tail)), (bk_head, .inl (k_bk_head, 14, .inl f_bk_head)), (st_fallen, .inl (k_st_fallen, 14, .inl f_st_fallen)), (bk_walk, .inl (k_bk_walk, 14, .inl f_bk_walk)), (fl_smokeAt, .inl (k_fl_smokeAt, 14, .inl f_fl_smokeAt)), (fl_reach, .inl (k_fl_reach, 10, .inl f_fl_reach))] H := ⟨(by rw [ef_18]; exact hP), (by rw [ef_18]; exact hD)⟩
        have hr_19 : rg f_18 11 0 10 := by rw [ef_18]; exact rg_upd hro1 ⟨by omega, by omega⟩
        refine lv_iinc (v := (nI (i1 + 1))) (lv' := [(3, .int (nI (i1 + 1))), (2, .int (nI (s1 + 1))), (4, .int r_14), (0, .ref fl), (1, .int kn)]) hx hb dX1_traceBack_64 hl (k := 4) rfl (nI_add _ 1) (by decide) rfl (fun ls hl => ?_)
        refine lv_goto (tgt := 17) hx hb dX1_traceBack_67 (by decide) ?_
        exact ih_3 (s1 + 1) (i1 + 1) f_18 _ _ _ ⟨(by first | with_reducible assumption | omega | exact vp_in_iff.mpr (by omega) | exact vp_in_nI (by omega) (by omega) | exact ⟨by omega, by omega⟩), (by first | with_reducible assumption | omega | exact vp_in_iff.mpr (by omega) | exact vp_in_nI (by omega) (by omega) | exact ⟨by omega, by omega⟩), hP.sub [1, 2, 3, 4, 5, 6, 7, 8, 9, 0] rfl, hD.sub [1, 2, 3, 4, 5, 6, 7, 8, 9, 0] (by decide) rfl, hS, lv_sub hl [3, 4, 1, 0] rfl⟩ (by omega)
      · skip
        have g_20 : r_14.toInt = (-1 : Int) := i_eq c_16
        refine lv_iload_n hx hb dX1_traceBack_51 rfl (lv_at hl 3 rfl) ?_
        have hK9 := hK.sub (tys' := [(k_bk_tail, .int), (k_bk_head, .int), (k_st_fallen, .boolean), (k_bk_walk, .int), (k_fl_smokeAt, .int), (k_fl_reach, .int), (k_fl_route, .int)]) [0, 1, 2, 3, 4, 5, 6] rfl
        exact W.iret (v := (nI s1)) hx hb hr (fun t ht hW => ⟨⟨(nI s1), (), rfl, (by dsimp only; rw [nI_toInt (by omega)]; omega), ro1, (by assumption), by rw [ht]; exact hP.sub [1, 2, 3, 4, 5, 6, 7, 8, 9, 0] rfl, va_K.moved hW.alike hK9, hD.sub [1, 2, 3, 4, 5, 6, 7, 8, 9, 0] (by decide) rfl⟩, hS.F ht⟩) hS.2.2 dX1_traceBack_52
