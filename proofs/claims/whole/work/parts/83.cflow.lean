theorem wd_32 : Cond.selects "MineAir$Flow" (⟨"MineAir$Flow", "rankOf", "(II)J"⟩ : MethodName) (⟨"MineAir$Flow", "rankOf", "(II)J"⟩ : MethodName) ∈ wG := wG_of 32 (by decide +kernel) (by decide +kernel)
theorem wd_118 : Cond.initialized "MineAir$State" ∈ wG := wG_of 118 (by decide +kernel) (by decide +kernel)
theorem wd_120 : Cond.initialized "MineAir$Flow" ∈ wG := wG_of 120 (by decide +kernel) (by decide +kernel)
theorem wd_187 : Cond.fieldLink "MineAir$Flow" 96 "MineAir$Gear" "fanFall" "[I" ∈ wG := wG_of 187 (by decide +kernel) (by decide +kernel)
theorem wd_241 : Cond.fieldLink "MineAir$Flow" 60 "MineAir$Book" "ways" "I" ∈ wG := wG_of 241 (by decide +kernel) (by decide +kernel)
theorem wd_277 : Cond.fieldLink "MineAir$Flow" 82 "MineAir$Book" "fanIn" "[I" ∈ wG := wG_of 277 (by decide +kernel) (by decide +kernel)
theorem wd_297 : Cond.fieldLink "MineAir$Flow" 92 "MineAir$Book" "gear" "LMineAir$Gear;" ∈ wG := wG_of 297 (by decide +kernel) (by decide +kernel)
theorem wd_399 : Cond.fieldLink "MineAir$Flow" 101 "MineAir$State" "fallen" "[Z" ∈ wG := wG_of 399 (by decide +kernel) (by decide +kernel)
theorem wd_443 : Cond.fieldLink "MineAir$Flow" 9 "MineAir$Flow" "air" "[I" ∈ wG := wG_of 443 (by decide +kernel) (by decide +kernel)
theorem wd_447 : Cond.fieldLink "MineAir$Flow" 43 "MineAir$Flow" "book" "LMineAir$Book;" ∈ wG := wG_of 447 (by decide +kernel) (by decide +kernel)
theorem wd_448 : Cond.fieldLink "MineAir$Flow" 47 "MineAir$Flow" "state" "LMineAir$State;" ∈ wG := wG_of 448 (by decide +kernel) (by decide +kernel)
theorem wd_449 : Cond.fieldLink "MineAir$Flow" 15 "MineAir$Flow" "hindrance" "[J" ∈ wG := wG_of 449 (by decide +kernel) (by decide +kernel)
theorem wd_450 : Cond.fieldLink "MineAir$Flow" 19 "MineAir$Flow" "pull" "[J" ∈ wG := wG_of 450 (by decide +kernel) (by decide +kernel)
theorem wd_451 : Cond.fieldLink "MineAir$Flow" 22 "MineAir$Flow" "droop" "[J" ∈ wG := wG_of 451 (by decide +kernel) (by decide +kernel)
theorem wd_452 : Cond.fieldLink "MineAir$Flow" 25 "MineAir$Flow" "forth" "[J" ∈ wG := wG_of 452 (by decide +kernel) (by decide +kernel)
theorem wd_453 : Cond.fieldLink "MineAir$Flow" 28 "MineAir$Flow" "back" "[J" ∈ wG := wG_of 453 (by decide +kernel) (by decide +kernel)
theorem wd_909 : Cond.instanceMethod (⟨"MineAir$Flow", "clear", "()V"⟩ : MethodName) ∈ wG := wG_of 909 (by decide +kernel) (by decide +kernel)
theorem wd_910 : Cond.selects "MineAir$Flow" (⟨"MineAir$Flow", "clear", "()V"⟩ : MethodName) (⟨"MineAir$Flow", "clear", "()V"⟩ : MethodName) ∈ wG := wG_of 910 (by decide +kernel) (by decide +kernel)
theorem wd_911 : Cond.code (⟨"MineAir$Flow", "clear", "()V"⟩ : MethodName) prog_4_method_2_code 1 (Option.none : Option Jvm.ClassFile.FieldType) ∈ wG := wG_of 911 (by decide +kernel) (by decide +kernel)
theorem wd_912 : Cond.methodLink "MineAir$Flow" 51 (⟨"java/util/Arrays", "fill", "([II)V"⟩ : MethodName) ∈ wG := wG_of 912 (by decide +kernel) (by decide +kernel)
theorem wd_953 : Cond.instanceMethod (⟨"MineAir$State", "hindrance", "(I)I"⟩ : MethodName) ∈ wG := wG_of 953 (by decide +kernel) (by decide +kernel)
theorem wd_954 : Cond.selects "MineAir$State" (⟨"MineAir$State", "hindrance", "(I)I"⟩ : MethodName) (⟨"MineAir$State", "hindrance", "(I)I"⟩ : MethodName) ∈ wG := wG_of 954 (by decide +kernel) (by decide +kernel)
theorem wd_955 : Cond.code (⟨"MineAir$State", "hindrance", "(I)I"⟩ : MethodName) prog_11_method_3_code 5 (Option.some Jvm.ClassFile.FieldType.int) ∈ wG := wG_of 955 (by decide +kernel) (by decide +kernel)
theorem wd_1014 : Cond.methodLink "MineAir$Flow" 85 (⟨"MineAir$State", "hindrance", "(I)I"⟩ : MethodName) ∈ wG := wG_of 1014 (by decide +kernel) (by decide +kernel)
theorem wd_1015 : Cond.methodLink "MineAir$Flow" 90 (⟨"MineAir$State", "pull", "(I)I"⟩ : MethodName) ∈ wG := wG_of 1015 (by decide +kernel) (by decide +kernel)
theorem wd_1016 : Cond.instanceMethod (⟨"MineAir$State", "pull", "(I)I"⟩ : MethodName) ∈ wG := wG_of 1016 (by decide +kernel) (by decide +kernel)
theorem wd_1017 : Cond.selects "MineAir$State" (⟨"MineAir$State", "pull", "(I)I"⟩ : MethodName) (⟨"MineAir$State", "pull", "(I)I"⟩ : MethodName) ∈ wG := wG_of 1017 (by decide +kernel) (by decide +kernel)
theorem wd_1018 : Cond.code (⟨"MineAir$State", "pull", "(I)I"⟩ : MethodName) prog_11_method_4_code 4 (Option.some Jvm.ClassFile.FieldType.int) ∈ wG := wG_of 1018 (by decide +kernel) (by decide +kernel)
theorem wd_1019 : Cond.methodLink "MineAir$Flow" 105 (⟨"MineAir$Flow", "clear", "()V"⟩ : MethodName) ∈ wG := wG_of 1019 (by decide +kernel) (by decide +kernel)
theorem wd_1024 : Cond.constantLong "MineAir$Flow" 115 4611686018427387904 ∈ wG := wG_of 1024 (by decide +kernel) (by decide +kernel)
theorem wd_1025 : Cond.methodLink "MineAir$Flow" 78 (⟨"MineAir$Flow", "rankOf", "(II)J"⟩ : MethodName) ∈ wG := wG_of 1025 (by decide +kernel) (by decide +kernel)
theorem wd_1027 : Cond.instanceMethod (⟨"MineAir$Flow", "rankOf", "(II)J"⟩ : MethodName) ∈ wG := wG_of 1027 (by decide +kernel) (by decide +kernel)
theorem wd_1028 : Cond.code (⟨"MineAir$Flow", "rankOf", "(II)J"⟩ : MethodName) prog_4_method_6_code 11 (Option.some Jvm.ClassFile.FieldType.long) ∈ wG := wG_of 1028 (by decide +kernel) (by decide +kernel)
theorem wd_1029 : Cond.constantLong "MineAir$Flow" 108 2 ∈ wG := wG_of 1029 (by decide +kernel) (by decide +kernel)
theorem wd_1030 : Cond.constantLong "MineAir$Flow" 110 6 ∈ wG := wG_of 1030 (by decide +kernel) (by decide +kernel)
theorem wd_1031 : Cond.fieldLink "MineAir$Flow" 112 "MineAir$Flow" "THREES" "[I" ∈ wG := wG_of 1031 (by decide +kernel) (by decide +kernel)
theorem dX2_clear_0 : decode cX2_clear 0 = .ok (.aload_n 0, 1) := by decide +kernel
theorem dX2_clear_1 : decode cX2_clear 1 = .ok (.getfield 9, 3) := by decide +kernel
theorem dX2_clear_4 : decode cX2_clear 4 = .ok (.iconst 0, 1) := by decide +kernel
theorem dX2_clear_5 : decode cX2_clear 5 = .ok (.invokestatic 51, 3) := by decide +kernel
theorem dX2_clear_8 : decode cX2_clear 8 = .ok (.return_, 1) := by decide +kernel
theorem dX2_rankOf_0 : decode cX2_rankOf 0 = .ok (.iload_n 2, 1) := by decide +kernel
theorem dX2_rankOf_1 : decode cX2_rankOf 1 = .ok (.ifCond .ge 9, 3) := by decide +kernel
theorem dX2_rankOf_4 : decode cX2_rankOf 4 = .ok (.iload_n 2, 1) := by decide +kernel
theorem dX2_rankOf_5 : decode cX2_rankOf 5 = .ok (.ineg, 1) := by decide +kernel
theorem dX2_rankOf_6 : decode cX2_rankOf 6 = .ok (.i2l, 1) := by decide +kernel
theorem dX2_rankOf_7 : decode cX2_rankOf 7 = .ok (.goto 5, 3) := by decide +kernel
theorem dX2_rankOf_10 : decode cX2_rankOf 10 = .ok (.iload_n 2, 1) := by decide +kernel
theorem dX2_rankOf_11 : decode cX2_rankOf 11 = .ok (.i2l, 1) := by decide +kernel
theorem dX2_rankOf_12 : decode cX2_rankOf 12 = .ok (.lstore_n 3, 1) := by decide +kernel
theorem dX2_rankOf_13 : decode cX2_rankOf 13 = .ok (.lload_n 3, 1) := by decide +kernel
theorem dX2_rankOf_14 : decode cX2_rankOf 14 = .ok (.lload_n 3, 1) := by decide +kernel
theorem dX2_rankOf_15 : decode cX2_rankOf 15 = .ok (.lconst 1, 1) := by decide +kernel
theorem dX2_rankOf_16 : decode cX2_rankOf 16 = .ok (.ladd, 1) := by decide +kernel
theorem dX2_rankOf_17 : decode cX2_rankOf 17 = .ok (.lmul, 1) := by decide +kernel
theorem dX2_rankOf_18 : decode cX2_rankOf 18 = .ok (.ldc2_w 108, 3) := by decide +kernel
theorem dX2_rankOf_21 : decode cX2_rankOf 21 = .ok (.lload_n 3, 1) := by decide +kernel
theorem dX2_rankOf_22 : decode cX2_rankOf 22 = .ok (.lmul, 1) := by decide +kernel
theorem dX2_rankOf_23 : decode cX2_rankOf 23 = .ok (.lconst 1, 1) := by decide +kernel
theorem dX2_rankOf_24 : decode cX2_rankOf 24 = .ok (.ladd, 1) := by decide +kernel
theorem dX2_rankOf_25 : decode cX2_rankOf 25 = .ok (.lmul, 1) := by decide +kernel
theorem dX2_rankOf_26 : decode cX2_rankOf 26 = .ok (.ldc2_w 110, 3) := by decide +kernel
theorem dX2_rankOf_29 : decode cX2_rankOf 29 = .ok (.ldiv, 1) := by decide +kernel
theorem dX2_rankOf_30 : decode cX2_rankOf 30 = .ok (.lstore 5, 2) := by decide +kernel
theorem dX2_rankOf_32 : decode cX2_rankOf 32 = .ok (.iload_n 2, 1) := by decide +kernel
theorem dX2_rankOf_33 : decode cX2_rankOf 33 = .ok (.i2l, 1) := by decide +kernel
theorem dX2_rankOf_34 : decode cX2_rankOf 34 = .ok (.iload_n 2, 1) := by decide +kernel
theorem dX2_rankOf_35 : decode cX2_rankOf 35 = .ok (.iconst 1, 1) := by decide +kernel
theorem dX2_rankOf_36 : decode cX2_rankOf 36 = .ok (.iadd, 1) := by decide +kernel
theorem dX2_rankOf_37 : decode cX2_rankOf 37 = .ok (.i2l, 1) := by decide +kernel
theorem dX2_rankOf_38 : decode cX2_rankOf 38 = .ok (.lmul, 1) := by decide +kernel
theorem dX2_rankOf_39 : decode cX2_rankOf 39 = .ok (.ldc2_w 108, 3) := by decide +kernel
theorem dX2_rankOf_42 : decode cX2_rankOf 42 = .ok (.ldiv, 1) := by decide +kernel
theorem dX2_rankOf_43 : decode cX2_rankOf 43 = .ok (.lstore 7, 2) := by decide +kernel
theorem dX2_rankOf_45 : decode cX2_rankOf 45 = .ok (.aload_n 0, 1) := by decide +kernel
theorem dX2_rankOf_46 : decode cX2_rankOf 46 = .ok (.getfield 15, 3) := by decide +kernel
theorem dX2_rankOf_49 : decode cX2_rankOf 49 = .ok (.iload_n 1, 1) := by decide +kernel
theorem dX2_rankOf_50 : decode cX2_rankOf 50 = .ok (.laload, 1) := by decide +kernel
theorem dX2_rankOf_51 : decode cX2_rankOf 51 = .ok (.lload 5, 2) := by decide +kernel
theorem dX2_rankOf_53 : decode cX2_rankOf 53 = .ok (.lmul, 1) := by decide +kernel
theorem dX2_rankOf_54 : decode cX2_rankOf 54 = .ok (.aload_n 0, 1) := by decide +kernel
theorem dX2_rankOf_55 : decode cX2_rankOf 55 = .ok (.getfield 19, 3) := by decide +kernel
theorem dX2_rankOf_58 : decode cX2_rankOf 58 = .ok (.iload_n 1, 1) := by decide +kernel
theorem dX2_rankOf_59 : decode cX2_rankOf 59 = .ok (.laload, 1) := by decide +kernel
theorem dX2_rankOf_60 : decode cX2_rankOf 60 = .ok (.iload_n 2, 1) := by decide +kernel
theorem dX2_rankOf_61 : decode cX2_rankOf 61 = .ok (.i2l, 1) := by decide +kernel
theorem dX2_rankOf_62 : decode cX2_rankOf 62 = .ok (.lmul, 1) := by decide +kernel
theorem dX2_rankOf_63 : decode cX2_rankOf 63 = .ok (.lsub, 1) := by decide +kernel
theorem dX2_rankOf_64 : decode cX2_rankOf 64 = .ok (.aload_n 0, 1) := by decide +kernel
theorem dX2_rankOf_65 : decode cX2_rankOf 65 = .ok (.getfield 22, 3) := by decide +kernel
theorem dX2_rankOf_68 : decode cX2_rankOf 68 = .ok (.iload_n 1, 1) := by decide +kernel
theorem dX2_rankOf_69 : decode cX2_rankOf 69 = .ok (.laload, 1) := by decide +kernel
theorem dX2_rankOf_70 : decode cX2_rankOf 70 = .ok (.lload 7, 2) := by decide +kernel
theorem dX2_rankOf_72 : decode cX2_rankOf 72 = .ok (.lmul, 1) := by decide +kernel
theorem dX2_rankOf_73 : decode cX2_rankOf 73 = .ok (.ladd, 1) := by decide +kernel
theorem dX2_rankOf_74 : decode cX2_rankOf 74 = .ok (.lstore 9, 2) := by decide +kernel
theorem dX2_rankOf_76 : decode cX2_rankOf 76 = .ok (.lload 9, 2) := by decide +kernel
theorem dX2_rankOf_78 : decode cX2_rankOf 78 = .ok (.bipush 28, 2) := by decide +kernel
theorem dX2_rankOf_80 : decode cX2_rankOf 80 = .ok (.lshl, 1) := by decide +kernel
theorem dX2_rankOf_81 : decode cX2_rankOf 81 = .ok (.getstatic 112, 3) := by decide +kernel
theorem dX2_rankOf_84 : decode cX2_rankOf 84 = .ok (.iload_n 1, 1) := by decide +kernel
theorem dX2_rankOf_85 : decode cX2_rankOf 85 = .ok (.iaload, 1) := by decide +kernel
theorem dX2_rankOf_86 : decode cX2_rankOf 86 = .ok (.i2l, 1) := by decide +kernel
theorem dX2_rankOf_87 : decode cX2_rankOf 87 = .ok (.lload_n 3, 1) := by decide +kernel
theorem dX2_rankOf_88 : decode cX2_rankOf 88 = .ok (.lmul, 1) := by decide +kernel
theorem dX2_rankOf_89 : decode cX2_rankOf 89 = .ok (.ladd, 1) := by decide +kernel
theorem dX2_rankOf_90 : decode cX2_rankOf 90 = .ok (.lreturn, 1) := by decide +kernel
theorem dX2_rate_0 : decode cX2_rate 0 = .ok (.aload_n 0, 1) := by decide +kernel
theorem dX2_rate_1 : decode cX2_rate 1 = .ok (.getfield 9, 3) := by decide +kernel
theorem dX2_rate_4 : decode cX2_rate 4 = .ok (.iload_n 1, 1) := by decide +kernel
theorem dX2_rate_5 : decode cX2_rate 5 = .ok (.iaload, 1) := by decide +kernel
theorem dX2_rate_6 : decode cX2_rate 6 = .ok (.istore_n 3, 1) := by decide +kernel
theorem dX2_rate_7 : decode cX2_rate 7 = .ok (.aload_n 0, 1) := by decide +kernel
theorem dX2_rate_8 : decode cX2_rate 8 = .ok (.getfield 47, 3) := by decide +kernel
theorem dX2_rate_11 : decode cX2_rate 11 = .ok (.getfield 101, 3) := by decide +kernel
theorem dX2_rate_14 : decode cX2_rate 14 = .ok (.iload_n 1, 1) := by decide +kernel
theorem dX2_rate_15 : decode cX2_rate 15 = .ok (.baload, 1) := by decide +kernel
theorem dX2_rate_16 : decode cX2_rate 16 = .ok (.ifCond .eq 22, 3) := by decide +kernel
theorem dX2_rate_19 : decode cX2_rate 19 = .ok (.aload_n 0, 1) := by decide +kernel
theorem dX2_rate_20 : decode cX2_rate 20 = .ok (.getfield 25, 3) := by decide +kernel
theorem dX2_rate_23 : decode cX2_rate 23 = .ok (.iload_n 1, 1) := by decide +kernel
theorem dX2_rate_24 : decode cX2_rate 24 = .ok (.ldc2_w 115, 3) := by decide +kernel
theorem dX2_rate_27 : decode cX2_rate 27 = .ok (.lastore, 1) := by decide +kernel
theorem dX2_rate_28 : decode cX2_rate 28 = .ok (.aload_n 0, 1) := by decide +kernel
theorem dX2_rate_29 : decode cX2_rate 29 = .ok (.getfield 28, 3) := by decide +kernel
theorem dX2_rate_32 : decode cX2_rate 32 = .ok (.iload_n 1, 1) := by decide +kernel
theorem dX2_rate_33 : decode cX2_rate 33 = .ok (.ldc2_w 115, 3) := by decide +kernel
theorem dX2_rate_36 : decode cX2_rate 36 = .ok (.lastore, 1) := by decide +kernel
theorem dX2_rate_37 : decode cX2_rate 37 = .ok (.return_, 1) := by decide +kernel
theorem dX2_rate_38 : decode cX2_rate 38 = .ok (.aload_n 0, 1) := by decide +kernel
theorem dX2_rate_39 : decode cX2_rate 39 = .ok (.iload_n 1, 1) := by decide +kernel
theorem dX2_rate_40 : decode cX2_rate 40 = .ok (.iload_n 3, 1) := by decide +kernel
theorem dX2_rate_41 : decode cX2_rate 41 = .ok (.invokevirtual 78, 3) := by decide +kernel
theorem dX2_rate_44 : decode cX2_rate 44 = .ok (.lstore 4, 2) := by decide +kernel
theorem dX2_rate_46 : decode cX2_rate 46 = .ok (.aload_n 0, 1) := by decide +kernel
theorem dX2_rate_47 : decode cX2_rate 47 = .ok (.getfield 25, 3) := by decide +kernel
theorem dX2_rate_50 : decode cX2_rate 50 = .ok (.iload_n 1, 1) := by decide +kernel
theorem dX2_rate_51 : decode cX2_rate 51 = .ok (.iload_n 3, 1) := by decide +kernel
theorem dX2_rate_52 : decode cX2_rate 52 = .ok (.iload_n 2, 1) := by decide +kernel
theorem dX2_rate_53 : decode cX2_rate 53 = .ok (.iadd, 1) := by decide +kernel
theorem dX2_rate_54 : decode cX2_rate 54 = .ok (.bipush 60, 2) := by decide +kernel
theorem dX2_rate_56 : decode cX2_rate 56 = .ok (.if_icmp .le 9, 3) := by decide +kernel
theorem dX2_rate_59 : decode cX2_rate 59 = .ok (.ldc2_w 115, 3) := by decide +kernel
theorem dX2_rate_62 : decode cX2_rate 62 = .ok (.goto 14, 3) := by decide +kernel
theorem dX2_rate_65 : decode cX2_rate 65 = .ok (.aload_n 0, 1) := by decide +kernel
theorem dX2_rate_66 : decode cX2_rate 66 = .ok (.iload_n 1, 1) := by decide +kernel
theorem dX2_rate_67 : decode cX2_rate 67 = .ok (.iload_n 3, 1) := by decide +kernel
theorem dX2_rate_68 : decode cX2_rate 68 = .ok (.iload_n 2, 1) := by decide +kernel
theorem dX2_rate_69 : decode cX2_rate 69 = .ok (.iadd, 1) := by decide +kernel
theorem dX2_rate_70 : decode cX2_rate 70 = .ok (.invokevirtual 78, 3) := by decide +kernel
theorem dX2_rate_73 : decode cX2_rate 73 = .ok (.lload 4, 2) := by decide +kernel
theorem dX2_rate_75 : decode cX2_rate 75 = .ok (.lsub, 1) := by decide +kernel
theorem dX2_rate_76 : decode cX2_rate 76 = .ok (.lastore, 1) := by decide +kernel
theorem dX2_rate_77 : decode cX2_rate 77 = .ok (.aload_n 0, 1) := by decide +kernel
theorem dX2_rate_78 : decode cX2_rate 78 = .ok (.getfield 28, 3) := by decide +kernel
theorem dX2_rate_81 : decode cX2_rate 81 = .ok (.iload_n 1, 1) := by decide +kernel
theorem dX2_rate_82 : decode cX2_rate 82 = .ok (.iload_n 3, 1) := by decide +kernel
theorem dX2_rate_83 : decode cX2_rate 83 = .ok (.iload_n 2, 1) := by decide +kernel
theorem dX2_rate_84 : decode cX2_rate 84 = .ok (.isub, 1) := by decide +kernel
theorem dX2_rate_85 : decode cX2_rate 85 = .ok (.bipush (-60), 2) := by decide +kernel
theorem dX2_rate_87 : decode cX2_rate 87 = .ok (.if_icmp .ge 9, 3) := by decide +kernel
theorem dX2_rate_90 : decode cX2_rate 90 = .ok (.ldc2_w 115, 3) := by decide +kernel
theorem dX2_rate_93 : decode cX2_rate 93 = .ok (.goto 14, 3) := by decide +kernel
theorem dX2_rate_96 : decode cX2_rate 96 = .ok (.aload_n 0, 1) := by decide +kernel
theorem dX2_rate_97 : decode cX2_rate 97 = .ok (.iload_n 1, 1) := by decide +kernel
theorem dX2_rate_98 : decode cX2_rate 98 = .ok (.iload_n 3, 1) := by decide +kernel
theorem dX2_rate_99 : decode cX2_rate 99 = .ok (.iload_n 2, 1) := by decide +kernel
theorem dX2_rate_100 : decode cX2_rate 100 = .ok (.isub, 1) := by decide +kernel
theorem dX2_rate_101 : decode cX2_rate 101 = .ok (.invokevirtual 78, 3) := by decide +kernel
theorem dX2_rate_104 : decode cX2_rate 104 = .ok (.lload 4, 2) := by decide +kernel
theorem dX2_rate_106 : decode cX2_rate 106 = .ok (.lsub, 1) := by decide +kernel
theorem dX2_rate_107 : decode cX2_rate 107 = .ok (.lastore, 1) := by decide +kernel
theorem dX2_rate_108 : decode cX2_rate 108 = .ok (.return_, 1) := by decide +kernel
theorem dX2_takeState_0 : decode cX2_takeState 0 = .ok (.iconst 0, 1) := by decide +kernel
theorem dX2_takeState_1 : decode cX2_takeState 1 = .ok (.istore_n 1, 1) := by decide +kernel
theorem dX2_takeState_2 : decode cX2_takeState 2 = .ok (.iconst 0, 1) := by decide +kernel
theorem dX2_takeState_3 : decode cX2_takeState 3 = .ok (.istore_n 2, 1) := by decide +kernel
theorem dX2_takeState_4 : decode cX2_takeState 4 = .ok (.iload_n 2, 1) := by decide +kernel
theorem dX2_takeState_5 : decode cX2_takeState 5 = .ok (.aload_n 0, 1) := by decide +kernel
theorem dX2_takeState_6 : decode cX2_takeState 6 = .ok (.getfield 43, 3) := by decide +kernel
theorem dX2_takeState_9 : decode cX2_takeState 9 = .ok (.getfield 60, 3) := by decide +kernel
theorem dX2_takeState_12 : decode cX2_takeState 12 = .ok (.if_icmp .ge 100, 3) := by decide +kernel
theorem dX2_takeState_15 : decode cX2_takeState 15 = .ok (.aload_n 0, 1) := by decide +kernel
theorem dX2_takeState_16 : decode cX2_takeState 16 = .ok (.getfield 43, 3) := by decide +kernel
theorem dX2_takeState_19 : decode cX2_takeState 19 = .ok (.getfield 82, 3) := by decide +kernel
theorem dX2_takeState_22 : decode cX2_takeState 22 = .ok (.iload_n 2, 1) := by decide +kernel
theorem dX2_takeState_23 : decode cX2_takeState 23 = .ok (.iaload, 1) := by decide +kernel
theorem dX2_takeState_24 : decode cX2_takeState 24 = .ok (.istore_n 3, 1) := by decide +kernel
theorem dX2_takeState_25 : decode cX2_takeState 25 = .ok (.aload_n 0, 1) := by decide +kernel
theorem dX2_takeState_26 : decode cX2_takeState 26 = .ok (.getfield 15, 3) := by decide +kernel
theorem dX2_takeState_29 : decode cX2_takeState 29 = .ok (.iload_n 2, 1) := by decide +kernel
theorem dX2_takeState_30 : decode cX2_takeState 30 = .ok (.aload_n 0, 1) := by decide +kernel
theorem dX2_takeState_31 : decode cX2_takeState 31 = .ok (.getfield 47, 3) := by decide +kernel
theorem dX2_takeState_34 : decode cX2_takeState 34 = .ok (.iload_n 2, 1) := by decide +kernel
theorem dX2_takeState_35 : decode cX2_takeState 35 = .ok (.invokevirtual 85, 3) := by decide +kernel
theorem dX2_takeState_38 : decode cX2_takeState 38 = .ok (.i2l, 1) := by decide +kernel
theorem dX2_takeState_39 : decode cX2_takeState 39 = .ok (.lastore, 1) := by decide +kernel
theorem dX2_takeState_40 : decode cX2_takeState 40 = .ok (.aload_n 0, 1) := by decide +kernel
theorem dX2_takeState_41 : decode cX2_takeState 41 = .ok (.getfield 19, 3) := by decide +kernel
theorem dX2_takeState_44 : decode cX2_takeState 44 = .ok (.iload_n 2, 1) := by decide +kernel
theorem dX2_takeState_45 : decode cX2_takeState 45 = .ok (.aload_n 0, 1) := by decide +kernel
theorem dX2_takeState_46 : decode cX2_takeState 46 = .ok (.getfield 47, 3) := by decide +kernel
theorem dX2_takeState_49 : decode cX2_takeState 49 = .ok (.iload_n 2, 1) := by decide +kernel
theorem dX2_takeState_50 : decode cX2_takeState 50 = .ok (.invokevirtual 90, 3) := by decide +kernel
theorem dX2_takeState_53 : decode cX2_takeState 53 = .ok (.i2l, 1) := by decide +kernel
theorem dX2_takeState_54 : decode cX2_takeState 54 = .ok (.lastore, 1) := by decide +kernel
theorem dX2_takeState_55 : decode cX2_takeState 55 = .ok (.aload_n 0, 1) := by decide +kernel
theorem dX2_takeState_56 : decode cX2_takeState 56 = .ok (.getfield 22, 3) := by decide +kernel
theorem dX2_takeState_59 : decode cX2_takeState 59 = .ok (.iload_n 2, 1) := by decide +kernel
theorem dX2_takeState_60 : decode cX2_takeState 60 = .ok (.iload_n 3, 1) := by decide +kernel
theorem dX2_takeState_61 : decode cX2_takeState 61 = .ok (.iconst (-1), 1) := by decide +kernel
theorem dX2_takeState_62 : decode cX2_takeState 62 = .ok (.if_icmp .ne 7, 3) := by decide +kernel
theorem dX2_takeState_65 : decode cX2_takeState 65 = .ok (.lconst 0, 1) := by decide +kernel
theorem dX2_takeState_66 : decode cX2_takeState 66 = .ok (.goto 16, 3) := by decide +kernel
theorem dX2_takeState_69 : decode cX2_takeState 69 = .ok (.aload_n 0, 1) := by decide +kernel
theorem dX2_takeState_70 : decode cX2_takeState 70 = .ok (.getfield 43, 3) := by decide +kernel
theorem dX2_takeState_73 : decode cX2_takeState 73 = .ok (.getfield 92, 3) := by decide +kernel
theorem dX2_takeState_76 : decode cX2_takeState 76 = .ok (.getfield 96, 3) := by decide +kernel
theorem dX2_takeState_79 : decode cX2_takeState 79 = .ok (.iload_n 3, 1) := by decide +kernel
theorem dX2_takeState_80 : decode cX2_takeState 80 = .ok (.iaload, 1) := by decide +kernel
theorem dX2_takeState_81 : decode cX2_takeState 81 = .ok (.i2l, 1) := by decide +kernel
theorem dX2_takeState_82 : decode cX2_takeState 82 = .ok (.lastore, 1) := by decide +kernel
theorem dX2_takeState_83 : decode cX2_takeState 83 = .ok (.aload_n 0, 1) := by decide +kernel
theorem dX2_takeState_84 : decode cX2_takeState 84 = .ok (.getfield 47, 3) := by decide +kernel
theorem dX2_takeState_87 : decode cX2_takeState 87 = .ok (.getfield 101, 3) := by decide +kernel
theorem dX2_takeState_90 : decode cX2_takeState 90 = .ok (.iload_n 2, 1) := by decide +kernel
theorem dX2_takeState_91 : decode cX2_takeState 91 = .ok (.baload, 1) := by decide +kernel
theorem dX2_takeState_92 : decode cX2_takeState 92 = .ok (.ifCond .eq 14, 3) := by decide +kernel
theorem dX2_takeState_95 : decode cX2_takeState 95 = .ok (.aload_n 0, 1) := by decide +kernel
theorem dX2_takeState_96 : decode cX2_takeState 96 = .ok (.getfield 9, 3) := by decide +kernel
theorem dX2_takeState_99 : decode cX2_takeState 99 = .ok (.iload_n 2, 1) := by decide +kernel
theorem dX2_takeState_100 : decode cX2_takeState 100 = .ok (.iaload, 1) := by decide +kernel
theorem dX2_takeState_101 : decode cX2_takeState 101 = .ok (.ifCond .eq 5, 3) := by decide +kernel
theorem dX2_takeState_104 : decode cX2_takeState 104 = .ok (.iconst 1, 1) := by decide +kernel
theorem dX2_takeState_105 : decode cX2_takeState 105 = .ok (.istore_n 1, 1) := by decide +kernel
theorem dX2_takeState_106 : decode cX2_takeState 106 = .ok (.iinc 2 1, 3) := by decide +kernel
theorem dX2_takeState_109 : decode cX2_takeState 109 = .ok (.goto (-105), 3) := by decide +kernel
theorem dX2_takeState_112 : decode cX2_takeState 112 = .ok (.iload_n 1, 1) := by decide +kernel
theorem dX2_takeState_113 : decode cX2_takeState 113 = .ok (.ifCond .eq 7, 3) := by decide +kernel
theorem dX2_takeState_116 : decode cX2_takeState 116 = .ok (.aload_n 0, 1) := by decide +kernel
theorem dX2_takeState_117 : decode cX2_takeState 117 = .ok (.invokevirtual 105, 3) := by decide +kernel
theorem dX2_takeState_120 : decode cX2_takeState 120 = .ok (.return_, 1) := by decide +kernel
set_option maxHeartbeats 4000000 in
set_option maxRecDepth 100000 in
theorem c2_clear (l : Launch) (dC : Nat → ClassId) (dI : Nat → Nat → Nat) (n0 : Nat) (atx : Nat → Nat × Nat) (sz : Nat) (fw : Nat) (fw_air : Nat) (bk : Nat) (st : Nat) (fw_hindrance : Nat) (fw_pull : Nat) (fw_droop : Nat) (fw_forth : Nat) (fw_back : Nat) (fw_label : Nat) (fw_cause : Nat) (fw_seen : Nat) (fw_round : Nat) (k_fw_air : ClassId) (f_fw_air : Nat → Int32) : Met l yX2_clear (wM yX2_clear cX2_clear 1 none) ({ frames := 1, cells := 0, slots := 0, locals := 23 }) (va_Pc [.ref fw] (fun U => U.heap.size = sz ∧ n0 ≤ sz ∧ GW n0 atx U ∧ va_P (dC, dI) classes [(fw, .inr (2, [.ref fw_air, .ref bk, .ref st, .ref fw_hindrance, .ref fw_pull, .ref fw_droop, .ref fw_forth, .ref fw_back, .ref fw_label, .ref fw_cause, .ref fw_seen, .ref fw_round])), (fw_air, .inl (k_fw_air, 14, .inl f_fw_air))] U.heap ∧ va_K (dC, dI) classes [(k_fw_air, .int)] U ∧ va_D (fun q => n0 ≤ q) [(fw, .inr (2, [.ref fw_air, .ref bk, .ref st, .ref fw_hindrance, .ref fw_pull, .ref fw_droop, .ref fw_forth, .ref fw_back, .ref fw_label, .ref fw_cause, .ref fw_seen, .ref fw_round])), (fw_air, .inl (k_fw_air, 14, .inl f_fw_air))])) (va_Qv (fun _ : Unit => True) (fun (_ : Unit) (t : State) => ∃ (ai9 : Nat → Int32), (∀ j, j < 14 → ai9 j = 0) ∧ va_P (dC, dI) classes [(fw, .inr (2, [.ref fw_air, .ref bk, .ref st, .ref fw_hindrance, .ref fw_pull, .ref fw_droop, .ref fw_forth, .ref fw_back, .ref fw_label, .ref fw_cause, .ref fw_seen, .ref fw_round])), (fw_air, .inl (k_fw_air, 14, .inl ai9))] t.heap ∧ va_K (dC, dI) classes [(k_fw_air, .int)] t ∧ va_D (va_A [(fw, .inr (2, [.ref fw_air, .ref bk, .ref st, .ref fw_hindrance, .ref fw_pull, .ref fw_droop, .ref fw_forth, .ref fw_back, .ref fw_label, .ref fw_cause, .ref fw_seen, .ref fw_round])), (fw_air, .inl (k_fw_air, 14, .inl f_fw_air))] sz) [(fw, .inr (2, [.ref fw_air, .ref bk, .ref st, .ref fw_hindrance, .ref fw_pull, .ref fw_droop, .ref fw_forth, .ref fw_back, .ref fw_label, .ref fw_cause, .ref fw_seen, .ref fw_round])), (fw_air, .inl (k_fw_air, 14, .inl ai9))]) (va_A [(fw, .inr (2, [.ref fw_air, .ref bk, .ref st, .ref fw_hindrance, .ref fw_pull, .ref fw_droop, .ref fw_forth, .ref fw_back, .ref fw_label, .ref fw_cause, .ref fw_seen, .ref fw_round])), (fw_air, .inl (k_fw_air, 14, .inl f_fw_air))] sz)) 0 0 (va_A [(fw, .inr (2, [.ref fw_air, .ref bk, .ref st, .ref fw_hindrance, .ref fw_pull, .ref fw_droop, .ref fw_forth, .ref fw_back, .ref fw_label, .ref fw_cause, .ref fw_seen, .ref fw_round])), (fw_air, .inl (k_fw_air, 14, .inl f_fw_air))] sz) := by
  refine Met.ofW (cc := cX2_clear) (maxL := 1) (ret := none) (by decide) rfl ?_
  intro p e s m args below meth c s₁ B hml hv
  obtain ⟨rfl, hsz, hn0, hG, hP, hK, hD0⟩ := hv
  have hx := B.exec
  have hb := B.bytes
  have hr := B.returns
  have hts := atoms_spec (ws := wM yX2_clear cX2_clear 1 none) B.pre
  have hown : s.vm.findClass RX2 = some m.cls := findClass_of_methodNamed B.named
  have hlocks := B.notSynchronized
  subst hsz
  have hD := hD0.self (sz := s.heap.size)
  have hA0 := vA_n0 hD0 hn0
  generalize hAe : va_A [(fw, .inr (2, [.ref fw_air, .ref bk, .ref st, .ref fw_hindrance, .ref fw_pull, .ref fw_droop, .ref fw_forth, .ref fw_back, .ref fw_label, .ref fw_cause, .ref fw_seen, .ref fw_round])), (fw_air, .inl (k_fw_air, 14, .inl f_fw_air))] s.heap.size = A at hD hA0 ⊢
  have hA : ∀ q : Nat, s.heap.size ≤ q → A q := fun q h => by rw [← hAe]; exact Or.inr h
  have hS : va_S A s.heap s.heap [] := va_S.rf
  have hl := lv_entry ([.ref fw]) (n := 1) (Nat.le_of_ble_eq_true rfl)
  rw [lg_entry_eq]
  generalize (lg_sl ([.ref fw]) ++ List.replicate (1 - (lg_sl ([.ref fw])).length) Slot.unset).toArray = ls at hl ⊢
  have hl : lv_has ls 1 [(0, .ref fw)] := hl
  refine lv_aload_n hx hb dX2_clear_0 rfl (lv_at hl 0 rfl) ?_
  refine va_get (D := (dC, dI)) (ci := 2) (v := .ref fw_air) (C := RX2) (T := TX2) (N := 12) hx hb hts (fun w h => wM_c (iX2 w h)) hown hK hP 0 rfl rfl 0 (by decide) (hts _ (wM_c wd_443)) (fun _ h9 => h9) rfl dX2_clear_1 ?_
  refine lv_iconst (v := 0) hx hb dX2_clear_4 (by decide) ?_
  obtain ⟨hPc, hDc, hFc⟩ := s3_c (ws' := [(fw_air, .inl (k_fw_air, 14, .inl f_fw_air))]) [1] hP hD hS hA rfl (by decide)
  have hKc := hK.sub (tys' := [(k_fw_air, .int)]) [0] rfl
  refine va_callv (va_runS (As := [.ref fw_air, .int 0]) (rest := []) ⟨hx, hb, hml, hown, hts⟩ (c_fill14 l dC dI n0 atx s.heap.size fw_air k_fw_air f_fw_air 0 ) (va_cwS 2 hts (gS (fun w h => wM_c h) wd_669 wd_912 wd_668 wd_126) rfl rfl rfl (by decide +kernel) ⟨Nat.le_of_ble_eq_true rfl, Nat.le_of_ble_eq_true rfl⟩) ⟨fun a U g mk q => by obtain ⟨q0, q1, q2, qG, qP, qK, qD⟩ := q; exact ⟨q0, q1, q2, GW.blind qG, qP, va_K.moved (u := U) (U := U.calling g mk a) (Vm.Alike.refl U.vm) qK, qD⟩, fun U hU hW => ⟨rfl, by rw [hU], Nat.le_trans hn0 hS.1, GW.go hW hU hG (fun q hq hA9 => hS.2.1 q hq (fun h => hA9 (hA0 q h))), by rw [hU]; exact hPc, va_K.moved hW.alike hKc, hDc.weaken (fun _ _ _ h => hA0 _ h)⟩⟩ rfl rfl hl.1 rfl (lv_room (Nat.le_of_ble_eq_true rfl)) dX2_clear_5 ⟨Nat.le_of_ble_eq_true rfl, Nat.le_of_ble_eq_true rfl⟩) hS (fun q _ h => hFc q h) hFc (fun u t H1 locs ht hvm hw_2 hB hz1 hk1 hS => ?_)
  obtain ⟨f2_3, hf_4, hP1, hK1, hD1⟩ := hB
  rw [ht] at hP1
  obtain ⟨hP, hD⟩ := s3_j (L := [(fw, .inr (2, [.ref fw_air, .ref bk, .ref st, .ref fw_hindrance, .ref fw_pull, .ref fw_droop, .ref fw_forth, .ref fw_back, .ref fw_label, .ref fw_cause, .ref fw_seen, .ref fw_round])), (fw_air, .inl (k_fw_air, 14, .inl f2_3))]) 1 hP hD [1] [0] hk1 hFc hP1 hD1 rfl rfl rfl (by decide) (by decide)
  generalize H1 = H at hP hS ⊢
  have hK9 := hK.sub (tys' := [(k_fw_air, .int)]) [0] rfl
  exact W.vret hx hb hr (fun t ht hW => ⟨⟨(), rfl, trivial, f2_3, hf_4, by rw [ht]; exact hP.sub [0, 1] rfl, va_K.moved hW.alike hK9, hD.sub [0, 1] (by decide) rfl⟩, hS.F ht⟩) hS.2.2 dX2_clear_8
set_option maxHeartbeats 4000000 in
set_option maxRecDepth 100000 in
theorem c2_rankOf (l : Launch) (dC : Nat → ClassId) (dI : Nat → Nat → Nat) (n0 : Nat) (atx : Nat → Nat × Nat) (sz : Nat) (fw : Nat) (fw_air : Nat) (bk : Nat) (st : Nat) (fw_hindrance : Nat) (fw_pull : Nat) (fw_droop : Nat) (fw_forth : Nat) (fw_back : Nat) (fw_label : Nat) (fw_cause : Nat) (fw_seen : Nat) (fw_round : Nat) (k_fw_hindrance : ClassId) (f_fw_hindrance : Nat → Int64) (k_fw_pull : ClassId) (f_fw_pull : Nat → Int64) (k_fw_droop : ClassId) (f_fw_droop : Nat → Int64) (w : Int32) (qq : Int32) (hw : vp_in w 14) : Met l yX2_rankOf (wM yX2_rankOf cX2_rankOf 11 (some .long)) ({ frames := 0, cells := 0, slots := 0, locals := 0 }) (va_Pc [.ref fw, .int w, .int qq] (fun U => U.heap.size = sz ∧ n0 ≤ sz ∧ GW n0 atx U ∧ va_P (dC, dI) classes [(fw, .inr (2, [.ref fw_air, .ref bk, .ref st, .ref fw_hindrance, .ref fw_pull, .ref fw_droop, .ref fw_forth, .ref fw_back, .ref fw_label, .ref fw_cause, .ref fw_seen, .ref fw_round])), (fw_hindrance, .inl (k_fw_hindrance, 14, .inr (.inl f_fw_hindrance))), (fw_pull, .inl (k_fw_pull, 14, .inr (.inl f_fw_pull))), (fw_droop, .inl (k_fw_droop, 14, .inr (.inl f_fw_droop)))] U.heap ∧ va_K (dC, dI) classes [(k_fw_hindrance, .long), (k_fw_pull, .long), (k_fw_droop, .long)] U ∧ va_D (fun q => n0 ≤ q) [(fw, .inr (2, [.ref fw_air, .ref bk, .ref st, .ref fw_hindrance, .ref fw_pull, .ref fw_droop, .ref fw_forth, .ref fw_back, .ref fw_label, .ref fw_cause, .ref fw_seen, .ref fw_round])), (fw_hindrance, .inl (k_fw_hindrance, 14, .inr (.inl f_fw_hindrance))), (fw_pull, .inl (k_fw_pull, 14, .inr (.inl f_fw_pull))), (fw_droop, .inl (k_fw_droop, 14, .inr (.inl f_fw_droop)))])) (va_Ql (fun (r : Int64) (_ : Unit) => True) (fun (_ : Unit) (t : State) => va_P (dC, dI) classes [(fw, .inr (2, [.ref fw_air, .ref bk, .ref st, .ref fw_hindrance, .ref fw_pull, .ref fw_droop, .ref fw_forth, .ref fw_back, .ref fw_label, .ref fw_cause, .ref fw_seen, .ref fw_round])), (fw_hindrance, .inl (k_fw_hindrance, 14, .inr (.inl f_fw_hindrance))), (fw_pull, .inl (k_fw_pull, 14, .inr (.inl f_fw_pull))), (fw_droop, .inl (k_fw_droop, 14, .inr (.inl f_fw_droop)))] t.heap ∧ va_K (dC, dI) classes [(k_fw_hindrance, .long), (k_fw_pull, .long), (k_fw_droop, .long)] t ∧ va_D (va_A [(fw, .inr (2, [.ref fw_air, .ref bk, .ref st, .ref fw_hindrance, .ref fw_pull, .ref fw_droop, .ref fw_forth, .ref fw_back, .ref fw_label, .ref fw_cause, .ref fw_seen, .ref fw_round])), (fw_hindrance, .inl (k_fw_hindrance, 14, .inr (.inl f_fw_hindrance))), (fw_pull, .inl (k_fw_pull, 14, .inr (.inl f_fw_pull))), (fw_droop, .inl (k_fw_droop, 14, .inr (.inl f_fw_droop)))] sz) [(fw, .inr (2, [.ref fw_air, .ref bk, .ref st, .ref fw_hindrance, .ref fw_pull, .ref fw_droop, .ref fw_forth, .ref fw_back, .ref fw_label, .ref fw_cause, .ref fw_seen, .ref fw_round])), (fw_hindrance, .inl (k_fw_hindrance, 14, .inr (.inl f_fw_hindrance))), (fw_pull, .inl (k_fw_pull, 14, .inr (.inl f_fw_pull))), (fw_droop, .inl (k_fw_droop, 14, .inr (.inl f_fw_droop)))]) (va_A [(fw, .inr (2, [.ref fw_air, .ref bk, .ref st, .ref fw_hindrance, .ref fw_pull, .ref fw_droop, .ref fw_forth, .ref fw_back, .ref fw_label, .ref fw_cause, .ref fw_seen, .ref fw_round])), (fw_hindrance, .inl (k_fw_hindrance, 14, .inr (.inl f_fw_hindrance))), (fw_pull, .inl (k_fw_pull, 14, .inr (.inl f_fw_pull))), (fw_droop, .inl (k_fw_droop, 14, .inr (.inl f_fw_droop)))] sz)) 0 0 (va_A [(fw, .inr (2, [.ref fw_air, .ref bk, .ref st, .ref fw_hindrance, .ref fw_pull, .ref fw_droop, .ref fw_forth, .ref fw_back, .ref fw_label, .ref fw_cause, .ref fw_seen, .ref fw_round])), (fw_hindrance, .inl (k_fw_hindrance, 14, .inr (.inl f_fw_hindrance))), (fw_pull, .inl (k_fw_pull, 14, .inr (.inl f_fw_pull))), (fw_droop, .inl (k_fw_droop, 14, .inr (.inl f_fw_droop)))] sz) := by
  refine Met.ofW (cc := cX2_rankOf) (maxL := 11) (ret := (some .long)) (by decide) rfl ?_
  intro p e s m args below meth c s₁ B hml hv
  obtain ⟨rfl, hsz, hn0, hG, hP, hK, hD0⟩ := hv
  have hx := B.exec
  have hb := B.bytes
  have hr := B.returns
  have hts := atoms_spec (ws := wM yX2_rankOf cX2_rankOf 11 (some .long)) B.pre
  have hown : s.vm.findClass RX2 = some m.cls := findClass_of_methodNamed B.named
  have hlocks := B.notSynchronized
  subst hsz
  have hD := hD0.self (sz := s.heap.size)
  have hA0 := vA_n0 hD0 hn0
  generalize hAe : va_A [(fw, .inr (2, [.ref fw_air, .ref bk, .ref st, .ref fw_hindrance, .ref fw_pull, .ref fw_droop, .ref fw_forth, .ref fw_back, .ref fw_label, .ref fw_cause, .ref fw_seen, .ref fw_round])), (fw_hindrance, .inl (k_fw_hindrance, 14, .inr (.inl f_fw_hindrance))), (fw_pull, .inl (k_fw_pull, 14, .inr (.inl f_fw_pull))), (fw_droop, .inl (k_fw_droop, 14, .inr (.inl f_fw_droop)))] s.heap.size = A at hD hA0 ⊢
  have hA : ∀ q : Nat, s.heap.size ≤ q → A q := fun q h => by rw [← hAe]; exact Or.inr h
  have hS : va_S A s.heap s.heap [] := va_S.rf
  have hl := lv_entry ([.ref fw, .int w, .int qq]) (n := 11) (Nat.le_of_ble_eq_true rfl)
  rw [lg_entry_eq]
  generalize (lg_sl ([.ref fw, .int w, .int qq]) ++ List.replicate (11 - (lg_sl ([.ref fw, .int w, .int qq])).length) Slot.unset).toArray = ls at hl ⊢
  have hl : lv_has ls 11 [(0, .ref fw), (1, .int w), (2, .int qq)] := hl
  refine lv_iload_n hx hb dX2_rankOf_0 rfl (lv_at hl 2 rfl) ?_
  refine lv_if_ge (tgt := 10) hx hb dX2_rankOf_1 (by decide) (fun c_1 => ?_) (fun c_1 => ?_)
  · skip
    have g_2 : (0 : Int) ≤ qq.toInt := i_le c_1
    refine lv_iload_n hx hb dX2_rankOf_10 rfl (lv_at hl 2 rfl) ?_
    refine lv_i2l (v := qq.toInt64) hx hb dX2_rankOf_11 rfl ?_
    refine lv_topl (fun v_3 ev_3 => ?_)
    refine lv_lstore_n (lv' := [(3, .long v_3), (0, .ref fw), (1, .int w), (2, .int qq)]) hx hb dX2_rankOf_12 rfl hl (by decide) rfl (fun ls hl => ?_)
    refine lv_lload_n hx hb dX2_rankOf_13 rfl (lv_at hl 0 rfl) ?_
    refine lv_lload_n hx hb dX2_rankOf_14 rfl (lv_at hl 0 rfl) ?_
    refine lv_lconst (v := 1) hx hb dX2_rankOf_15 (by decide) ?_
    refine lv_ladd hx hb dX2_rankOf_16 ?_
    refine lv_topl (fun v_4 ev_4 => ?_)
    refine lv_lmul hx hb dX2_rankOf_17 ?_
    refine lv_topl (fun v_5 ev_5 => ?_)
    refine lv_ldc2 hx hb hown (hts _ (wM_c wd_1029)) dX2_rankOf_18 ?_
    refine lv_lload_n hx hb dX2_rankOf_21 rfl (lv_at hl 0 rfl) ?_
    refine lv_lmul hx hb dX2_rankOf_22 ?_
    refine lv_topl (fun v_6 ev_6 => ?_)
    refine lv_lconst (v := 1) hx hb dX2_rankOf_23 (by decide) ?_
    refine lv_ladd hx hb dX2_rankOf_24 ?_
    refine lv_topl (fun v_7 ev_7 => ?_)
    refine lv_lmul hx hb dX2_rankOf_25 ?_
    refine lv_topl (fun v_8 ev_8 => ?_)
    refine lv_ldc2 hx hb hown (hts _ (wM_c wd_1030)) dX2_rankOf_26 ?_
    refine lv_ldiv hx hb dX2_rankOf_29 (by decide) ?_
    refine lv_topl (fun v_9 ev_9 => ?_)
    refine lv_lstore (lv' := [(5, .long v_9), (3, .long v_3), (0, .ref fw), (1, .int w), (2, .int qq)]) hx hb dX2_rankOf_30 hl (by decide) rfl (fun ls hl => ?_)
    refine lv_iload_n hx hb dX2_rankOf_32 rfl (lv_at hl 4 rfl) ?_
    refine lv_i2l (v := qq.toInt64) hx hb dX2_rankOf_33 rfl ?_
    refine lv_topl (fun v_10 ev_10 => ?_)
    refine lv_iload_n hx hb dX2_rankOf_34 rfl (lv_at hl 4 rfl) ?_
    refine lv_iconst (v := 1) hx hb dX2_rankOf_35 (by decide) ?_
    refine lv_iadd hx hb dX2_rankOf_36 ?_
    refine lv_topi (fun v_11 ev_11 => ?_)
    refine lv_i2l (v := v_11.toInt64) hx hb dX2_rankOf_37 rfl ?_
    refine lv_topl (fun v_12 ev_12 => ?_)
    refine lv_lmul hx hb dX2_rankOf_38 ?_
    refine lv_topl (fun v_13 ev_13 => ?_)
    refine lv_ldc2 hx hb hown (hts _ (wM_c wd_1029)) dX2_rankOf_39 ?_
    refine lv_ldiv hx hb dX2_rankOf_42 (by decide) ?_
    refine lv_topl (fun v_14 ev_14 => ?_)
    refine lv_lstore (lv' := [(7, .long v_14), (5, .long v_9), (3, .long v_3), (0, .ref fw), (1, .int w), (2, .int qq)]) hx hb dX2_rankOf_43 hl (by decide) rfl (fun ls hl => ?_)
    refine lv_aload_n hx hb dX2_rankOf_45 rfl (lv_at hl 3 rfl) ?_
    refine va_get (D := (dC, dI)) (ci := 2) (v := .ref fw_hindrance) (C := RX2) (T := TX2) (N := 12) hx hb hts (fun w h => wM_c (iX2 w h)) hown hK hP 0 rfl rfl 3 (by decide) (hts _ (wM_c wd_449)) (fun _ h9 => h9) rfl dX2_rankOf_46 ?_
    refine lv_iload_n hx hb dX2_rankOf_49 rfl (lv_at hl 4 rfl) ?_
    refine va_lald hx hb hK hP 1 0 rfl rfl (by first | with_reducible assumption | exact vp_in_iff.mpr (by omega)) dX2_rankOf_50 ?_
    refine lv_topl (fun v_15 ev_15 => ?_)
    refine lv_lload hx hb dX2_rankOf_51 (lv_at hl 1 rfl) ?_
    refine lv_lmul hx hb dX2_rankOf_53 ?_
    refine lv_topl (fun v_16 ev_16 => ?_)
    refine lv_aload_n hx hb dX2_rankOf_54 rfl (lv_at hl 3 rfl) ?_
    refine va_get (D := (dC, dI)) (ci := 2) (v := .ref fw_pull) (C := RX2) (T := TX2) (N := 12) hx hb hts (fun w h => wM_c (iX2 w h)) hown hK hP 0 rfl rfl 4 (by decide) (hts _ (wM_c wd_450)) (fun _ h9 => h9) rfl dX2_rankOf_55 ?_
    refine lv_iload_n hx hb dX2_rankOf_58 rfl (lv_at hl 4 rfl) ?_
    refine va_lald hx hb hK hP 2 1 rfl rfl (by first | with_reducible assumption | exact vp_in_iff.mpr (by omega)) dX2_rankOf_59 ?_
    refine lv_topl (fun v_17 ev_17 => ?_)
    refine lv_iload_n hx hb dX2_rankOf_60 rfl (lv_at hl 5 rfl) ?_
    refine lv_i2l (v := qq.toInt64) hx hb dX2_rankOf_61 rfl ?_
    refine lv_topl (fun v_18 ev_18 => ?_)
    refine lv_lmul hx hb dX2_rankOf_62 ?_
    refine lv_topl (fun v_19 ev_19 => ?_)
    refine lv_lsub hx hb dX2_rankOf_63 ?_
    refine lv_topl (fun v_20 ev_20 => ?_)
    refine lv_aload_n hx hb dX2_rankOf_64 rfl (lv_at hl 3 rfl) ?_
    refine va_get (D := (dC, dI)) (ci := 2) (v := .ref fw_droop) (C := RX2) (T := TX2) (N := 12) hx hb hts (fun w h => wM_c (iX2 w h)) hown hK hP 0 rfl rfl 5 (by decide) (hts _ (wM_c wd_451)) (fun _ h9 => h9) rfl dX2_rankOf_65 ?_
    refine lv_iload_n hx hb dX2_rankOf_68 rfl (lv_at hl 4 rfl) ?_
    refine va_lald hx hb hK hP 3 2 rfl rfl (by first | with_reducible assumption | exact vp_in_iff.mpr (by omega)) dX2_rankOf_69 ?_
    refine lv_topl (fun v_21 ev_21 => ?_)
    refine lv_lload hx hb dX2_rankOf_70 (lv_at hl 0 rfl) ?_
    refine lv_lmul hx hb dX2_rankOf_72 ?_
    refine lv_topl (fun v_22 ev_22 => ?_)
    refine lv_ladd hx hb dX2_rankOf_73 ?_
    refine lv_topl (fun v_23 ev_23 => ?_)
    refine lv_lstore (lv' := [(9, .long v_23), (7, .long v_14), (5, .long v_9), (3, .long v_3), (0, .ref fw), (1, .int w), (2, .int qq)]) hx hb dX2_rankOf_74 hl (by decide) rfl (fun ls hl => ?_)
    refine lv_lload hx hb dX2_rankOf_76 (lv_at hl 0 rfl) ?_
    refine lv_bipush (v := 28) hx hb dX2_rankOf_78 (by decide) ?_
    refine lv_lshl hx hb dX2_rankOf_80 rfl ?_
    refine lv_topl (fun v_24 ev_24 => ?_)
    refine va_gets hx hb (hG.2.2.2.2.2.2.1.narrow hA0) hS hown (hts _ (wM_c wd_1031)) (fun _ h => h) dX2_rankOf_81 ?_
    refine lv_iload_n hx hb dX2_rankOf_84 rfl (lv_at hl 5 rfl) ?_
    refine va_ti hx hb (hG.2.2.2.2.2.2.2.1.narrow hA0) hS (by first | with_reducible assumption | exact vp_in_iff.mpr (by omega)) rfl dX2_rankOf_85 ?_
    refine lv_topi (fun v_25 ev_25 => ?_)
    refine lv_i2l (v := v_25.toInt64) hx hb dX2_rankOf_86 rfl ?_
    refine lv_topl (fun v_26 ev_26 => ?_)
    refine lv_lload_n hx hb dX2_rankOf_87 rfl (lv_at hl 3 rfl) ?_
    refine lv_lmul hx hb dX2_rankOf_88 ?_
    refine lv_topl (fun v_27 ev_27 => ?_)
    refine lv_ladd hx hb dX2_rankOf_89 ?_
    refine lv_topl (fun v_28 ev_28 => ?_)
    have hK9 := hK.sub (tys' := [(k_fw_hindrance, .long), (k_fw_pull, .long), (k_fw_droop, .long)]) [0, 1, 2] rfl
    exact W.lret (v := v_28) hx hb hr (fun t ht hW => ⟨⟨v_28, (), rfl, trivial, by rw [ht]; exact hP.sub [0, 1, 2, 3] rfl, va_K.moved hW.alike hK9, hD.sub [0, 1, 2, 3] (by decide) rfl⟩, hS.F ht⟩) hS.2.2 dX2_rankOf_90
  · skip
    have g_29 : qq.toInt < (0 : Int) := i_nle c_1
    refine lv_iload_n hx hb dX2_rankOf_4 rfl (lv_at hl 2 rfl) ?_
    refine lv_ineg hx hb dX2_rankOf_5 ?_
    refine lv_topi (fun v_30 ev_30 => ?_)
    refine lv_i2l (v := v_30.toInt64) hx hb dX2_rankOf_6 rfl ?_
    refine lv_topl (fun v_31 ev_31 => ?_)
    refine lv_goto (tgt := 12) hx hb dX2_rankOf_7 (by decide) ?_
    refine lv_lstore_n (lv' := [(3, .long v_31), (0, .ref fw), (1, .int w), (2, .int qq)]) hx hb dX2_rankOf_12 rfl hl (by decide) rfl (fun ls hl => ?_)
    refine lv_lload_n hx hb dX2_rankOf_13 rfl (lv_at hl 0 rfl) ?_
    refine lv_lload_n hx hb dX2_rankOf_14 rfl (lv_at hl 0 rfl) ?_
    refine lv_lconst (v := 1) hx hb dX2_rankOf_15 (by decide) ?_
    refine lv_ladd hx hb dX2_rankOf_16 ?_
    refine lv_topl (fun v_32 ev_32 => ?_)
    refine lv_lmul hx hb dX2_rankOf_17 ?_
    refine lv_topl (fun v_33 ev_33 => ?_)
    refine lv_ldc2 hx hb hown (hts _ (wM_c wd_1029)) dX2_rankOf_18 ?_
    refine lv_lload_n hx hb dX2_rankOf_21 rfl (lv_at hl 0 rfl) ?_
    refine lv_lmul hx hb dX2_rankOf_22 ?_
    refine lv_topl (fun v_34 ev_34 => ?_)
    refine lv_lconst (v := 1) hx hb dX2_rankOf_23 (by decide) ?_
    refine lv_ladd hx hb dX2_rankOf_24 ?_
    refine lv_topl (fun v_35 ev_35 => ?_)
    refine lv_lmul hx hb dX2_rankOf_25 ?_
    refine lv_topl (fun v_36 ev_36 => ?_)
    refine lv_ldc2 hx hb hown (hts _ (wM_c wd_1030)) dX2_rankOf_26 ?_
    refine lv_ldiv hx hb dX2_rankOf_29 (by decide) ?_
    refine lv_topl (fun v_37 ev_37 => ?_)
    refine lv_lstore (lv' := [(5, .long v_37), (3, .long v_31), (0, .ref fw), (1, .int w), (2, .int qq)]) hx hb dX2_rankOf_30 hl (by decide) rfl (fun ls hl => ?_)
    refine lv_iload_n hx hb dX2_rankOf_32 rfl (lv_at hl 4 rfl) ?_
    refine lv_i2l (v := qq.toInt64) hx hb dX2_rankOf_33 rfl ?_
    refine lv_topl (fun v_38 ev_38 => ?_)
    refine lv_iload_n hx hb dX2_rankOf_34 rfl (lv_at hl 4 rfl) ?_
    refine lv_iconst (v := 1) hx hb dX2_rankOf_35 (by decide) ?_
    refine lv_iadd hx hb dX2_rankOf_36 ?_
    refine lv_topi (fun v_39 ev_39 => ?_)
    refine lv_i2l (v := v_39.toInt64) hx hb dX2_rankOf_37 rfl ?_
    refine lv_topl (fun v_40 ev_40 => ?_)
    refine lv_lmul hx hb dX2_rankOf_38 ?_
    refine lv_topl (fun v_41 ev_41 => ?_)
    refine lv_ldc2 hx hb hown (hts _ (wM_c wd_1029)) dX2_rankOf_39 ?_
    refine lv_ldiv hx hb dX2_rankOf_42 (by decide) ?_
    refine lv_topl (fun v_42 ev_42 => ?_)
    refine lv_lstore (lv' := [(7, .long v_42), (5, .long v_37), (3, .long v_31), (0, .ref fw), (1, .int w), (2, .int qq)]) hx hb dX2_rankOf_43 hl (by decide) rfl (fun ls hl => ?_)
    refine lv_aload_n hx hb dX2_rankOf_45 rfl (lv_at hl 3 rfl) ?_
    refine va_get (D := (dC, dI)) (ci := 2) (v := .ref fw_hindrance) (C := RX2) (T := TX2) (N := 12) hx hb hts (fun w h => wM_c (iX2 w h)) hown hK hP 0 rfl rfl 3 (by decide) (hts _ (wM_c wd_449)) (fun _ h9 => h9) rfl dX2_rankOf_46 ?_
    refine lv_iload_n hx hb dX2_rankOf_49 rfl (lv_at hl 4 rfl) ?_
    refine va_lald hx hb hK hP 1 0 rfl rfl (by first | with_reducible assumption | exact vp_in_iff.mpr (by omega)) dX2_rankOf_50 ?_
    refine lv_topl (fun v_43 ev_43 => ?_)
    refine lv_lload hx hb dX2_rankOf_51 (lv_at hl 1 rfl) ?_
    refine lv_lmul hx hb dX2_rankOf_53 ?_
    refine lv_topl (fun v_44 ev_44 => ?_)
    refine lv_aload_n hx hb dX2_rankOf_54 rfl (lv_at hl 3 rfl) ?_
    refine va_get (D := (dC, dI)) (ci := 2) (v := .ref fw_pull) (C := RX2) (T := TX2) (N := 12) hx hb hts (fun w h => wM_c (iX2 w h)) hown hK hP 0 rfl rfl 4 (by decide) (hts _ (wM_c wd_450)) (fun _ h9 => h9) rfl dX2_rankOf_55 ?_
    refine lv_iload_n hx hb dX2_rankOf_58 rfl (lv_at hl 4 rfl) ?_
    refine va_lald hx hb hK hP 2 1 rfl rfl (by first | with_reducible assumption | exact vp_in_iff.mpr (by omega)) dX2_rankOf_59 ?_
    refine lv_topl (fun v_45 ev_45 => ?_)
    refine lv_iload_n hx hb dX2_rankOf_60 rfl (lv_at hl 5 rfl) ?_
    refine lv_i2l (v := qq.toInt64) hx hb dX2_rankOf_61 rfl ?_
    refine lv_topl (fun v_46 ev_46 => ?_)
    refine lv_lmul hx hb dX2_rankOf_62 ?_
    refine lv_topl (fun v_47 ev_47 => ?_)
    refine lv_lsub hx hb dX2_rankOf_63 ?_
    refine lv_topl (fun v_48 ev_48 => ?_)
    refine lv_aload_n hx hb dX2_rankOf_64 rfl (lv_at hl 3 rfl) ?_
    refine va_get (D := (dC, dI)) (ci := 2) (v := .ref fw_droop) (C := RX2) (T := TX2) (N := 12) hx hb hts (fun w h => wM_c (iX2 w h)) hown hK hP 0 rfl rfl 5 (by decide) (hts _ (wM_c wd_451)) (fun _ h9 => h9) rfl dX2_rankOf_65 ?_
    refine lv_iload_n hx hb dX2_rankOf_68 rfl (lv_at hl 4 rfl) ?_
    refine va_lald hx hb hK hP 3 2 rfl rfl (by first | with_reducible assumption | exact vp_in_iff.mpr (by omega)) dX2_rankOf_69 ?_
    refine lv_topl (fun v_49 ev_49 => ?_)
    refine lv_lload hx hb dX2_rankOf_70 (lv_at hl 0 rfl) ?_
    refine lv_lmul hx hb dX2_rankOf_72 ?_
    refine lv_topl (fun v_50 ev_50 => ?_)
    refine lv_ladd hx hb dX2_rankOf_73 ?_
    refine lv_topl (fun v_51 ev_51 => ?_)
    refine lv_lstore (lv' := [(9, .long v_51), (7, .long v_42), (5, .long v_37), (3, .long v_31), (0, .ref fw), (1, .int w), (2, .int qq)]) hx hb dX2_rankOf_74 hl (by decide) rfl (fun ls hl => ?_)
    refine lv_lload hx hb dX2_rankOf_76 (lv_at hl 0 rfl) ?_
    refine lv_bipush (v := 28) hx hb dX2_rankOf_78 (by decide) ?_
    refine lv_lshl hx hb dX2_rankOf_80 rfl ?_
    refine lv_topl (fun v_52 ev_52 => ?_)
    refine va_gets hx hb (hG.2.2.2.2.2.2.1.narrow hA0) hS hown (hts _ (wM_c wd_1031)) (fun _ h => h) dX2_rankOf_81 ?_
    refine lv_iload_n hx hb dX2_rankOf_84 rfl (lv_at hl 5 rfl) ?_
    refine va_ti hx hb (hG.2.2.2.2.2.2.2.1.narrow hA0) hS (by first | with_reducible assumption | exact vp_in_iff.mpr (by omega)) rfl dX2_rankOf_85 ?_
    refine lv_topi (fun v_53 ev_53 => ?_)
    refine lv_i2l (v := v_53.toInt64) hx hb dX2_rankOf_86 rfl ?_
    refine lv_topl (fun v_54 ev_54 => ?_)
    refine lv_lload_n hx hb dX2_rankOf_87 rfl (lv_at hl 3 rfl) ?_
    refine lv_lmul hx hb dX2_rankOf_88 ?_
    refine lv_topl (fun v_55 ev_55 => ?_)
    refine lv_ladd hx hb dX2_rankOf_89 ?_
    refine lv_topl (fun v_56 ev_56 => ?_)
    have hK9 := hK.sub (tys' := [(k_fw_hindrance, .long), (k_fw_pull, .long), (k_fw_droop, .long)]) [0, 1, 2] rfl
    exact W.lret (v := v_56) hx hb hr (fun t ht hW => ⟨⟨v_56, (), rfl, trivial, by rw [ht]; exact hP.sub [0, 1, 2, 3] rfl, va_K.moved hW.alike hK9, hD.sub [0, 1, 2, 3] (by decide) rfl⟩, hS.F ht⟩) hS.2.2 dX2_rankOf_90
set_option maxHeartbeats 4000000 in
set_option maxRecDepth 100000 in
theorem c2_takeState (l : Launch) (dC : Nat → ClassId) (dI : Nat → Nat → Nat) (n0 : Nat) (atx : Nat → Nat × Nat) (sz : Nat) (fw : Nat) (fw_air : Nat) (bk : Nat) (st : Nat) (fw_hindrance : Nat) (fw_pull : Nat) (fw_droop : Nat) (fw_forth : Nat) (fw_back : Nat) (fw_label : Nat) (fw_cause : Nat) (fw_seen : Nat) (fw_round : Nat) (st_open : Nat) (st_speed : Nat) (st_fallen : Nat) (st_fire : Nat) (st_mark : Int32) (st_moreIn : Int32) (st_more : Int32) (bw : Nat) (bk_tail : Nat) (bk_head : Nat) (bk_hinder : Nat) (bk_size : Nat) (bk_walk : Nat) (bk_draught : Nat) (bk_doorIn : Nat) (bk_fanIn : Nat) (bk_faceIn : Nat) (bn : Nat) (bk_day : Int32) (gr : Nat) (gd : Nat) (gr_doorBy : Nat) (gp : Nat) (gr_pairFirst : Nat) (gr_pairSecond : Nat) (gf : Nat) (gr_fanPush : Nat) (gr_fanFall : Nat) (gr_fanCost : Nat) (ge : Nat) (gr_faceWay : Nat) (gr_faceGas : Nat) (gr_faceNeed : Nat) (k_bk_doorIn : ClassId) (f_bk_doorIn : Nat → Int32) (k_bk_hinder : ClassId) (f_bk_hinder : Nat → Int32) (k_gr_doorBy : ClassId) (f_gr_doorBy : Nat → Int32) (k_st_open : ClassId) (f_st_open : Nat → Int32) (k_bk_fanIn : ClassId) (f_bk_fanIn : Nat → Int32) (k_bk_draught : ClassId) (f_bk_draught : Nat → Int32) (k_gr_fanPush : ClassId) (f_gr_fanPush : Nat → Int32) (k_st_speed : ClassId) (f_st_speed : Nat → Int32) (k_st_fire : ClassId) (f_st_fire : Nat → Int32) (k_fw_hindrance : ClassId) (f_fw_hindrance : Nat → Int64) (k_fw_pull : ClassId) (f_fw_pull : Nat → Int64) (k_fw_droop : ClassId) (f_fw_droop : Nat → Int64) (k_gr_fanFall : ClassId) (f_gr_fanFall : Nat → Int32) (k_st_fallen : ClassId) (f_st_fallen : Nat → Int32) (k_fw_air : ClassId) (f_fw_air : Nat → Int32) (hbw : bw ≤ 14) (hbn : bn ≤ 10) (hgd : gd ≤ 6) (hgp : gp ≤ 3) (hgf : gf ≤ 4) (hge : ge ≤ 4) (q_day : -1 ≤ bk_day.toInt ∧ bk_day.toInt < 10) (q_doorIn : rg f_bk_doorIn 14 (-1) 6) (q_fanIn : rg f_bk_fanIn 14 (-1) 4) : Met l yX2_takeState (wM yX2_takeState cX2_takeState 4 none) ({ frames := 2, cells := 0, slots := 0, locals := 43 }) (va_Pc [.ref fw] (fun U => U.heap.size = sz ∧ n0 ≤ sz ∧ GW n0 atx U ∧ va_P (dC, dI) classes [(fw, .inr (2, [.ref fw_air, .ref bk, .ref st, .ref fw_hindrance, .ref fw_pull, .ref fw_droop, .ref fw_forth, .ref fw_back, .ref fw_label, .ref fw_cause, .ref fw_seen, .ref fw_round])), (st, .inr (9, [.ref st_open, .ref st_speed, .ref st_fallen, .ref st_fire, .int st_mark, .int st_moreIn, .int st_more, .ref bk])), (bk, .inr (0, [.int (nI bw), .ref bk_tail, .ref bk_head, .ref bk_hinder, .ref bk_size, .ref bk_walk, .ref bk_draught, .ref bk_doorIn, .ref bk_fanIn, .ref bk_faceIn, .int (nI bn), .int bk_day, .ref gr])), (gr, .inr (3, [.int (nI gd), .ref gr_doorBy, .int (nI gp), .ref gr_pairFirst, .ref gr_pairSecond, .int (nI gf), .ref gr_fanPush, .ref gr_fanFall, .ref gr_fanCost, .int (nI ge), .ref gr_faceWay, .ref gr_faceGas, .ref gr_faceNeed])), (bk_doorIn, .inl (k_bk_doorIn, 14, .inl f_bk_doorIn)), (bk_hinder, .inl (k_bk_hinder, 14, .inl f_bk_hinder)), (gr_doorBy, .inl (k_gr_doorBy, 6, .inl f_gr_doorBy)), (st_open, .inl (k_st_open, 6, .inl f_st_open)), (bk_fanIn, .inl (k_bk_fanIn, 14, .inl f_bk_fanIn)), (bk_draught, .inl (k_bk_draught, 14, .inl f_bk_draught)), (gr_fanPush, .inl (k_gr_fanPush, 4, .inl f_gr_fanPush)), (st_speed, .inl (k_st_speed, 4, .inl f_st_speed)), (st_fire, .inl (k_st_fire, 14, .inl f_st_fire)), (fw_hindrance, .inl (k_fw_hindrance, 14, .inr (.inl f_fw_hindrance))), (fw_pull, .inl (k_fw_pull, 14, .inr (.inl f_fw_pull))), (fw_droop, .inl (k_fw_droop, 14, .inr (.inl f_fw_droop))), (gr_fanFall, .inl (k_gr_fanFall, 4, .inl f_gr_fanFall)), (st_fallen, .inl (k_st_fallen, 14, .inl f_st_fallen)), (fw_air, .inl (k_fw_air, 14, .inl f_fw_air))] U.heap ∧ va_K (dC, dI) classes [(k_bk_doorIn, .int), (k_bk_hinder, .int), (k_gr_doorBy, .int), (k_st_open, .boolean), (k_bk_fanIn, .int), (k_bk_draught, .int), (k_gr_fanPush, .int), (k_st_speed, .int), (k_st_fire, .int), (k_fw_hindrance, .long), (k_fw_pull, .long), (k_fw_droop, .long), (k_gr_fanFall, .int), (k_st_fallen, .boolean), (k_fw_air, .int)] U ∧ va_D (fun q => n0 ≤ q) [(fw, .inr (2, [.ref fw_air, .ref bk, .ref st, .ref fw_hindrance, .ref fw_pull, .ref fw_droop, .ref fw_forth, .ref fw_back, .ref fw_label, .ref fw_cause, .ref fw_seen, .ref fw_round])), (st, .inr (9, [.ref st_open, .ref st_speed, .ref st_fallen, .ref st_fire, .int st_mark, .int st_moreIn, .int st_more, .ref bk])), (bk, .inr (0, [.int (nI bw), .ref bk_tail, .ref bk_head, .ref bk_hinder, .ref bk_size, .ref bk_walk, .ref bk_draught, .ref bk_doorIn, .ref bk_fanIn, .ref bk_faceIn, .int (nI bn), .int bk_day, .ref gr])), (gr, .inr (3, [.int (nI gd), .ref gr_doorBy, .int (nI gp), .ref gr_pairFirst, .ref gr_pairSecond, .int (nI gf), .ref gr_fanPush, .ref gr_fanFall, .ref gr_fanCost, .int (nI ge), .ref gr_faceWay, .ref gr_faceGas, .ref gr_faceNeed])), (bk_doorIn, .inl (k_bk_doorIn, 14, .inl f_bk_doorIn)), (bk_hinder, .inl (k_bk_hinder, 14, .inl f_bk_hinder)), (gr_doorBy, .inl (k_gr_doorBy, 6, .inl f_gr_doorBy)), (st_open, .inl (k_st_open, 6, .inl f_st_open)), (bk_fanIn, .inl (k_bk_fanIn, 14, .inl f_bk_fanIn)), (bk_draught, .inl (k_bk_draught, 14, .inl f_bk_draught)), (gr_fanPush, .inl (k_gr_fanPush, 4, .inl f_gr_fanPush)), (st_speed, .inl (k_st_speed, 4, .inl f_st_speed)), (st_fire, .inl (k_st_fire, 14, .inl f_st_fire)), (fw_hindrance, .inl (k_fw_hindrance, 14, .inr (.inl f_fw_hindrance))), (fw_pull, .inl (k_fw_pull, 14, .inr (.inl f_fw_pull))), (fw_droop, .inl (k_fw_droop, 14, .inr (.inl f_fw_droop))), (gr_fanFall, .inl (k_gr_fanFall, 4, .inl f_gr_fanFall)), (st_fallen, .inl (k_st_fallen, 14, .inl f_st_fallen)), (fw_air, .inl (k_fw_air, 14, .inl f_fw_air))])) (va_Qv (fun _ : Unit => True) (fun (_ : Unit) (t : State) => ∃ (hi9 : Nat → Int64), ∃ (pu9 : Nat → Int64), ∃ (dr9 : Nat → Int64), ∃ (ai9 : Nat → Int32), va_P (dC, dI) classes [(fw, .inr (2, [.ref fw_air, .ref bk, .ref st, .ref fw_hindrance, .ref fw_pull, .ref fw_droop, .ref fw_forth, .ref fw_back, .ref fw_label, .ref fw_cause, .ref fw_seen, .ref fw_round])), (st, .inr (9, [.ref st_open, .ref st_speed, .ref st_fallen, .ref st_fire, .int st_mark, .int st_moreIn, .int st_more, .ref bk])), (bk, .inr (0, [.int (nI bw), .ref bk_tail, .ref bk_head, .ref bk_hinder, .ref bk_size, .ref bk_walk, .ref bk_draught, .ref bk_doorIn, .ref bk_fanIn, .ref bk_faceIn, .int (nI bn), .int bk_day, .ref gr])), (gr, .inr (3, [.int (nI gd), .ref gr_doorBy, .int (nI gp), .ref gr_pairFirst, .ref gr_pairSecond, .int (nI gf), .ref gr_fanPush, .ref gr_fanFall, .ref gr_fanCost, .int (nI ge), .ref gr_faceWay, .ref gr_faceGas, .ref gr_faceNeed])), (bk_doorIn, .inl (k_bk_doorIn, 14, .inl f_bk_doorIn)), (bk_hinder, .inl (k_bk_hinder, 14, .inl f_bk_hinder)), (gr_doorBy, .inl (k_gr_doorBy, 6, .inl f_gr_doorBy)), (st_open, .inl (k_st_open, 6, .inl f_st_open)), (bk_fanIn, .inl (k_bk_fanIn, 14, .inl f_bk_fanIn)), (bk_draught, .inl (k_bk_draught, 14, .inl f_bk_draught)), (gr_fanPush, .inl (k_gr_fanPush, 4, .inl f_gr_fanPush)), (st_speed, .inl (k_st_speed, 4, .inl f_st_speed)), (st_fire, .inl (k_st_fire, 14, .inl f_st_fire)), (fw_hindrance, .inl (k_fw_hindrance, 14, .inr (.inl hi9))), (fw_pull, .inl (k_fw_pull, 14, .inr (.inl pu9))), (fw_droop, .inl (k_fw_droop, 14, .inr (.inl dr9))), (gr_fanFall, .inl (k_gr_fanFall, 4, .inl f_gr_fanFall)), (st_fallen, .inl (k_st_fallen, 14, .inl f_st_fallen)), (fw_air, .inl (k_fw_air, 14, .inl ai9))] t.heap ∧ va_K (dC, dI) classes [(k_bk_doorIn, .int), (k_bk_hinder, .int), (k_gr_doorBy, .int), (k_st_open, .boolean), (k_bk_fanIn, .int), (k_bk_draught, .int), (k_gr_fanPush, .int), (k_st_speed, .int), (k_st_fire, .int), (k_fw_hindrance, .long), (k_fw_pull, .long), (k_fw_droop, .long), (k_gr_fanFall, .int), (k_st_fallen, .boolean), (k_fw_air, .int)] t ∧ va_D (va_A [(fw, .inr (2, [.ref fw_air, .ref bk, .ref st, .ref fw_hindrance, .ref fw_pull, .ref fw_droop, .ref fw_forth, .ref fw_back, .ref fw_label, .ref fw_cause, .ref fw_seen, .ref fw_round])), (st, .inr (9, [.ref st_open, .ref st_speed, .ref st_fallen, .ref st_fire, .int st_mark, .int st_moreIn, .int st_more, .ref bk])), (bk, .inr (0, [.int (nI bw), .ref bk_tail, .ref bk_head, .ref bk_hinder, .ref bk_size, .ref bk_walk, .ref bk_draught, .ref bk_doorIn, .ref bk_fanIn, .ref bk_faceIn, .int (nI bn), .int bk_day, .ref gr])), (gr, .inr (3, [.int (nI gd), .ref gr_doorBy, .int (nI gp), .ref gr_pairFirst, .ref gr_pairSecond, .int (nI gf), .ref gr_fanPush, .ref gr_fanFall, .ref gr_fanCost, .int (nI ge), .ref gr_faceWay, .ref gr_faceGas, .ref gr_faceNeed])), (bk_doorIn, .inl (k_bk_doorIn, 14, .inl f_bk_doorIn)), (bk_hinder, .inl (k_bk_hinder, 14, .inl f_bk_hinder)), (gr_doorBy, .inl (k_gr_doorBy, 6, .inl f_gr_doorBy)), (st_open, .inl (k_st_open, 6, .inl f_st_open)), (bk_fanIn, .inl (k_bk_fanIn, 14, .inl f_bk_fanIn)), (bk_draught, .inl (k_bk_draught, 14, .inl f_bk_draught)), (gr_fanPush, .inl (k_gr_fanPush, 4, .inl f_gr_fanPush)), (st_speed, .inl (k_st_speed, 4, .inl f_st_speed)), (st_fire, .inl (k_st_fire, 14, .inl f_st_fire)), (fw_hindrance, .inl (k_fw_hindrance, 14, .inr (.inl f_fw_hindrance))), (fw_pull, .inl (k_fw_pull, 14, .inr (.inl f_fw_pull))), (fw_droop, .inl (k_fw_droop, 14, .inr (.inl f_fw_droop))), (gr_fanFall, .inl (k_gr_fanFall, 4, .inl f_gr_fanFall)), (st_fallen, .inl (k_st_fallen, 14, .inl f_st_fallen)), (fw_air, .inl (k_fw_air, 14, .inl f_fw_air))] sz) [(fw, .inr (2, [.ref fw_air, .ref bk, .ref st, .ref fw_hindrance, .ref fw_pull, .ref fw_droop, .ref fw_forth, .ref fw_back, .ref fw_label, .ref fw_cause, .ref fw_seen, .ref fw_round])), (st, .inr (9, [.ref st_open, .ref st_speed, .ref st_fallen, .ref st_fire, .int st_mark, .int st_moreIn, .int st_more, .ref bk])), (bk, .inr (0, [.int (nI bw), .ref bk_tail, .ref bk_head, .ref bk_hinder, .ref bk_size, .ref bk_walk, .ref bk_draught, .ref bk_doorIn, .ref bk_fanIn, .ref bk_faceIn, .int (nI bn), .int bk_day, .ref gr])), (gr, .inr (3, [.int (nI gd), .ref gr_doorBy, .int (nI gp), .ref gr_pairFirst, .ref gr_pairSecond, .int (nI gf), .ref gr_fanPush, .ref gr_fanFall, .ref gr_fanCost, .int (nI ge), .ref gr_faceWay, .ref gr_faceGas, .ref gr_faceNeed])), (bk_doorIn, .inl (k_bk_doorIn, 14, .inl f_bk_doorIn)), (bk_hinder, .inl (k_bk_hinder, 14, .inl f_bk_hinder)), (gr_doorBy, .inl (k_gr_doorBy, 6, .inl f_gr_doorBy)), (st_open, .inl (k_st_open, 6, .inl f_st_open)), (bk_fanIn, .inl (k_bk_fanIn, 14, .inl f_bk_fanIn)), (bk_draught, .inl (k_bk_draught, 14, .inl f_bk_draught)), (gr_fanPush, .inl (k_gr_fanPush, 4, .inl f_gr_fanPush)), (st_speed, .inl (k_st_speed, 4, .inl f_st_speed)), (st_fire, .inl (k_st_fire, 14, .inl f_st_fire)), (fw_hindrance, .inl (k_fw_hindrance, 14, .inr (.inl hi9))), (fw_pull, .inl (k_fw_pull, 14, .inr (.inl pu9))), (fw_droop, .inl (k_fw_droop, 14, .inr (.inl dr9))), (gr_fanFall, .inl (k_gr_fanFall, 4, .inl f_gr_fanFall)), (st_fallen, .inl (k_st_fallen, 14, .inl f_st_fallen)), (fw_air, .inl (k_fw_air, 14, .inl ai9))]) (va_A [(fw, .inr (2, [.ref fw_air, .ref bk, .ref st, .ref fw_hindrance, .ref fw_pull, .ref fw_droop, .ref fw_forth, .ref fw_back, .ref fw_label, .ref fw_cause, .ref fw_seen, .ref fw_round])), (st, .inr (9, [.ref st_open, .ref st_speed, .ref st_fallen, .ref st_fire, .int st_mark, .int st_moreIn, .int st_more, .ref bk])), (bk, .inr (0, [.int (nI bw), .ref bk_tail, .ref bk_head, .ref bk_hinder, .ref bk_size, .ref bk_walk, .ref bk_draught, .ref bk_doorIn, .ref bk_fanIn, .ref bk_faceIn, .int (nI bn), .int bk_day, .ref gr])), (gr, .inr (3, [.int (nI gd), .ref gr_doorBy, .int (nI gp), .ref gr_pairFirst, .ref gr_pairSecond, .int (nI gf), .ref gr_fanPush, .ref gr_fanFall, .ref gr_fanCost, .int (nI ge), .ref gr_faceWay, .ref gr_faceGas, .ref gr_faceNeed])), (bk_doorIn, .inl (k_bk_doorIn, 14, .inl f_bk_doorIn)), (bk_hinder, .inl (k_bk_hinder, 14, .inl f_bk_hinder)), (gr_doorBy, .inl (k_gr_doorBy, 6, .inl f_gr_doorBy)), (st_open, .inl (k_st_open, 6, .inl f_st_open)), (bk_fanIn, .inl (k_bk_fanIn, 14, .inl f_bk_fanIn)), (bk_draught, .inl (k_bk_draught, 14, .inl f_bk_draught)), (gr_fanPush, .inl (k_gr_fanPush, 4, .inl f_gr_fanPush)), (st_speed, .inl (k_st_speed, 4, .inl f_st_speed)), (st_fire, .inl (k_st_fire, 14, .inl f_st_fire)), (fw_hindrance, .inl (k_fw_hindrance, 14, .inr (.inl f_fw_hindrance))), (fw_pull, .inl (k_fw_pull, 14, .inr (.inl f_fw_pull))), (fw_droop, .inl (k_fw_droop, 14, .inr (.inl f_fw_droop))), (gr_fanFall, .inl (k_gr_fanFall, 4, .inl f_gr_fanFall)), (st_fallen, .inl (k_st_fallen, 14, .inl f_st_fallen)), (fw_air, .inl (k_fw_air, 14, .inl f_fw_air))] sz)) 0 0 (va_A [(fw, .inr (2, [.ref fw_air, .ref bk, .ref st, .ref fw_hindrance, .ref fw_pull, .ref fw_droop, .ref fw_forth, .ref fw_back, .ref fw_label, .ref fw_cause, .ref fw_seen, .ref fw_round])), (st, .inr (9, [.ref st_open, .ref st_speed, .ref st_fallen, .ref st_fire, .int st_mark, .int st_moreIn, .int st_more, .ref bk])), (bk, .inr (0, [.int (nI bw), .ref bk_tail, .ref bk_head, .ref bk_hinder, .ref bk_size, .ref bk_walk, .ref bk_draught, .ref bk_doorIn, .ref bk_fanIn, .ref bk_faceIn, .int (nI bn), .int bk_day, .ref gr])), (gr, .inr (3, [.int (nI gd), .ref gr_doorBy, .int (nI gp), .ref gr_pairFirst, .ref gr_pairSecond, .int (nI gf), .ref gr_fanPush, .ref gr_fanFall, .ref gr_fanCost, .int (nI ge), .ref gr_faceWay, .ref gr_faceGas, .ref gr_faceNeed])), (bk_doorIn, .inl (k_bk_doorIn, 14, .inl f_bk_doorIn)), (bk_hinder, .inl (k_bk_hinder, 14, .inl f_bk_hinder)), (gr_doorBy, .inl (k_gr_doorBy, 6, .inl f_gr_doorBy)), (st_open, .inl (k_st_open, 6, .inl f_st_open)), (bk_fanIn, .inl (k_bk_fanIn, 14, .inl f_bk_fanIn)), (bk_draught, .inl (k_bk_draught, 14, .inl f_bk_draught)), (gr_fanPush, .inl (k_gr_fanPush, 4, .inl f_gr_fanPush)), (st_speed, .inl (k_st_speed, 4, .inl f_st_speed)), (st_fire, .inl (k_st_fire, 14, .inl f_st_fire)), (fw_hindrance, .inl (k_fw_hindrance, 14, .inr (.inl f_fw_hindrance))), (fw_pull, .inl (k_fw_pull, 14, .inr (.inl f_fw_pull))), (fw_droop, .inl (k_fw_droop, 14, .inr (.inl f_fw_droop))), (gr_fanFall, .inl (k_gr_fanFall, 4, .inl f_gr_fanFall)), (st_fallen, .inl (k_st_fallen, 14, .inl f_st_fallen)), (fw_air, .inl (k_fw_air, 14, .inl f_fw_air))] sz) := by
  refine Met.ofW (cc := cX2_takeState) (maxL := 4) (ret := none) (by decide) rfl ?_
  intro p e s m args below meth c s₁ B hml hv
  obtain ⟨rfl, hsz, hn0, hG, hP, hK, hD0⟩ := hv
  have hx := B.exec
  have hb := B.bytes
  have hr := B.returns
  have hts := atoms_spec (ws := wM yX2_takeState cX2_takeState 4 none) B.pre
  have hown : s.vm.findClass RX2 = some m.cls := findClass_of_methodNamed B.named
  have hlocks := B.notSynchronized
  subst hsz
  have hD := hD0.self (sz := s.heap.size)
  have hA0 := vA_n0 hD0 hn0
  generalize hAe : va_A [(fw, .inr (2, [.ref fw_air, .ref bk, .ref st, .ref fw_hindrance, .ref fw_pull, .ref fw_droop, .ref fw_forth, .ref fw_back, .ref fw_label, .ref fw_cause, .ref fw_seen, .ref fw_round])), (st, .inr (9, [.ref st_open, .ref st_speed, .ref st_fallen, .ref st_fire, .int st_mark, .int st_moreIn, .int st_more, .ref bk])), (bk, .inr (0, [.int (nI bw), .ref bk_tail, .ref bk_head, .ref bk_hinder, .ref bk_size, .ref bk_walk, .ref bk_draught, .ref bk_doorIn, .ref bk_fanIn, .ref bk_faceIn, .int (nI bn), .int bk_day, .ref gr])), (gr, .inr (3, [.int (nI gd), .ref gr_doorBy, .int (nI gp), .ref gr_pairFirst, .ref gr_pairSecond, .int (nI gf), .ref gr_fanPush, .ref gr_fanFall, .ref gr_fanCost, .int (nI ge), .ref gr_faceWay, .ref gr_faceGas, .ref gr_faceNeed])), (bk_doorIn, .inl (k_bk_doorIn, 14, .inl f_bk_doorIn)), (bk_hinder, .inl (k_bk_hinder, 14, .inl f_bk_hinder)), (gr_doorBy, .inl (k_gr_doorBy, 6, .inl f_gr_doorBy)), (st_open, .inl (k_st_open, 6, .inl f_st_open)), (bk_fanIn, .inl (k_bk_fanIn, 14, .inl f_bk_fanIn)), (bk_draught, .inl (k_bk_draught, 14, .inl f_bk_draught)), (gr_fanPush, .inl (k_gr_fanPush, 4, .inl f_gr_fanPush)), (st_speed, .inl (k_st_speed, 4, .inl f_st_speed)), (st_fire, .inl (k_st_fire, 14, .inl f_st_fire)), (fw_hindrance, .inl (k_fw_hindrance, 14, .inr (.inl f_fw_hindrance))), (fw_pull, .inl (k_fw_pull, 14, .inr (.inl f_fw_pull))), (fw_droop, .inl (k_fw_droop, 14, .inr (.inl f_fw_droop))), (gr_fanFall, .inl (k_gr_fanFall, 4, .inl f_gr_fanFall)), (st_fallen, .inl (k_st_fallen, 14, .inl f_st_fallen)), (fw_air, .inl (k_fw_air, 14, .inl f_fw_air))] s.heap.size = A at hD hA0 ⊢
  have hA : ∀ q : Nat, s.heap.size ≤ q → A q := fun q h => by rw [← hAe]; exact Or.inr h
  have hS : va_S A s.heap s.heap [] := va_S.rf
  have hl := lv_entry ([.ref fw]) (n := 4) (Nat.le_of_ble_eq_true rfl)
  rw [lg_entry_eq]
  generalize (lg_sl ([.ref fw]) ++ List.replicate (4 - (lg_sl ([.ref fw])).length) Slot.unset).toArray = ls at hl ⊢
  have hl : lv_has ls 4 [(0, .ref fw)] := hl
  refine lv_iconst (v := 0) hx hb dX2_takeState_0 (by decide) ?_
  refine lv_istore_n (lv' := [(1, .int 0), (0, .ref fw)]) hx hb dX2_takeState_1 rfl hl (by decide) rfl (fun ls hl => ?_)
  refine lv_iconst (v := 0) hx hb dX2_takeState_2 (by decide) ?_
  refine lv_istore_n (lv' := [(2, .int 0), (1, .int 0), (0, .ref fw)]) hx hb dX2_takeState_3 rfl hl (by decide) rfl (fun ls hl => ?_)
  refine W_lp5 (I := fun (cu : Int32) (i : Nat) (hi1 : Nat → Int64) (pu1 : Nat → Int64) (dr1 : Nat → Int64) H locs ls => (i ≤ bw) ∧ va_P (dC, dI) classes [(fw, .inr (2, [.ref fw_air, .ref bk, .ref st, .ref fw_hindrance, .ref fw_pull, .ref fw_droop, .ref fw_forth, .ref fw_back, .ref fw_label, .ref fw_cause, .ref fw_seen, .ref fw_round])), (st, .inr (9, [.ref st_open, .ref st_speed, .ref st_fallen, .ref st_fire, .int st_mark, .int st_moreIn, .int st_more, .ref bk])), (bk, .inr (0, [.int (nI bw), .ref bk_tail, .ref bk_head, .ref bk_hinder, .ref bk_size, .ref bk_walk, .ref bk_draught, .ref bk_doorIn, .ref bk_fanIn, .ref bk_faceIn, .int (nI bn), .int bk_day, .ref gr])), (gr, .inr (3, [.int (nI gd), .ref gr_doorBy, .int (nI gp), .ref gr_pairFirst, .ref gr_pairSecond, .int (nI gf), .ref gr_fanPush, .ref gr_fanFall, .ref gr_fanCost, .int (nI ge), .ref gr_faceWay, .ref gr_faceGas, .ref gr_faceNeed])), (bk_doorIn, .inl (k_bk_doorIn, 14, .inl f_bk_doorIn)), (bk_hinder, .inl (k_bk_hinder, 14, .inl f_bk_hinder)), (gr_doorBy, .inl (k_gr_doorBy, 6, .inl f_gr_doorBy)), (st_open, .inl (k_st_open, 6, .inl f_st_open)), (bk_fanIn, .inl (k_bk_fanIn, 14, .inl f_bk_fanIn)), (bk_draught, .inl (k_bk_draught, 14, .inl f_bk_draught)), (gr_fanPush, .inl (k_gr_fanPush, 4, .inl f_gr_fanPush)), (st_speed, .inl (k_st_speed, 4, .inl f_st_speed)), (st_fire, .inl (k_st_fire, 14, .inl f_st_fire)), (fw_hindrance, .inl (k_fw_hindrance, 14, .inr (.inl hi1))), (fw_pull, .inl (k_fw_pull, 14, .inr (.inl pu1))), (fw_droop, .inl (k_fw_droop, 14, .inr (.inl dr1))), (gr_fanFall, .inl (k_gr_fanFall, 4, .inl f_gr_fanFall)), (st_fallen, .inl (k_st_fallen, 14, .inl f_st_fallen)), (fw_air, .inl (k_fw_air, 14, .inl f_fw_air))] H ∧ va_D A [(fw, .inr (2, [.ref fw_air, .ref bk, .ref st, .ref fw_hindrance, .ref fw_pull, .ref fw_droop, .ref fw_forth, .ref fw_back, .ref fw_label, .ref fw_cause, .ref fw_seen, .ref fw_round])), (st, .inr (9, [.ref st_open, .ref st_speed, .ref st_fallen, .ref st_fire, .int st_mark, .int st_moreIn, .int st_more, .ref bk])), (bk, .inr (0, [.int (nI bw), .ref bk_tail, .ref bk_head, .ref bk_hinder, .ref bk_size, .ref bk_walk, .ref bk_draught, .ref bk_doorIn, .ref bk_fanIn, .ref bk_faceIn, .int (nI bn), .int bk_day, .ref gr])), (gr, .inr (3, [.int (nI gd), .ref gr_doorBy, .int (nI gp), .ref gr_pairFirst, .ref gr_pairSecond, .int (nI gf), .ref gr_fanPush, .ref gr_fanFall, .ref gr_fanCost, .int (nI ge), .ref gr_faceWay, .ref gr_faceGas, .ref gr_faceNeed])), (bk_doorIn, .inl (k_bk_doorIn, 14, .inl f_bk_doorIn)), (bk_hinder, .inl (k_bk_hinder, 14, .inl f_bk_hinder)), (gr_doorBy, .inl (k_gr_doorBy, 6, .inl f_gr_doorBy)), (st_open, .inl (k_st_open, 6, .inl f_st_open)), (bk_fanIn, .inl (k_bk_fanIn, 14, .inl f_bk_fanIn)), (bk_draught, .inl (k_bk_draught, 14, .inl f_bk_draught)), (gr_fanPush, .inl (k_gr_fanPush, 4, .inl f_gr_fanPush)), (st_speed, .inl (k_st_speed, 4, .inl f_st_speed)), (st_fire, .inl (k_st_fire, 14, .inl f_st_fire)), (fw_hindrance, .inl (k_fw_hindrance, 14, .inr (.inl hi1))), (fw_pull, .inl (k_fw_pull, 14, .inr (.inl pu1))), (fw_droop, .inl (k_fw_droop, 14, .inr (.inl dr1))), (gr_fanFall, .inl (k_gr_fanFall, 4, .inl f_gr_fanFall)), (st_fallen, .inl (k_st_fallen, 14, .inl f_st_fallen)), (fw_air, .inl (k_fw_air, 14, .inl f_fw_air))] ∧ va_S A s.heap H locs ∧ lv_has ls 4 [(0, .ref fw), (1, .int cu), (2, .int (nI i))]) (μ := fun (cu : Int32) (i : Nat) (hi1 : Nat → Int64) (pu1 : Nat → Int64) (dr1 : Nat → Int64) => bw - i) ?_ 0 0 f_fw_hindrance f_fw_pull f_fw_droop _ _ _ ⟨(by first | with_reducible assumption | omega | exact vp_in_iff.mpr (by omega) | exact vp_in_nI (by omega) (by omega) | exact ⟨by omega, by omega⟩), hP, hD, hS, lv_sub hl [2, 1, 0] rfl⟩
  intro cu i hi1 pu1 dr1 H locs ls hI ih_1
  obtain ⟨hi, hP, hD, hS, hl⟩ := hI
  refine lv_iload_n hx hb dX2_takeState_4 rfl (lv_at hl 2 rfl) ?_
  refine lv_aload_n hx hb dX2_takeState_5 rfl (lv_at hl 0 rfl) ?_
  refine va_get (D := (dC, dI)) (ci := 2) (v := .ref bk) (C := RX2) (T := TX2) (N := 12) hx hb hts (fun w h => wM_c (iX2 w h)) hown hK hP 0 rfl rfl 1 (by decide) (hts _ (wM_c wd_447)) (fun _ h9 => h9) rfl dX2_takeState_6 ?_
  refine va_get (D := (dC, dI)) (ci := 0) (v := .int (nI bw)) (C := RX0) (T := TX0) (N := 13) hx hb hts (fun w h => wM_c (iX0 w h)) hown hK hP 2 rfl rfl 0 (by decide) (hts _ (wM_c wd_241)) (fun _ h9 => h9) rfl dX2_takeState_9 ?_
  refine lv_icmp_ge (tgt := 112) hx hb dX2_takeState_12 (by decide) (fun c_2 => ?_) (fun c_2 => ?_)
  · skip
    have g_3 := n_ge (a := i) (b := bw) c_2 (by omega) (by omega)
    refine lv_iload_n hx hb dX2_takeState_112 rfl (lv_at hl 1 rfl) ?_
    refine lv_if_eq (tgt := 120) hx hb dX2_takeState_113 (by decide) (fun c_4 => ?_) (fun c_4 => ?_)
    · skip
      have g_5 : cu.toInt = (0 : Int) := i_eq c_4
      have hK9 := hK.sub (tys' := [(k_bk_doorIn, .int), (k_bk_hinder, .int), (k_gr_doorBy, .int), (k_st_open, .boolean), (k_bk_fanIn, .int), (k_bk_draught, .int), (k_gr_fanPush, .int), (k_st_speed, .int), (k_st_fire, .int), (k_fw_hindrance, .long), (k_fw_pull, .long), (k_fw_droop, .long), (k_gr_fanFall, .int), (k_st_fallen, .boolean), (k_fw_air, .int)]) [0, 1, 2, 3, 4, 5, 6, 7, 8, 9, 10, 11, 12, 13, 14] rfl
      exact W.vret hx hb hr (fun t ht hW => ⟨⟨(), rfl, trivial, hi1, pu1, dr1, f_fw_air, by rw [ht]; exact hP.sub [0, 1, 2, 3, 4, 5, 6, 7, 8, 9, 10, 11, 12, 13, 14, 15, 16, 17, 18] rfl, va_K.moved hW.alike hK9, hD.sub [0, 1, 2, 3, 4, 5, 6, 7, 8, 9, 10, 11, 12, 13, 14, 15, 16, 17, 18] (by decide) rfl⟩, hS.F ht⟩) hS.2.2 dX2_takeState_120
    · skip
      have g_6 : cu.toInt ≠ (0 : Int) := i_ne c_4
      refine lv_aload_n hx hb dX2_takeState_116 rfl (lv_at hl 0 rfl) ?_
      obtain ⟨hPc, hDc, hFc⟩ := s3_c (ws' := [(fw, .inr (2, [.ref fw_air, .ref bk, .ref st, .ref fw_hindrance, .ref fw_pull, .ref fw_droop, .ref fw_forth, .ref fw_back, .ref fw_label, .ref fw_cause, .ref fw_seen, .ref fw_round])), (fw_air, .inl (k_fw_air, 14, .inl f_fw_air))]) [0, 18] hP hD hS hA rfl (by decide)
      have hKc := hK.sub (tys' := [(k_fw_air, .int)]) [14] rfl
      refine va_callv (va_runV (As := []) (rest := []) ⟨hx, hb, hml, hown, hts⟩ (c2_clear l dC dI n0 atx H.size fw fw_air bk st fw_hindrance fw_pull fw_droop fw_forth fw_back fw_label fw_cause fw_seen fw_round k_fw_air f_fw_air ) (cwV 0 hts (gV (fun w h => wM_c h) wd_911 wd_1019 wd_909 wd_910 wd_120) rfl rfl rfl (by decide +kernel) ⟨Nat.le_of_ble_eq_true rfl, Nat.le_of_ble_eq_true rfl⟩) ⟨fun a U g mk q => by obtain ⟨q0, q1, q2, qG, qP, qK, qD⟩ := q; exact ⟨q0, q1, q2, GW.blind qG, qP, va_K.moved (u := U) (U := U.calling g mk a) (Vm.Alike.refl U.vm) qK, qD⟩, va_recv hKc hPc (ci := 2) (q0 := 0) rfl rfl, fun U hU hW => ⟨rfl, by rw [hU], Nat.le_trans hn0 hS.1, GW.go hW hU hG (fun q hq hA9 => hS.2.1 q hq (fun h => hA9 (hA0 q h))), by rw [hU]; exact hPc, va_K.moved hW.alike hKc, hDc.weaken (fun _ _ _ h => hA0 _ h)⟩⟩ rfl rfl hl.1 rfl (lv_room (Nat.le_of_ble_eq_true rfl)) dX2_takeState_117 ⟨Nat.le_of_ble_eq_true rfl, Nat.le_of_ble_eq_true rfl⟩) hS (fun q _ h => hFc q h) hFc (fun u t H1 locs ht hvm hw_8 hB hz1 hk1 hS => ?_)
      obtain ⟨ai9_9, hf_10, hP1, hK1, hD1⟩ := hB
      rw [ht] at hP1
      obtain ⟨hP, hD⟩ := s3_j (L := [(st, .inr (9, [.ref st_open, .ref st_speed, .ref st_fallen, .ref st_fire, .int st_mark, .int st_moreIn, .int st_more, .ref bk])), (bk, .inr (0, [.int (nI bw), .ref bk_tail, .ref bk_head, .ref bk_hinder, .ref bk_size, .ref bk_walk, .ref bk_draught, .ref bk_doorIn, .ref bk_fanIn, .ref bk_faceIn, .int (nI bn), .int bk_day, .ref gr])), (gr, .inr (3, [.int (nI gd), .ref gr_doorBy, .int (nI gp), .ref gr_pairFirst, .ref gr_pairSecond, .int (nI gf), .ref gr_fanPush, .ref gr_fanFall, .ref gr_fanCost, .int (nI ge), .ref gr_faceWay, .ref gr_faceGas, .ref gr_faceNeed])), (bk_doorIn, .inl (k_bk_doorIn, 14, .inl f_bk_doorIn)), (bk_hinder, .inl (k_bk_hinder, 14, .inl f_bk_hinder)), (gr_doorBy, .inl (k_gr_doorBy, 6, .inl f_gr_doorBy)), (st_open, .inl (k_st_open, 6, .inl f_st_open)), (bk_fanIn, .inl (k_bk_fanIn, 14, .inl f_bk_fanIn)), (bk_draught, .inl (k_bk_draught, 14, .inl f_bk_draught)), (gr_fanPush, .inl (k_gr_fanPush, 4, .inl f_gr_fanPush)), (st_speed, .inl (k_st_speed, 4, .inl f_st_speed)), (st_fire, .inl (k_st_fire, 14, .inl f_st_fire)), (fw_hindrance, .inl (k_fw_hindrance, 14, .inr (.inl hi1))), (fw_pull, .inl (k_fw_pull, 14, .inr (.inl pu1))), (fw_droop, .inl (k_fw_droop, 14, .inr (.inl dr1))), (gr_fanFall, .inl (k_gr_fanFall, 4, .inl f_gr_fanFall)), (st_fallen, .inl (k_st_fallen, 14, .inl f_st_fallen)), (fw, .inr (2, [.ref fw_air, .ref bk, .ref st, .ref fw_hindrance, .ref fw_pull, .ref fw_droop, .ref fw_forth, .ref fw_back, .ref fw_label, .ref fw_cause, .ref fw_seen, .ref fw_round])), (fw_air, .inl (k_fw_air, 14, .inl ai9_9))]) 17 hP hD [0, 18] [1, 2, 3, 4, 5, 6, 7, 8, 9, 10, 11, 12, 13, 14, 15, 16, 17] hk1 hFc hP1 hD1 rfl rfl rfl (by decide) (by decide)
      generalize H1 = H at hP hS ⊢
      have hK9 := hK.sub (tys' := [(k_bk_doorIn, .int), (k_bk_hinder, .int), (k_gr_doorBy, .int), (k_st_open, .boolean), (k_bk_fanIn, .int), (k_bk_draught, .int), (k_gr_fanPush, .int), (k_st_speed, .int), (k_st_fire, .int), (k_fw_hindrance, .long), (k_fw_pull, .long), (k_fw_droop, .long), (k_gr_fanFall, .int), (k_st_fallen, .boolean), (k_fw_air, .int)]) [0, 1, 2, 3, 4, 5, 6, 7, 8, 9, 10, 11, 12, 13, 14] rfl
      exact W.vret hx hb hr (fun t ht hW => ⟨⟨(), rfl, trivial, hi1, pu1, dr1, ai9_9, by rw [ht]; exact hP.sub [17, 0, 1, 2, 3, 4, 5, 6, 7, 8, 9, 10, 11, 12, 13, 14, 15, 16, 18] rfl, va_K.moved hW.alike hK9, hD.sub [17, 0, 1, 2, 3, 4, 5, 6, 7, 8, 9, 10, 11, 12, 13, 14, 15, 16, 18] (by decide) rfl⟩, hS.F ht⟩) hS.2.2 dX2_takeState_120
  · skip
    have g_11 := n_nge (a := i) (b := bw) c_2 (by omega) (by omega)
    refine lv_aload_n hx hb dX2_takeState_15 rfl (lv_at hl 0 rfl) ?_
    refine va_get (D := (dC, dI)) (ci := 2) (v := .ref bk) (C := RX2) (T := TX2) (N := 12) hx hb hts (fun w h => wM_c (iX2 w h)) hown hK hP 0 rfl rfl 1 (by decide) (hts _ (wM_c wd_447)) (fun _ h9 => h9) rfl dX2_takeState_16 ?_
    refine va_get (D := (dC, dI)) (ci := 0) (v := .ref bk_fanIn) (C := RX0) (T := TX0) (N := 13) hx hb hts (fun w h => wM_c (iX0 w h)) hown hK hP 2 rfl rfl 8 (by decide) (hts _ (wM_c wd_277)) (fun _ h9 => h9) rfl dX2_takeState_19 ?_
    refine lv_iload_n hx hb dX2_takeState_22 rfl (lv_at hl 2 rfl) ?_
    refine va_iald hx hb hK hP 8 4 rfl rfl (vp_in_nI (n := i) (by omega) (by omega)) dX2_takeState_23 ?_
    refine lv_topi (fun v_12 ev_12 => ?_)
    have nv_12 : v_12 = f_bk_fanIn i := by rw [ev_12]; exact congrArg _ (nI_clamp (by omega))
    have g_13 : (-1) ≤ v_12.toInt ∧ v_12.toInt < 4 := by rw [ev_12]; exact rg_in q_fanIn (by omega) (by omega)
    refine lv_istore_n (lv' := [(3, .int v_12), (0, .ref fw), (1, .int cu), (2, .int (nI i))]) hx hb dX2_takeState_24 rfl hl (by decide) rfl (fun ls hl => ?_)
    refine lv_aload_n hx hb dX2_takeState_25 rfl (lv_at hl 1 rfl) ?_
    refine va_get (D := (dC, dI)) (ci := 2) (v := .ref fw_hindrance) (C := RX2) (T := TX2) (N := 12) hx hb hts (fun w h => wM_c (iX2 w h)) hown hK hP 0 rfl rfl 3 (by decide) (hts _ (wM_c wd_449)) (fun _ h9 => h9) rfl dX2_takeState_26 ?_
    refine lv_iload_n hx hb dX2_takeState_29 rfl (lv_at hl 3 rfl) ?_
    refine lv_aload_n hx hb dX2_takeState_30 rfl (lv_at hl 1 rfl) ?_
    refine va_get (D := (dC, dI)) (ci := 2) (v := .ref st) (C := RX2) (T := TX2) (N := 12) hx hb hts (fun w h => wM_c (iX2 w h)) hown hK hP 0 rfl rfl 2 (by decide) (hts _ (wM_c wd_448)) (fun _ h9 => h9) rfl dX2_takeState_31 ?_
    refine lv_iload_n hx hb dX2_takeState_34 rfl (lv_at hl 3 rfl) ?_
    obtain ⟨hPc, hDc, hFc⟩ := s3_c (ws' := [(st, .inr (9, [.ref st_open, .ref st_speed, .ref st_fallen, .ref st_fire, .int st_mark, .int st_moreIn, .int st_more, .ref bk])), (bk, .inr (0, [.int (nI bw), .ref bk_tail, .ref bk_head, .ref bk_hinder, .ref bk_size, .ref bk_walk, .ref bk_draught, .ref bk_doorIn, .ref bk_fanIn, .ref bk_faceIn, .int (nI bn), .int bk_day, .ref gr])), (gr, .inr (3, [.int (nI gd), .ref gr_doorBy, .int (nI gp), .ref gr_pairFirst, .ref gr_pairSecond, .int (nI gf), .ref gr_fanPush, .ref gr_fanFall, .ref gr_fanCost, .int (nI ge), .ref gr_faceWay, .ref gr_faceGas, .ref gr_faceNeed])), (bk_doorIn, .inl (k_bk_doorIn, 14, .inl f_bk_doorIn)), (bk_hinder, .inl (k_bk_hinder, 14, .inl f_bk_hinder)), (gr_doorBy, .inl (k_gr_doorBy, 6, .inl f_gr_doorBy)), (st_open, .inl (k_st_open, 6, .inl f_st_open))]) [1, 2, 3, 4, 5, 6, 7] hP hD hS hA rfl (by decide)
    have hKc := hK.sub (tys' := [(k_bk_doorIn, .int), (k_bk_hinder, .int), (k_gr_doorBy, .int), (k_st_open, .boolean)]) [0, 1, 2, 3] rfl
    refine va_calli (va_runV (As := [.int (nI i)]) (rest := [.int (nI i), .ref fw_hindrance]) ⟨hx, hb, hml, hown, hts⟩ (c9_hindrance l dC dI n0 atx H.size st st_open st_speed st_fallen st_fire st_mark st_moreIn st_more bk bw bk_tail bk_head bk_hinder bk_size bk_walk bk_draught bk_doorIn bk_fanIn bk_faceIn bn bk_day gr gd gr_doorBy gp gr_pairFirst gr_pairSecond gf gr_fanPush gr_fanFall gr_fanCost ge gr_faceWay gr_faceGas gr_faceNeed k_bk_doorIn f_bk_doorIn k_bk_hinder f_bk_hinder k_gr_doorBy f_gr_doorBy k_st_open f_st_open (nI i) (by first | with_reducible assumption | omega | exact vp_in_iff.mpr (by omega) | exact vp_in_nI (by omega) (by omega) | exact ⟨by omega, by omega⟩) (by first | with_reducible assumption | omega | exact vp_in_iff.mpr (by omega) | exact vp_in_nI (by omega) (by omega) | exact ⟨by omega, by omega⟩) (by first | with_reducible assumption | omega | exact vp_in_iff.mpr (by omega) | exact vp_in_nI (by omega) (by omega) | exact ⟨by omega, by omega⟩) (by first | with_reducible assumption | omega | exact vp_in_iff.mpr (by omega) | exact vp_in_nI (by omega) (by omega) | exact ⟨by omega, by omega⟩) (by first | with_reducible assumption | omega | exact vp_in_iff.mpr (by omega) | exact vp_in_nI (by omega) (by omega) | exact ⟨by omega, by omega⟩) (by first | with_reducible assumption | omega | exact vp_in_iff.mpr (by omega) | exact vp_in_nI (by omega) (by omega) | exact ⟨by omega, by omega⟩) (by first | with_reducible assumption | omega | exact vp_in_iff.mpr (by omega) | exact vp_in_nI (by omega) (by omega) | exact ⟨by omega, by omega⟩) (by first | with_reducible assumption | omega | exact vp_in_iff.mpr (by omega) | exact vp_in_nI (by omega) (by omega) | exact ⟨by omega, by omega⟩) (by first | with_reducible assumption | omega | exact vp_in_iff.mpr (by omega) | exact vp_in_nI (by omega) (by omega) | exact ⟨by omega, by omega⟩)) (cwV 1 hts (gV (fun w h => wM_c h) wd_955 wd_1014 wd_953 wd_954 wd_118) rfl rfl rfl (by decide +kernel) ⟨Nat.le_of_ble_eq_true rfl, Nat.le_of_ble_eq_true rfl⟩) ⟨fun a U g mk q => by obtain ⟨q0, q1, q2, qG, qP, qK, qD⟩ := q; exact ⟨q0, q1, q2, GW.blind qG, qP, va_K.moved (u := U) (U := U.calling g mk a) (Vm.Alike.refl U.vm) qK, qD⟩, va_recv hKc hPc (ci := 9) (q0 := 0) rfl rfl, fun U hU hW => ⟨rfl, by rw [hU], Nat.le_trans hn0 hS.1, GW.go hW hU hG (fun q hq hA9 => hS.2.1 q hq (fun h => hA9 (hA0 q h))), by rw [hU]; exact hPc, va_K.moved hW.alike hKc, hDc.weaken (fun _ _ _ h => hA0 _ h)⟩⟩ rfl rfl hl.1 rfl (lv_room (Nat.le_of_ble_eq_true rfl)) dX2_takeState_35 ⟨Nat.le_of_ble_eq_true rfl, Nat.le_of_ble_eq_true rfl⟩) hS (fun q _ h => hFc q h) hFc (fun r_14 u t H1 locs ht hvm hw_15 hB hz1 hk1 hS => ?_)
    obtain ⟨hP1, hK1, hD1⟩ := hB
    rw [ht] at hP1
    obtain ⟨hP, hD⟩ := s3_j (L := [(fw, .inr (2, [.ref fw_air, .ref bk, .ref st, .ref fw_hindrance, .ref fw_pull, .ref fw_droop, .ref fw_forth, .ref fw_back, .ref fw_label, .ref fw_cause, .ref fw_seen, .ref fw_round])), (bk_fanIn, .inl (k_bk_fanIn, 14, .inl f_bk_fanIn)), (bk_draught, .inl (k_bk_draught, 14, .inl f_bk_draught)), (gr_fanPush, .inl (k_gr_fanPush, 4, .inl f_gr_fanPush)), (st_speed, .inl (k_st_speed, 4, .inl f_st_speed)), (st_fire, .inl (k_st_fire, 14, .inl f_st_fire)), (fw_hindrance, .inl (k_fw_hindrance, 14, .inr (.inl hi1))), (fw_pull, .inl (k_fw_pull, 14, .inr (.inl pu1))), (fw_droop, .inl (k_fw_droop, 14, .inr (.inl dr1))), (gr_fanFall, .inl (k_gr_fanFall, 4, .inl f_gr_fanFall)), (st_fallen, .inl (k_st_fallen, 14, .inl f_st_fallen)), (fw_air, .inl (k_fw_air, 14, .inl f_fw_air)), (st, .inr (9, [.ref st_open, .ref st_speed, .ref st_fallen, .ref st_fire, .int st_mark, .int st_moreIn, .int st_more, .ref bk])), (bk, .inr (0, [.int (nI bw), .ref bk_tail, .ref bk_head, .ref bk_hinder, .ref bk_size, .ref bk_walk, .ref bk_draught, .ref bk_doorIn, .ref bk_fanIn, .ref bk_faceIn, .int (nI bn), .int bk_day, .ref gr])), (gr, .inr (3, [.int (nI gd), .ref gr_doorBy, .int (nI gp), .ref gr_pairFirst, .ref gr_pairSecond, .int (nI gf), .ref gr_fanPush, .ref gr_fanFall, .ref gr_fanCost, .int (nI ge), .ref gr_faceWay, .ref gr_faceGas, .ref gr_faceNeed])), (bk_doorIn, .inl (k_bk_doorIn, 14, .inl f_bk_doorIn)), (bk_hinder, .inl (k_bk_hinder, 14, .inl f_bk_hinder)), (gr_doorBy, .inl (k_gr_doorBy, 6, .inl f_gr_doorBy)), (st_open, .inl (k_st_open, 6, .inl f_st_open))]) 12 hP hD [1, 2, 3, 4, 5, 6, 7] [0, 8, 9, 10, 11, 12, 13, 14, 15, 16, 17, 18] hk1 hFc hP1 hD1 rfl rfl rfl (by decide) (by decide)
    generalize H1 = H at hP hS ⊢
    refine lv_i2l (v := r_14.toInt64) hx hb dX2_takeState_38 rfl ?_
    refine lv_topl (fun v_16 ev_16 => ?_)
    refine va_last hx hb hK hP hD hS 6 9 rfl rfl (vp_in_nI (n := i) (by omega) (by omega)) dX2_takeState_39 (fun H locs hP hD hS => ?_)
    obtain ⟨f_17, ef_17⟩ : ∃ f9, f9 = (vp_updL hi1 (nI i).toNatClampNeg v_16) := ⟨_, rfl⟩
    obtain ⟨hP, hD⟩ : s3_w (dC, dI) classes A [(fw, .inr (2, [.ref fw_air, .ref bk, .ref st, .ref fw_hindrance, .ref fw_pull, .ref fw_droop, .ref fw_forth, .ref fw_back, .ref fw_label, .ref fw_cause, .ref fw_seen, .ref fw_round])), (bk_fanIn, .inl (k_bk_fanIn, 14, .inl f_bk_fanIn)), (bk_draught, .inl (k_bk_draught, 14, .inl f_bk_draught)), (gr_fanPush, .inl (k_gr_fanPush, 4, .inl f_gr_fanPush)), (st_speed, .inl (k_st_speed, 4, .inl f_st_speed)), (st_fire, .inl (k_st_fire, 14, .inl f_st_fire)), (fw_hindrance, .inl (k_fw_hindrance, 14, .inr (.inl f_17))), (fw_pull, .inl (k_fw_pull, 14, .inr (.inl pu1))), (fw_droop, .inl (k_fw_droop, 14, .inr (.inl dr1))), (gr_fanFall, .inl (k_gr_fanFall, 4, .inl f_gr_fanFall)), (st_fallen, .inl (k_st_fallen, 14, .inl f_st_fallen)), (fw_air, .inl (k_fw_air, 14, .inl f_fw_air)), (st, .inr (9, [.ref st_open, .ref st_speed, .ref st_fallen, .ref st_fire, .int st_mark, .int st_moreIn, .int st_more, .ref bk])), (bk, .inr (0, [.int (nI bw), .ref bk_tail, .ref bk_head, .ref bk_hinder, .ref bk_size, .ref bk_walk, .ref bk_draught, .ref bk_doorIn, .ref bk_fanIn, .ref bk_faceIn, .int (nI bn), .int bk_day, .ref gr])), (gr, .inr (3, [.int (nI gd), .ref gr_doorBy, .int (nI gp), .ref gr_pairFirst, .ref gr_pairSecond, .int (nI gf), .ref gr_fanPush, .ref gr_fanFall, .ref gr_fanCost, .int (nI ge), .ref gr_faceWay, .ref gr_faceGas, .ref gr_faceNeed])), (bk_doorIn, .inl (k_bk_doorIn, 14, .inl f_bk_doorIn)), (bk_hinder, .inl (k_bk_hinder, 14, .inl f_bk_hinder)), (gr_doorBy, .inl (k_gr_doorBy, 6, .inl f_gr_doorBy)), (st_open, .inl (k_st_open, 6, .inl f_st_open))] H := ⟨(by rw [ef_17]; exact hP), (by rw [ef_17]; exact hD)⟩
    refine lv_aload_n hx hb dX2_takeState_40 rfl (lv_at hl 1 rfl) ?_
    refine va_get (D := (dC, dI)) (ci := 2) (v := .ref fw_pull) (C := RX2) (T := TX2) (N := 12) hx hb hts (fun w h => wM_c (iX2 w h)) hown hK hP 0 rfl rfl 4 (by decide) (hts _ (wM_c wd_450)) (fun _ h9 => h9) rfl dX2_takeState_41 ?_
    refine lv_iload_n hx hb dX2_takeState_44 rfl (lv_at hl 3 rfl) ?_
    refine lv_aload_n hx hb dX2_takeState_45 rfl (lv_at hl 1 rfl) ?_
    refine va_get (D := (dC, dI)) (ci := 2) (v := .ref st) (C := RX2) (T := TX2) (N := 12) hx hb hts (fun w h => wM_c (iX2 w h)) hown hK hP 0 rfl rfl 2 (by decide) (hts _ (wM_c wd_448)) (fun _ h9 => h9) rfl dX2_takeState_46 ?_
    refine lv_iload_n hx hb dX2_takeState_49 rfl (lv_at hl 3 rfl) ?_
    obtain ⟨hPc, hDc, hFc⟩ := s3_c (ws' := [(st, .inr (9, [.ref st_open, .ref st_speed, .ref st_fallen, .ref st_fire, .int st_mark, .int st_moreIn, .int st_more, .ref bk])), (bk, .inr (0, [.int (nI bw), .ref bk_tail, .ref bk_head, .ref bk_hinder, .ref bk_size, .ref bk_walk, .ref bk_draught, .ref bk_doorIn, .ref bk_fanIn, .ref bk_faceIn, .int (nI bn), .int bk_day, .ref gr])), (gr, .inr (3, [.int (nI gd), .ref gr_doorBy, .int (nI gp), .ref gr_pairFirst, .ref gr_pairSecond, .int (nI gf), .ref gr_fanPush, .ref gr_fanFall, .ref gr_fanCost, .int (nI ge), .ref gr_faceWay, .ref gr_faceGas, .ref gr_faceNeed])), (bk_fanIn, .inl (k_bk_fanIn, 14, .inl f_bk_fanIn)), (bk_draught, .inl (k_bk_draught, 14, .inl f_bk_draught)), (gr_fanPush, .inl (k_gr_fanPush, 4, .inl f_gr_fanPush)), (st_speed, .inl (k_st_speed, 4, .inl f_st_speed)), (st_fire, .inl (k_st_fire, 14, .inl f_st_fire))]) [12, 13, 14, 1, 2, 3, 4, 5] hP hD hS hA rfl (by decide)
    have hKc := hK.sub (tys' := [(k_bk_fanIn, .int), (k_bk_draught, .int), (k_gr_fanPush, .int), (k_st_speed, .int), (k_st_fire, .int)]) [4, 5, 6, 7, 8] rfl
    refine va_calli (va_runV (As := [.int (nI i)]) (rest := [.int (nI i), .ref fw_pull]) ⟨hx, hb, hml, hown, hts⟩ (c9_pull l dC dI n0 atx H.size st st_open st_speed st_fallen st_fire st_mark st_moreIn st_more bk bw bk_tail bk_head bk_hinder bk_size bk_walk bk_draught bk_doorIn bk_fanIn bk_faceIn bn bk_day gr gd gr_doorBy gp gr_pairFirst gr_pairSecond gf gr_fanPush gr_fanFall gr_fanCost ge gr_faceWay gr_faceGas gr_faceNeed k_bk_fanIn f_bk_fanIn k_bk_draught f_bk_draught k_gr_fanPush f_gr_fanPush k_st_speed f_st_speed k_st_fire f_st_fire (nI i) (by first | with_reducible assumption | omega | exact vp_in_iff.mpr (by omega) | exact vp_in_nI (by omega) (by omega) | exact ⟨by omega, by omega⟩) (by first | with_reducible assumption | omega | exact vp_in_iff.mpr (by omega) | exact vp_in_nI (by omega) (by omega) | exact ⟨by omega, by omega⟩) (by first | with_reducible assumption | omega | exact vp_in_iff.mpr (by omega) | exact vp_in_nI (by omega) (by omega) | exact ⟨by omega, by omega⟩) (by first | with_reducible assumption | omega | exact vp_in_iff.mpr (by omega) | exact vp_in_nI (by omega) (by omega) | exact ⟨by omega, by omega⟩) (by first | with_reducible assumption | omega | exact vp_in_iff.mpr (by omega) | exact vp_in_nI (by omega) (by omega) | exact ⟨by omega, by omega⟩) (by first | with_reducible assumption | omega | exact vp_in_iff.mpr (by omega) | exact vp_in_nI (by omega) (by omega) | exact ⟨by omega, by omega⟩) (by first | with_reducible assumption | omega | exact vp_in_iff.mpr (by omega) | exact vp_in_nI (by omega) (by omega) | exact ⟨by omega, by omega⟩) (by first | with_reducible assumption | omega | exact vp_in_iff.mpr (by omega) | exact vp_in_nI (by omega) (by omega) | exact ⟨by omega, by omega⟩) (by first | with_reducible assumption | omega | exact vp_in_iff.mpr (by omega) | exact vp_in_nI (by omega) (by omega) | exact ⟨by omega, by omega⟩)) (cwV 1 hts (gV (fun w h => wM_c h) wd_1018 wd_1015 wd_1016 wd_1017 wd_118) rfl rfl rfl (by decide +kernel) ⟨Nat.le_of_ble_eq_true rfl, Nat.le_of_ble_eq_true rfl⟩) ⟨fun a U g mk q => by obtain ⟨q0, q1, q2, qG, qP, qK, qD⟩ := q; exact ⟨q0, q1, q2, GW.blind qG, qP, va_K.moved (u := U) (U := U.calling g mk a) (Vm.Alike.refl U.vm) qK, qD⟩, va_recv hKc hPc (ci := 9) (q0 := 0) rfl rfl, fun U hU hW => ⟨rfl, by rw [hU], Nat.le_trans hn0 hS.1, GW.go hW hU hG (fun q hq hA9 => hS.2.1 q hq (fun h => hA9 (hA0 q h))), by rw [hU]; exact hPc, va_K.moved hW.alike hKc, hDc.weaken (fun _ _ _ h => hA0 _ h)⟩⟩ rfl rfl hl.1 rfl (lv_room (Nat.le_of_ble_eq_true rfl)) dX2_takeState_50 ⟨Nat.le_of_ble_eq_true rfl, Nat.le_of_ble_eq_true rfl⟩) hS (fun q _ h => hFc q h) hFc (fun r_18 u t H1 locs ht hvm hw_19 hB hz1 hk1 hS => ?_)
    obtain ⟨hP1, hK1, hD1⟩ := hB
    rw [ht] at hP1
    obtain ⟨hP, hD⟩ := s3_j (L := [(fw, .inr (2, [.ref fw_air, .ref bk, .ref st, .ref fw_hindrance, .ref fw_pull, .ref fw_droop, .ref fw_forth, .ref fw_back, .ref fw_label, .ref fw_cause, .ref fw_seen, .ref fw_round])), (fw_hindrance, .inl (k_fw_hindrance, 14, .inr (.inl f_17))), (fw_pull, .inl (k_fw_pull, 14, .inr (.inl pu1))), (fw_droop, .inl (k_fw_droop, 14, .inr (.inl dr1))), (gr_fanFall, .inl (k_gr_fanFall, 4, .inl f_gr_fanFall)), (st_fallen, .inl (k_st_fallen, 14, .inl f_st_fallen)), (fw_air, .inl (k_fw_air, 14, .inl f_fw_air)), (bk_doorIn, .inl (k_bk_doorIn, 14, .inl f_bk_doorIn)), (bk_hinder, .inl (k_bk_hinder, 14, .inl f_bk_hinder)), (gr_doorBy, .inl (k_gr_doorBy, 6, .inl f_gr_doorBy)), (st_open, .inl (k_st_open, 6, .inl f_st_open)), (st, .inr (9, [.ref st_open, .ref st_speed, .ref st_fallen, .ref st_fire, .int st_mark, .int st_moreIn, .int st_more, .ref bk])), (bk, .inr (0, [.int (nI bw), .ref bk_tail, .ref bk_head, .ref bk_hinder, .ref bk_size, .ref bk_walk, .ref bk_draught, .ref bk_doorIn, .ref bk_fanIn, .ref bk_faceIn, .int (nI bn), .int bk_day, .ref gr])), (gr, .inr (3, [.int (nI gd), .ref gr_doorBy, .int (nI gp), .ref gr_pairFirst, .ref gr_pairSecond, .int (nI gf), .ref gr_fanPush, .ref gr_fanFall, .ref gr_fanCost, .int (nI ge), .ref gr_faceWay, .ref gr_faceGas, .ref gr_faceNeed])), (bk_fanIn, .inl (k_bk_fanIn, 14, .inl f_bk_fanIn)), (bk_draught, .inl (k_bk_draught, 14, .inl f_bk_draught)), (gr_fanPush, .inl (k_gr_fanPush, 4, .inl f_gr_fanPush)), (st_speed, .inl (k_st_speed, 4, .inl f_st_speed)), (st_fire, .inl (k_st_fire, 14, .inl f_st_fire))]) 11 hP hD [12, 13, 14, 1, 2, 3, 4, 5] [0, 6, 7, 8, 9, 10, 11, 15, 16, 17, 18] hk1 hFc hP1 hD1 rfl rfl rfl (by decide) (by decide)
    generalize H1 = H at hP hS ⊢
    refine lv_i2l (v := r_18.toInt64) hx hb dX2_takeState_53 rfl ?_
    refine lv_topl (fun v_20 ev_20 => ?_)
    refine va_last hx hb hK hP hD hS 2 10 rfl rfl (vp_in_nI (n := i) (by omega) (by omega)) dX2_takeState_54 (fun H locs hP hD hS => ?_)
    obtain ⟨f_21, ef_21⟩ : ∃ f9, f9 = (vp_updL pu1 (nI i).toNatClampNeg v_20) := ⟨_, rfl⟩
    obtain ⟨hP, hD⟩ : s3_w (dC, dI) classes A [(fw, .inr (2, [.ref fw_air, .ref bk, .ref st, .ref fw_hindrance, .ref fw_pull, .ref fw_droop, .ref fw_forth, .ref fw_back, .ref fw_label, .ref fw_cause, .ref fw_seen, .ref fw_round])), (fw_hindrance, .inl (k_fw_hindrance, 14, .inr (.inl f_17))), (fw_pull, .inl (k_fw_pull, 14, .inr (.inl f_21))), (fw_droop, .inl (k_fw_droop, 14, .inr (.inl dr1))), (gr_fanFall, .inl (k_gr_fanFall, 4, .inl f_gr_fanFall)), (st_fallen, .inl (k_st_fallen, 14, .inl f_st_fallen)), (fw_air, .inl (k_fw_air, 14, .inl f_fw_air)), (bk_doorIn, .inl (k_bk_doorIn, 14, .inl f_bk_doorIn)), (bk_hinder, .inl (k_bk_hinder, 14, .inl f_bk_hinder)), (gr_doorBy, .inl (k_gr_doorBy, 6, .inl f_gr_doorBy)), (st_open, .inl (k_st_open, 6, .inl f_st_open)), (st, .inr (9, [.ref st_open, .ref st_speed, .ref st_fallen, .ref st_fire, .int st_mark, .int st_moreIn, .int st_more, .ref bk])), (bk, .inr (0, [.int (nI bw), .ref bk_tail, .ref bk_head, .ref bk_hinder, .ref bk_size, .ref bk_walk, .ref bk_draught, .ref bk_doorIn, .ref bk_fanIn, .ref bk_faceIn, .int (nI bn), .int bk_day, .ref gr])), (gr, .inr (3, [.int (nI gd), .ref gr_doorBy, .int (nI gp), .ref gr_pairFirst, .ref gr_pairSecond, .int (nI gf), .ref gr_fanPush, .ref gr_fanFall, .ref gr_fanCost, .int (nI ge), .ref gr_faceWay, .ref gr_faceGas, .ref gr_faceNeed])), (bk_fanIn, .inl (k_bk_fanIn, 14, .inl f_bk_fanIn)), (bk_draught, .inl (k_bk_draught, 14, .inl f_bk_draught)), (gr_fanPush, .inl (k_gr_fanPush, 4, .inl f_gr_fanPush)), (st_speed, .inl (k_st_speed, 4, .inl f_st_speed)), (st_fire, .inl (k_st_fire, 14, .inl f_st_fire))] H := ⟨(by rw [ef_21]; exact hP), (by rw [ef_21]; exact hD)⟩
    refine lv_aload_n hx hb dX2_takeState_55 rfl (lv_at hl 1 rfl) ?_
    refine va_get (D := (dC, dI)) (ci := 2) (v := .ref fw_droop) (C := RX2) (T := TX2) (N := 12) hx hb hts (fun w h => wM_c (iX2 w h)) hown hK hP 0 rfl rfl 5 (by decide) (hts _ (wM_c wd_451)) (fun _ h9 => h9) rfl dX2_takeState_56 ?_
    refine lv_iload_n hx hb dX2_takeState_59 rfl (lv_at hl 3 rfl) ?_
    refine lv_iload_n hx hb dX2_takeState_60 rfl (lv_at hl 0 rfl) ?_
    refine lv_iconst (v := (-1)) hx hb dX2_takeState_61 (by decide) ?_
    refine lv_icmp_ne (tgt := 69) hx hb dX2_takeState_62 (by decide) (fun c_22 => ?_) (fun c_22 => ?_)
    · skip
      have g_23 : v_12.toInt ≠ (-1 : Int) := i_ne c_22
      refine lv_aload_n hx hb dX2_takeState_69 rfl (lv_at hl 1 rfl) ?_
      refine va_get (D := (dC, dI)) (ci := 2) (v := .ref bk) (C := RX2) (T := TX2) (N := 12) hx hb hts (fun w h => wM_c (iX2 w h)) hown hK hP 0 rfl rfl 1 (by decide) (hts _ (wM_c wd_447)) (fun _ h9 => h9) rfl dX2_takeState_70 ?_
      refine va_get (D := (dC, dI)) (ci := 0) (v := .ref gr) (C := RX0) (T := TX0) (N := 13) hx hb hts (fun w h => wM_c (iX0 w h)) hown hK hP 12 rfl rfl 12 (by decide) (hts _ (wM_c wd_297)) (fun _ h9 => h9) rfl dX2_takeState_73 ?_
      refine va_get (D := (dC, dI)) (ci := 3) (v := .ref gr_fanFall) (C := RX3) (T := TX3) (N := 13) hx hb hts (fun w h => wM_c (iX3 w h)) hown hK hP 13 rfl rfl 7 (by decide) (hts _ (wM_c wd_187)) (fun _ h9 => h9) rfl dX2_takeState_76 ?_
      refine lv_iload_n hx hb dX2_takeState_79 rfl (lv_at hl 0 rfl) ?_
      refine va_iald hx hb hK hP 4 12 rfl rfl (by first | with_reducible assumption | exact vp_in_iff.mpr (by omega)) dX2_takeState_80 ?_
      refine lv_topi (fun v_24 ev_24 => ?_)
      refine lv_i2l (v := v_24.toInt64) hx hb dX2_takeState_81 rfl ?_
      refine lv_topl (fun v_25 ev_25 => ?_)
      refine va_last hx hb hK hP hD hS 3 11 rfl rfl (vp_in_nI (n := i) (by omega) (by omega)) dX2_takeState_82 (fun H locs hP hD hS => ?_)
      obtain ⟨f_26, ef_26⟩ : ∃ f9, f9 = (vp_updL dr1 (nI i).toNatClampNeg v_25) := ⟨_, rfl⟩
      obtain ⟨hP, hD⟩ : s3_w (dC, dI) classes A [(fw, .inr (2, [.ref fw_air, .ref bk, .ref st, .ref fw_hindrance, .ref fw_pull, .ref fw_droop, .ref fw_forth, .ref fw_back, .ref fw_label, .ref fw_cause, .ref fw_seen, .ref fw_round])), (fw_hindrance, .inl (k_fw_hindrance, 14, .inr (.inl f_17))), (fw_pull, .inl (k_fw_pull, 14, .inr (.inl f_21))), (fw_droop, .inl (k_fw_droop, 14, .inr (.inl f_26))), (gr_fanFall, .inl (k_gr_fanFall, 4, .inl f_gr_fanFall)), (st_fallen, .inl (k_st_fallen, 14, .inl f_st_fallen)), (fw_air, .inl (k_fw_air, 14, .inl f_fw_air)), (bk_doorIn, .inl (k_bk_doorIn, 14, .inl f_bk_doorIn)), (bk_hinder, .inl (k_bk_hinder, 14, .inl f_bk_hinder)), (gr_doorBy, .inl (k_gr_doorBy, 6, .inl f_gr_doorBy)), (st_open, .inl (k_st_open, 6, .inl f_st_open)), (st, .inr (9, [.ref st_open, .ref st_speed, .ref st_fallen, .ref st_fire, .int st_mark, .int st_moreIn, .int st_more, .ref bk])), (bk, .inr (0, [.int (nI bw), .ref bk_tail, .ref bk_head, .ref bk_hinder, .ref bk_size, .ref bk_walk, .ref bk_draught, .ref bk_doorIn, .ref bk_fanIn, .ref bk_faceIn, .int (nI bn), .int bk_day, .ref gr])), (gr, .inr (3, [.int (nI gd), .ref gr_doorBy, .int (nI gp), .ref gr_pairFirst, .ref gr_pairSecond, .int (nI gf), .ref gr_fanPush, .ref gr_fanFall, .ref gr_fanCost, .int (nI ge), .ref gr_faceWay, .ref gr_faceGas, .ref gr_faceNeed])), (bk_fanIn, .inl (k_bk_fanIn, 14, .inl f_bk_fanIn)), (bk_draught, .inl (k_bk_draught, 14, .inl f_bk_draught)), (gr_fanPush, .inl (k_gr_fanPush, 4, .inl f_gr_fanPush)), (st_speed, .inl (k_st_speed, 4, .inl f_st_speed)), (st_fire, .inl (k_st_fire, 14, .inl f_st_fire))] H := ⟨(by rw [ef_26]; exact hP), (by rw [ef_26]; exact hD)⟩
      refine lv_aload_n hx hb dX2_takeState_83 rfl (lv_at hl 1 rfl) ?_
      refine va_get (D := (dC, dI)) (ci := 2) (v := .ref st) (C := RX2) (T := TX2) (N := 12) hx hb hts (fun w h => wM_c (iX2 w h)) hown hK hP 0 rfl rfl 2 (by decide) (hts _ (wM_c wd_448)) (fun _ h9 => h9) rfl dX2_takeState_84 ?_
      refine va_get (D := (dC, dI)) (ci := 9) (v := .ref st_fallen) (C := RX9) (T := TX9) (N := 8) hx hb hts (fun w h => wM_c (iX9 w h)) hown hK hP 11 rfl rfl 2 (by decide) (hts _ (wM_c wd_399)) (fun _ h9 => h9) rfl dX2_takeState_87 ?_
      refine lv_iload_n hx hb dX2_takeState_90 rfl (lv_at hl 3 rfl) ?_
      refine va_zald hx hb hK hP 5 13 rfl rfl (vp_in_nI (n := i) (by omega) (by omega)) dX2_takeState_91 ?_
      refine lv_topi (fun v_27 ev_27 => ?_)
      have nv_27 : v_27 = f_st_fallen i := by rw [ev_27]; exact congrArg _ (nI_clamp (by omega))
      refine lv_if_eq (tgt := 106) hx hb dX2_takeState_92 (by decide) (fun c_28 => ?_) (fun c_28 => ?_)
      · skip
        have g_29 : v_27.toInt = (0 : Int) := i_eq c_28
        refine lv_iinc (v := (nI (i + 1))) (lv' := [(2, .int (nI (i + 1))), (3, .int v_12), (0, .ref fw), (1, .int cu)]) hx hb dX2_takeState_106 hl (k := 3) rfl (nI_add _ 1) (by decide) rfl (fun ls hl => ?_)
        refine lv_goto (tgt := 4) hx hb dX2_takeState_109 (by decide) ?_
        exact ih_1 cu (i + 1) f_17 f_21 f_26 _ _ _ ⟨(by first | with_reducible assumption | omega | exact vp_in_iff.mpr (by omega) | exact vp_in_nI (by omega) (by omega) | exact ⟨by omega, by omega⟩), hP.sub [0, 11, 12, 13, 7, 8, 9, 10, 14, 15, 16, 17, 18, 1, 2, 3, 4, 5, 6] rfl, hD.sub [0, 11, 12, 13, 7, 8, 9, 10, 14, 15, 16, 17, 18, 1, 2, 3, 4, 5, 6] (by decide) rfl, hS, lv_sub hl [2, 3, 0] rfl⟩ (by omega)
      · skip
        have g_30 : v_27.toInt ≠ (0 : Int) := i_ne c_28
        refine lv_aload_n hx hb dX2_takeState_95 rfl (lv_at hl 1 rfl) ?_
        refine va_get (D := (dC, dI)) (ci := 2) (v := .ref fw_air) (C := RX2) (T := TX2) (N := 12) hx hb hts (fun w h => wM_c (iX2 w h)) hown hK hP 0 rfl rfl 0 (by decide) (hts _ (wM_c wd_443)) (fun _ h9 => h9) rfl dX2_takeState_96 ?_
        refine lv_iload_n hx hb dX2_takeState_99 rfl (lv_at hl 3 rfl) ?_
        refine va_iald hx hb hK hP 6 14 rfl rfl (vp_in_nI (n := i) (by omega) (by omega)) dX2_takeState_100 ?_
        refine lv_topi (fun v_31 ev_31 => ?_)
        have nv_31 : v_31 = f_fw_air i := by rw [ev_31]; exact congrArg _ (nI_clamp (by omega))
        refine lv_if_eq (tgt := 106) hx hb dX2_takeState_101 (by decide) (fun c_32 => ?_) (fun c_32 => ?_)
        · skip
          have g_33 : v_31.toInt = (0 : Int) := i_eq c_32
          refine lv_iinc (v := (nI (i + 1))) (lv' := [(2, .int (nI (i + 1))), (3, .int v_12), (0, .ref fw), (1, .int cu)]) hx hb dX2_takeState_106 hl (k := 3) rfl (nI_add _ 1) (by decide) rfl (fun ls hl => ?_)
          refine lv_goto (tgt := 4) hx hb dX2_takeState_109 (by decide) ?_
          exact ih_1 cu (i + 1) f_17 f_21 f_26 _ _ _ ⟨(by first | with_reducible assumption | omega | exact vp_in_iff.mpr (by omega) | exact vp_in_nI (by omega) (by omega) | exact ⟨by omega, by omega⟩), hP.sub [0, 11, 12, 13, 7, 8, 9, 10, 14, 15, 16, 17, 18, 1, 2, 3, 4, 5, 6] rfl, hD.sub [0, 11, 12, 13, 7, 8, 9, 10, 14, 15, 16, 17, 18, 1, 2, 3, 4, 5, 6] (by decide) rfl, hS, lv_sub hl [2, 3, 0] rfl⟩ (by omega)
        · skip
          have g_34 : v_31.toInt ≠ (0 : Int) := i_ne c_32
          refine lv_iconst (v := 1) hx hb dX2_takeState_104 (by decide) ?_
          refine lv_istore_n (lv' := [(1, .int 1), (3, .int v_12), (0, .ref fw), (2, .int (nI i))]) hx hb dX2_takeState_105 rfl hl (by decide) rfl (fun ls hl => ?_)
          refine lv_iinc (v := (nI (i + 1))) (lv' := [(2, .int (nI (i + 1))), (1, .int 1), (3, .int v_12), (0, .ref fw)]) hx hb dX2_takeState_106 hl (k := 3) rfl (nI_add _ 1) (by decide) rfl (fun ls hl => ?_)
          refine lv_goto (tgt := 4) hx hb dX2_takeState_109 (by decide) ?_
          exact ih_1 1 (i + 1) f_17 f_21 f_26 _ _ _ ⟨(by first | with_reducible assumption | omega | exact vp_in_iff.mpr (by omega) | exact vp_in_nI (by omega) (by omega) | exact ⟨by omega, by omega⟩), hP.sub [0, 11, 12, 13, 7, 8, 9, 10, 14, 15, 16, 17, 18, 1, 2, 3, 4, 5, 6] rfl, hD.sub [0, 11, 12, 13, 7, 8, 9, 10, 14, 15, 16, 17, 18, 1, 2, 3, 4, 5, 6] (by decide) rfl, hS, lv_sub hl [3, 1, 0] rfl⟩ (by omega)
    · skip
      have g_35 : v_12.toInt = (-1 : Int) := i_eq c_22
      refine lv_lconst (v := 0) hx hb dX2_takeState_65 (by decide) ?_
      refine lv_goto (tgt := 82) hx hb dX2_takeState_66 (by decide) ?_
      refine va_last hx hb hK hP hD hS 3 11 rfl rfl (vp_in_nI (n := i) (by omega) (by omega)) dX2_takeState_82 (fun H locs hP hD hS => ?_)
      obtain ⟨f_36, ef_36⟩ : ∃ f9, f9 = (vp_updL dr1 (nI i).toNatClampNeg 0) := ⟨_, rfl⟩
      obtain ⟨hP, hD⟩ : s3_w (dC, dI) classes A [(fw, .inr (2, [.ref fw_air, .ref bk, .ref st, .ref fw_hindrance, .ref fw_pull, .ref fw_droop, .ref fw_forth, .ref fw_back, .ref fw_label, .ref fw_cause, .ref fw_seen, .ref fw_round])), (fw_hindrance, .inl (k_fw_hindrance, 14, .inr (.inl f_17))), (fw_pull, .inl (k_fw_pull, 14, .inr (.inl f_21))), (fw_droop, .inl (k_fw_droop, 14, .inr (.inl f_36))), (gr_fanFall, .inl (k_gr_fanFall, 4, .inl f_gr_fanFall)), (st_fallen, .inl (k_st_fallen, 14, .inl f_st_fallen)), (fw_air, .inl (k_fw_air, 14, .inl f_fw_air)), (bk_doorIn, .inl (k_bk_doorIn, 14, .inl f_bk_doorIn)), (bk_hinder, .inl (k_bk_hinder, 14, .inl f_bk_hinder)), (gr_doorBy, .inl (k_gr_doorBy, 6, .inl f_gr_doorBy)), (st_open, .inl (k_st_open, 6, .inl f_st_open)), (st, .inr (9, [.ref st_open, .ref st_speed, .ref st_fallen, .ref st_fire, .int st_mark, .int st_moreIn, .int st_more, .ref bk])), (bk, .inr (0, [.int (nI bw), .ref bk_tail, .ref bk_head, .ref bk_hinder, .ref bk_size, .ref bk_walk, .ref bk_draught, .ref bk_doorIn, .ref bk_fanIn, .ref bk_faceIn, .int (nI bn), .int bk_day, .ref gr])), (gr, .inr (3, [.int (nI gd), .ref gr_doorBy, .int (nI gp), .ref gr_pairFirst, .ref gr_pairSecond, .int (nI gf), .ref gr_fanPush, .ref gr_fanFall, .ref gr_fanCost, .int (nI ge), .ref gr_faceWay, .ref gr_faceGas, .ref gr_faceNeed])), (bk_fanIn, .inl (k_bk_fanIn, 14, .inl f_bk_fanIn)), (bk_draught, .inl (k_bk_draught, 14, .inl f_bk_draught)), (gr_fanPush, .inl (k_gr_fanPush, 4, .inl f_gr_fanPush)), (st_speed, .inl (k_st_speed, 4, .inl f_st_speed)), (st_fire, .inl (k_st_fire, 14, .inl f_st_fire))] H := ⟨(by rw [ef_36]; exact hP), (by rw [ef_36]; exact hD)⟩
      refine lv_aload_n hx hb dX2_takeState_83 rfl (lv_at hl 1 rfl) ?_
      refine va_get (D := (dC, dI)) (ci := 2) (v := .ref st) (C := RX2) (T := TX2) (N := 12) hx hb hts (fun w h => wM_c (iX2 w h)) hown hK hP 0 rfl rfl 2 (by decide) (hts _ (wM_c wd_448)) (fun _ h9 => h9) rfl dX2_takeState_84 ?_
      refine va_get (D := (dC, dI)) (ci := 9) (v := .ref st_fallen) (C := RX9) (T := TX9) (N := 8) hx hb hts (fun w h => wM_c (iX9 w h)) hown hK hP 11 rfl rfl 2 (by decide) (hts _ (wM_c wd_399)) (fun _ h9 => h9) rfl dX2_takeState_87 ?_
      refine lv_iload_n hx hb dX2_takeState_90 rfl (lv_at hl 3 rfl) ?_
      refine va_zald hx hb hK hP 5 13 rfl rfl (vp_in_nI (n := i) (by omega) (by omega)) dX2_takeState_91 ?_
      refine lv_topi (fun v_37 ev_37 => ?_)
      have nv_37 : v_37 = f_st_fallen i := by rw [ev_37]; exact congrArg _ (nI_clamp (by omega))
      refine lv_if_eq (tgt := 106) hx hb dX2_takeState_92 (by decide) (fun c_38 => ?_) (fun c_38 => ?_)
      · skip
        have g_39 : v_37.toInt = (0 : Int) := i_eq c_38
        refine lv_iinc (v := (nI (i + 1))) (lv' := [(2, .int (nI (i + 1))), (3, .int v_12), (0, .ref fw), (1, .int cu)]) hx hb dX2_takeState_106 hl (k := 3) rfl (nI_add _ 1) (by decide) rfl (fun ls hl => ?_)
        refine lv_goto (tgt := 4) hx hb dX2_takeState_109 (by decide) ?_
        exact ih_1 cu (i + 1) f_17 f_21 f_36 _ _ _ ⟨(by first | with_reducible assumption | omega | exact vp_in_iff.mpr (by omega) | exact vp_in_nI (by omega) (by omega) | exact ⟨by omega, by omega⟩), hP.sub [0, 11, 12, 13, 7, 8, 9, 10, 14, 15, 16, 17, 18, 1, 2, 3, 4, 5, 6] rfl, hD.sub [0, 11, 12, 13, 7, 8, 9, 10, 14, 15, 16, 17, 18, 1, 2, 3, 4, 5, 6] (by decide) rfl, hS, lv_sub hl [2, 3, 0] rfl⟩ (by omega)
      · skip
        have g_40 : v_37.toInt ≠ (0 : Int) := i_ne c_38
        refine lv_aload_n hx hb dX2_takeState_95 rfl (lv_at hl 1 rfl) ?_
        refine va_get (D := (dC, dI)) (ci := 2) (v := .ref fw_air) (C := RX2) (T := TX2) (N := 12) hx hb hts (fun w h => wM_c (iX2 w h)) hown hK hP 0 rfl rfl 0 (by decide) (hts _ (wM_c wd_443)) (fun _ h9 => h9) rfl dX2_takeState_96 ?_
        refine lv_iload_n hx hb dX2_takeState_99 rfl (lv_at hl 3 rfl) ?_
        refine va_iald hx hb hK hP 6 14 rfl rfl (vp_in_nI (n := i) (by omega) (by omega)) dX2_takeState_100 ?_
        refine lv_topi (fun v_41 ev_41 => ?_)
        have nv_41 : v_41 = f_fw_air i := by rw [ev_41]; exact congrArg _ (nI_clamp (by omega))
        refine lv_if_eq (tgt := 106) hx hb dX2_takeState_101 (by decide) (fun c_42 => ?_) (fun c_42 => ?_)
        · skip
          have g_43 : v_41.toInt = (0 : Int) := i_eq c_42
          refine lv_iinc (v := (nI (i + 1))) (lv' := [(2, .int (nI (i + 1))), (3, .int v_12), (0, .ref fw), (1, .int cu)]) hx hb dX2_takeState_106 hl (k := 3) rfl (nI_add _ 1) (by decide) rfl (fun ls hl => ?_)
          refine lv_goto (tgt := 4) hx hb dX2_takeState_109 (by decide) ?_
          exact ih_1 cu (i + 1) f_17 f_21 f_36 _ _ _ ⟨(by first | with_reducible assumption | omega | exact vp_in_iff.mpr (by omega) | exact vp_in_nI (by omega) (by omega) | exact ⟨by omega, by omega⟩), hP.sub [0, 11, 12, 13, 7, 8, 9, 10, 14, 15, 16, 17, 18, 1, 2, 3, 4, 5, 6] rfl, hD.sub [0, 11, 12, 13, 7, 8, 9, 10, 14, 15, 16, 17, 18, 1, 2, 3, 4, 5, 6] (by decide) rfl, hS, lv_sub hl [2, 3, 0] rfl⟩ (by omega)
        · skip
          have g_44 : v_41.toInt ≠ (0 : Int) := i_ne c_42
          refine lv_iconst (v := 1) hx hb dX2_takeState_104 (by decide) ?_
          refine lv_istore_n (lv' := [(1, .int 1), (3, .int v_12), (0, .ref fw), (2, .int (nI i))]) hx hb dX2_takeState_105 rfl hl (by decide) rfl (fun ls hl => ?_)
          refine lv_iinc (v := (nI (i + 1))) (lv' := [(2, .int (nI (i + 1))), (1, .int 1), (3, .int v_12), (0, .ref fw)]) hx hb dX2_takeState_106 hl (k := 3) rfl (nI_add _ 1) (by decide) rfl (fun ls hl => ?_)
          refine lv_goto (tgt := 4) hx hb dX2_takeState_109 (by decide) ?_
          exact ih_1 1 (i + 1) f_17 f_21 f_36 _ _ _ ⟨(by first | with_reducible assumption | omega | exact vp_in_iff.mpr (by omega) | exact vp_in_nI (by omega) (by omega) | exact ⟨by omega, by omega⟩), hP.sub [0, 11, 12, 13, 7, 8, 9, 10, 14, 15, 16, 17, 18, 1, 2, 3, 4, 5, 6] rfl, hD.sub [0, 11, 12, 13, 7, 8, 9, 10, 14, 15, 16, 17, 18, 1, 2, 3, 4, 5, 6] (by decide) rfl, hS, lv_sub hl [3, 1, 0] rfl⟩ (by omega)
set_option maxHeartbeats 4000000 in
set_option maxRecDepth 100000 in
theorem c2_rate (l : Launch) (dC : Nat → ClassId) (dI : Nat → Nat → Nat) (n0 : Nat) (atx : Nat → Nat × Nat) (sz : Nat) (fw : Nat) (fw_air : Nat) (bk : Nat) (st : Nat) (fw_hindrance : Nat) (fw_pull : Nat) (fw_droop : Nat) (fw_forth : Nat) (fw_back : Nat) (fw_label : Nat) (fw_cause : Nat) (fw_seen : Nat) (fw_round : Nat) (st_open : Nat) (st_speed : Nat) (st_fallen : Nat) (st_fire : Nat) (st_mark : Int32) (st_moreIn : Int32) (st_more : Int32) (k_fw_hindrance : ClassId) (f_fw_hindrance : Nat → Int64) (k_fw_pull : ClassId) (f_fw_pull : Nat → Int64) (k_fw_droop : ClassId) (f_fw_droop : Nat → Int64) (k_st_fallen : ClassId) (f_st_fallen : Nat → Int32) (k_fw_air : ClassId) (f_fw_air : Nat → Int32) (k_fw_forth : ClassId) (f_fw_forth : Nat → Int64) (k_fw_back : ClassId) (f_fw_back : Nat → Int64) (w : Int32) (sp0 : Int32) (hw : vp_in w 14) : Met l yX2_rate (wM yX2_rate cX2_rate 6 none) ({ frames := 1, cells := 0, slots := 0, locals := 30 }) (va_Pc [.ref fw, .int w, .int sp0] (fun U => U.heap.size = sz ∧ n0 ≤ sz ∧ GW n0 atx U ∧ va_P (dC, dI) classes [(fw, .inr (2, [.ref fw_air, .ref bk, .ref st, .ref fw_hindrance, .ref fw_pull, .ref fw_droop, .ref fw_forth, .ref fw_back, .ref fw_label, .ref fw_cause, .ref fw_seen, .ref fw_round])), (st, .inr (9, [.ref st_open, .ref st_speed, .ref st_fallen, .ref st_fire, .int st_mark, .int st_moreIn, .int st_more, .ref bk])), (fw_hindrance, .inl (k_fw_hindrance, 14, .inr (.inl f_fw_hindrance))), (fw_pull, .inl (k_fw_pull, 14, .inr (.inl f_fw_pull))), (fw_droop, .inl (k_fw_droop, 14, .inr (.inl f_fw_droop))), (st_fallen, .inl (k_st_fallen, 14, .inl f_st_fallen)), (fw_air, .inl (k_fw_air, 14, .inl f_fw_air)), (fw_forth, .inl (k_fw_forth, 14, .inr (.inl f_fw_forth))), (fw_back, .inl (k_fw_back, 14, .inr (.inl f_fw_back)))] U.heap ∧ va_K (dC, dI) classes [(k_fw_hindrance, .long), (k_fw_pull, .long), (k_fw_droop, .long), (k_st_fallen, .boolean), (k_fw_air, .int), (k_fw_forth, .long), (k_fw_back, .long)] U ∧ va_D (fun q => n0 ≤ q) [(fw, .inr (2, [.ref fw_air, .ref bk, .ref st, .ref fw_hindrance, .ref fw_pull, .ref fw_droop, .ref fw_forth, .ref fw_back, .ref fw_label, .ref fw_cause, .ref fw_seen, .ref fw_round])), (st, .inr (9, [.ref st_open, .ref st_speed, .ref st_fallen, .ref st_fire, .int st_mark, .int st_moreIn, .int st_more, .ref bk])), (fw_hindrance, .inl (k_fw_hindrance, 14, .inr (.inl f_fw_hindrance))), (fw_pull, .inl (k_fw_pull, 14, .inr (.inl f_fw_pull))), (fw_droop, .inl (k_fw_droop, 14, .inr (.inl f_fw_droop))), (st_fallen, .inl (k_st_fallen, 14, .inl f_st_fallen)), (fw_air, .inl (k_fw_air, 14, .inl f_fw_air)), (fw_forth, .inl (k_fw_forth, 14, .inr (.inl f_fw_forth))), (fw_back, .inl (k_fw_back, 14, .inr (.inl f_fw_back)))])) (va_Qv (fun _ : Unit => True) (fun (_ : Unit) (t : State) => ∃ (fo9 : Nat → Int64), ∃ (ba9 : Nat → Int64), va_P (dC, dI) classes [(fw, .inr (2, [.ref fw_air, .ref bk, .ref st, .ref fw_hindrance, .ref fw_pull, .ref fw_droop, .ref fw_forth, .ref fw_back, .ref fw_label, .ref fw_cause, .ref fw_seen, .ref fw_round])), (st, .inr (9, [.ref st_open, .ref st_speed, .ref st_fallen, .ref st_fire, .int st_mark, .int st_moreIn, .int st_more, .ref bk])), (fw_hindrance, .inl (k_fw_hindrance, 14, .inr (.inl f_fw_hindrance))), (fw_pull, .inl (k_fw_pull, 14, .inr (.inl f_fw_pull))), (fw_droop, .inl (k_fw_droop, 14, .inr (.inl f_fw_droop))), (st_fallen, .inl (k_st_fallen, 14, .inl f_st_fallen)), (fw_air, .inl (k_fw_air, 14, .inl f_fw_air)), (fw_forth, .inl (k_fw_forth, 14, .inr (.inl fo9))), (fw_back, .inl (k_fw_back, 14, .inr (.inl ba9)))] t.heap ∧ va_K (dC, dI) classes [(k_fw_hindrance, .long), (k_fw_pull, .long), (k_fw_droop, .long), (k_st_fallen, .boolean), (k_fw_air, .int), (k_fw_forth, .long), (k_fw_back, .long)] t ∧ va_D (va_A [(fw, .inr (2, [.ref fw_air, .ref bk, .ref st, .ref fw_hindrance, .ref fw_pull, .ref fw_droop, .ref fw_forth, .ref fw_back, .ref fw_label, .ref fw_cause, .ref fw_seen, .ref fw_round])), (st, .inr (9, [.ref st_open, .ref st_speed, .ref st_fallen, .ref st_fire, .int st_mark, .int st_moreIn, .int st_more, .ref bk])), (fw_hindrance, .inl (k_fw_hindrance, 14, .inr (.inl f_fw_hindrance))), (fw_pull, .inl (k_fw_pull, 14, .inr (.inl f_fw_pull))), (fw_droop, .inl (k_fw_droop, 14, .inr (.inl f_fw_droop))), (st_fallen, .inl (k_st_fallen, 14, .inl f_st_fallen)), (fw_air, .inl (k_fw_air, 14, .inl f_fw_air)), (fw_forth, .inl (k_fw_forth, 14, .inr (.inl f_fw_forth))), (fw_back, .inl (k_fw_back, 14, .inr (.inl f_fw_back)))] sz) [(fw, .inr (2, [.ref fw_air, .ref bk, .ref st, .ref fw_hindrance, .ref fw_pull, .ref fw_droop, .ref fw_forth, .ref fw_back, .ref fw_label, .ref fw_cause, .ref fw_seen, .ref fw_round])), (st, .inr (9, [.ref st_open, .ref st_speed, .ref st_fallen, .ref st_fire, .int st_mark, .int st_moreIn, .int st_more, .ref bk])), (fw_hindrance, .inl (k_fw_hindrance, 14, .inr (.inl f_fw_hindrance))), (fw_pull, .inl (k_fw_pull, 14, .inr (.inl f_fw_pull))), (fw_droop, .inl (k_fw_droop, 14, .inr (.inl f_fw_droop))), (st_fallen, .inl (k_st_fallen, 14, .inl f_st_fallen)), (fw_air, .inl (k_fw_air, 14, .inl f_fw_air)), (fw_forth, .inl (k_fw_forth, 14, .inr (.inl fo9))), (fw_back, .inl (k_fw_back, 14, .inr (.inl ba9)))]) (va_A [(fw, .inr (2, [.ref fw_air, .ref bk, .ref st, .ref fw_hindrance, .ref fw_pull, .ref fw_droop, .ref fw_forth, .ref fw_back, .ref fw_label, .ref fw_cause, .ref fw_seen, .ref fw_round])), (st, .inr (9, [.ref st_open, .ref st_speed, .ref st_fallen, .ref st_fire, .int st_mark, .int st_moreIn, .int st_more, .ref bk])), (fw_hindrance, .inl (k_fw_hindrance, 14, .inr (.inl f_fw_hindrance))), (fw_pull, .inl (k_fw_pull, 14, .inr (.inl f_fw_pull))), (fw_droop, .inl (k_fw_droop, 14, .inr (.inl f_fw_droop))), (st_fallen, .inl (k_st_fallen, 14, .inl f_st_fallen)), (fw_air, .inl (k_fw_air, 14, .inl f_fw_air)), (fw_forth, .inl (k_fw_forth, 14, .inr (.inl f_fw_forth))), (fw_back, .inl (k_fw_back, 14, .inr (.inl f_fw_back)))] sz)) 0 0 (va_A [(fw, .inr (2, [.ref fw_air, .ref bk, .ref st, .ref fw_hindrance, .ref fw_pull, .ref fw_droop, .ref fw_forth, .ref fw_back, .ref fw_label, .ref fw_cause, .ref fw_seen, .ref fw_round])), (st, .inr (9, [.ref st_open, .ref st_speed, .ref st_fallen, .ref st_fire, .int st_mark, .int st_moreIn, .int st_more, .ref bk])), (fw_hindrance, .inl (k_fw_hindrance, 14, .inr (.inl f_fw_hindrance))), (fw_pull, .inl (k_fw_pull, 14, .inr (.inl f_fw_pull))), (fw_droop, .inl (k_fw_droop, 14, .inr (.inl f_fw_droop))), (st_fallen, .inl (k_st_fallen, 14, .inl f_st_fallen)), (fw_air, .inl (k_fw_air, 14, .inl f_fw_air)), (fw_forth, .inl (k_fw_forth, 14, .inr (.inl f_fw_forth))), (fw_back, .inl (k_fw_back, 14, .inr (.inl f_fw_back)))] sz) := by
  refine Met.ofW (cc := cX2_rate) (maxL := 6) (ret := none) (by decide) rfl ?_
  intro p e s m args below meth c s₁ B hml hv
  obtain ⟨rfl, hsz, hn0, hG, hP, hK, hD0⟩ := hv
  have hx := B.exec
  have hb := B.bytes
  have hr := B.returns
  have hts := atoms_spec (ws := wM yX2_rate cX2_rate 6 none) B.pre
  have hown : s.vm.findClass RX2 = some m.cls := findClass_of_methodNamed B.named
  have hlocks := B.notSynchronized
  subst hsz
  have hD := hD0.self (sz := s.heap.size)
  have hA0 := vA_n0 hD0 hn0
  generalize hAe : va_A [(fw, .inr (2, [.ref fw_air, .ref bk, .ref st, .ref fw_hindrance, .ref fw_pull, .ref fw_droop, .ref fw_forth, .ref fw_back, .ref fw_label, .ref fw_cause, .ref fw_seen, .ref fw_round])), (st, .inr (9, [.ref st_open, .ref st_speed, .ref st_fallen, .ref st_fire, .int st_mark, .int st_moreIn, .int st_more, .ref bk])), (fw_hindrance, .inl (k_fw_hindrance, 14, .inr (.inl f_fw_hindrance))), (fw_pull, .inl (k_fw_pull, 14, .inr (.inl f_fw_pull))), (fw_droop, .inl (k_fw_droop, 14, .inr (.inl f_fw_droop))), (st_fallen, .inl (k_st_fallen, 14, .inl f_st_fallen)), (fw_air, .inl (k_fw_air, 14, .inl f_fw_air)), (fw_forth, .inl (k_fw_forth, 14, .inr (.inl f_fw_forth))), (fw_back, .inl (k_fw_back, 14, .inr (.inl f_fw_back)))] s.heap.size = A at hD hA0 ⊢
  have hA : ∀ q : Nat, s.heap.size ≤ q → A q := fun q h => by rw [← hAe]; exact Or.inr h
  have hS : va_S A s.heap s.heap [] := va_S.rf
  have hl := lv_entry ([.ref fw, .int w, .int sp0]) (n := 6) (Nat.le_of_ble_eq_true rfl)
  rw [lg_entry_eq]
  generalize (lg_sl ([.ref fw, .int w, .int sp0]) ++ List.replicate (6 - (lg_sl ([.ref fw, .int w, .int sp0])).length) Slot.unset).toArray = ls at hl ⊢
  have hl : lv_has ls 6 [(0, .ref fw), (1, .int w), (2, .int sp0)] := hl
  refine lv_aload_n hx hb dX2_rate_0 rfl (lv_at hl 0 rfl) ?_
  refine va_get (D := (dC, dI)) (ci := 2) (v := .ref fw_air) (C := RX2) (T := TX2) (N := 12) hx hb hts (fun w h => wM_c (iX2 w h)) hown hK hP 0 rfl rfl 0 (by decide) (hts _ (wM_c wd_443)) (fun _ h9 => h9) rfl dX2_rate_1 ?_
  refine lv_iload_n hx hb dX2_rate_4 rfl (lv_at hl 1 rfl) ?_
  refine va_iald hx hb hK hP 6 4 rfl rfl (by first | with_reducible assumption | exact vp_in_iff.mpr (by omega)) dX2_rate_5 ?_
  refine lv_topi (fun v_1 ev_1 => ?_)
  refine lv_istore_n (lv' := [(3, .int v_1), (0, .ref fw), (1, .int w), (2, .int sp0)]) hx hb dX2_rate_6 rfl hl (by decide) rfl (fun ls hl => ?_)
  refine lv_aload_n hx hb dX2_rate_7 rfl (lv_at hl 1 rfl) ?_
  refine va_get (D := (dC, dI)) (ci := 2) (v := .ref st) (C := RX2) (T := TX2) (N := 12) hx hb hts (fun w h => wM_c (iX2 w h)) hown hK hP 0 rfl rfl 2 (by decide) (hts _ (wM_c wd_448)) (fun _ h9 => h9) rfl dX2_rate_8 ?_
  refine va_get (D := (dC, dI)) (ci := 9) (v := .ref st_fallen) (C := RX9) (T := TX9) (N := 8) hx hb hts (fun w h => wM_c (iX9 w h)) hown hK hP 1 rfl rfl 2 (by decide) (hts _ (wM_c wd_399)) (fun _ h9 => h9) rfl dX2_rate_11 ?_
  refine lv_iload_n hx hb dX2_rate_14 rfl (lv_at hl 2 rfl) ?_
  refine va_zald hx hb hK hP 5 3 rfl rfl (by first | with_reducible assumption | exact vp_in_iff.mpr (by omega)) dX2_rate_15 ?_
  refine lv_topi (fun v_2 ev_2 => ?_)
  refine lv_if_eq (tgt := 38) hx hb dX2_rate_16 (by decide) (fun c_3 => ?_) (fun c_3 => ?_)
  · skip
    have g_4 : v_2.toInt = (0 : Int) := i_eq c_3
    refine lv_aload_n hx hb dX2_rate_38 rfl (lv_at hl 1 rfl) ?_
    refine lv_iload_n hx hb dX2_rate_39 rfl (lv_at hl 2 rfl) ?_
    refine lv_iload_n hx hb dX2_rate_40 rfl (lv_at hl 0 rfl) ?_
    obtain ⟨hPc, hDc, hFc⟩ := s3_c (ws' := [(fw, .inr (2, [.ref fw_air, .ref bk, .ref st, .ref fw_hindrance, .ref fw_pull, .ref fw_droop, .ref fw_forth, .ref fw_back, .ref fw_label, .ref fw_cause, .ref fw_seen, .ref fw_round])), (fw_hindrance, .inl (k_fw_hindrance, 14, .inr (.inl f_fw_hindrance))), (fw_pull, .inl (k_fw_pull, 14, .inr (.inl f_fw_pull))), (fw_droop, .inl (k_fw_droop, 14, .inr (.inl f_fw_droop)))]) [0, 2, 3, 4] hP hD hS hA rfl (by decide)
    have hKc := hK.sub (tys' := [(k_fw_hindrance, .long), (k_fw_pull, .long), (k_fw_droop, .long)]) [0, 1, 2] rfl
    refine va_calll (va_runV (As := [.int w, .int v_1]) (rest := []) ⟨hx, hb, hml, hown, hts⟩ (c2_rankOf l dC dI n0 atx s.heap.size fw fw_air bk st fw_hindrance fw_pull fw_droop fw_forth fw_back fw_label fw_cause fw_seen fw_round k_fw_hindrance f_fw_hindrance k_fw_pull f_fw_pull k_fw_droop f_fw_droop w v_1 (by first | with_reducible assumption | omega | exact vp_in_iff.mpr (by omega) | exact vp_in_nI (by omega) (by omega) | exact ⟨by omega, by omega⟩)) (cwV 2 hts (gV (fun w h => wM_c h) wd_1028 wd_1025 wd_1027 wd_32 wd_120) rfl rfl rfl (by decide +kernel) ⟨Nat.le_of_ble_eq_true rfl, Nat.le_of_ble_eq_true rfl⟩) ⟨fun a U g mk q => by obtain ⟨q0, q1, q2, qG, qP, qK, qD⟩ := q; exact ⟨q0, q1, q2, GW.blind qG, qP, va_K.moved (u := U) (U := U.calling g mk a) (Vm.Alike.refl U.vm) qK, qD⟩, va_recv hKc hPc (ci := 2) (q0 := 0) rfl rfl, fun U hU hW => ⟨rfl, by rw [hU], Nat.le_trans hn0 hS.1, GW.go hW hU hG (fun q hq hA9 => hS.2.1 q hq (fun h => hA9 (hA0 q h))), by rw [hU]; exact hPc, va_K.moved hW.alike hKc, hDc.weaken (fun _ _ _ h => hA0 _ h)⟩⟩ rfl rfl hl.1 rfl (lv_room (Nat.le_of_ble_eq_true rfl)) dX2_rate_41 ⟨Nat.le_of_ble_eq_true rfl, Nat.le_of_ble_eq_true rfl⟩) hS (fun q _ h => hFc q h) hFc (fun r_5 u t H1 locs ht hvm hw_6 hB hz1 hk1 hS => ?_)
    obtain ⟨hP1, hK1, hD1⟩ := hB
    rw [ht] at hP1
    obtain ⟨hP, hD⟩ := s3_j (L := [(st, .inr (9, [.ref st_open, .ref st_speed, .ref st_fallen, .ref st_fire, .int st_mark, .int st_moreIn, .int st_more, .ref bk])), (st_fallen, .inl (k_st_fallen, 14, .inl f_st_fallen)), (fw_air, .inl (k_fw_air, 14, .inl f_fw_air)), (fw_forth, .inl (k_fw_forth, 14, .inr (.inl f_fw_forth))), (fw_back, .inl (k_fw_back, 14, .inr (.inl f_fw_back))), (fw, .inr (2, [.ref fw_air, .ref bk, .ref st, .ref fw_hindrance, .ref fw_pull, .ref fw_droop, .ref fw_forth, .ref fw_back, .ref fw_label, .ref fw_cause, .ref fw_seen, .ref fw_round])), (fw_hindrance, .inl (k_fw_hindrance, 14, .inr (.inl f_fw_hindrance))), (fw_pull, .inl (k_fw_pull, 14, .inr (.inl f_fw_pull))), (fw_droop, .inl (k_fw_droop, 14, .inr (.inl f_fw_droop)))]) 5 hP hD [0, 2, 3, 4] [1, 5, 6, 7, 8] hk1 hFc hP1 hD1 rfl rfl rfl (by decide) (by decide)
    generalize H1 = H at hP hS ⊢
    refine lv_lstore (lv' := [(4, .long r_5), (3, .int v_1), (0, .ref fw), (1, .int w), (2, .int sp0)]) hx hb dX2_rate_44 hl (by decide) rfl (fun ls hl => ?_)
    refine lv_aload_n hx hb dX2_rate_46 rfl (lv_at hl 2 rfl) ?_
    refine va_get (D := (dC, dI)) (ci := 2) (v := .ref fw_forth) (C := RX2) (T := TX2) (N := 12) hx hb hts (fun w h => wM_c (iX2 w h)) hown hK hP 5 rfl rfl 6 (by decide) (hts _ (wM_c wd_452)) (fun _ h9 => h9) rfl dX2_rate_47 ?_
    refine lv_iload_n hx hb dX2_rate_50 rfl (lv_at hl 3 rfl) ?_
    refine lv_iload_n hx hb dX2_rate_51 rfl (lv_at hl 1 rfl) ?_
    refine lv_iload_n hx hb dX2_rate_52 rfl (lv_at hl 4 rfl) ?_
    refine lv_iadd hx hb dX2_rate_53 ?_
    refine lv_topi (fun v_7 ev_7 => ?_)
    refine lv_bipush (v := 60) hx hb dX2_rate_54 (by decide) ?_
    refine lv_icmp_le (tgt := 65) hx hb dX2_rate_56 (by decide) (fun c_8 => ?_) (fun c_8 => ?_)
    · skip
      have g_9 : v_7.toInt ≤ (60 : Int) := i_le c_8
      refine lv_aload_n hx hb dX2_rate_65 rfl (lv_at hl 2 rfl) ?_
      refine lv_iload_n hx hb dX2_rate_66 rfl (lv_at hl 3 rfl) ?_
      refine lv_iload_n hx hb dX2_rate_67 rfl (lv_at hl 1 rfl) ?_
      refine lv_iload_n hx hb dX2_rate_68 rfl (lv_at hl 4 rfl) ?_
      refine lv_iadd hx hb dX2_rate_69 ?_
      refine lv_topi (fun v_10 ev_10 => ?_)
      obtain ⟨hPc, hDc, hFc⟩ := s3_c (ws' := [(fw, .inr (2, [.ref fw_air, .ref bk, .ref st, .ref fw_hindrance, .ref fw_pull, .ref fw_droop, .ref fw_forth, .ref fw_back, .ref fw_label, .ref fw_cause, .ref fw_seen, .ref fw_round])), (fw_hindrance, .inl (k_fw_hindrance, 14, .inr (.inl f_fw_hindrance))), (fw_pull, .inl (k_fw_pull, 14, .inr (.inl f_fw_pull))), (fw_droop, .inl (k_fw_droop, 14, .inr (.inl f_fw_droop)))]) [5, 6, 7, 8] hP hD hS hA rfl (by decide)
      have hKc := hK.sub (tys' := [(k_fw_hindrance, .long), (k_fw_pull, .long), (k_fw_droop, .long)]) [0, 1, 2] rfl
      refine va_calll (va_runV (As := [.int w, .int v_10]) (rest := [.int w, .ref fw_forth]) ⟨hx, hb, hml, hown, hts⟩ (c2_rankOf l dC dI n0 atx H.size fw fw_air bk st fw_hindrance fw_pull fw_droop fw_forth fw_back fw_label fw_cause fw_seen fw_round k_fw_hindrance f_fw_hindrance k_fw_pull f_fw_pull k_fw_droop f_fw_droop w v_10 (by first | with_reducible assumption | omega | exact vp_in_iff.mpr (by omega) | exact vp_in_nI (by omega) (by omega) | exact ⟨by omega, by omega⟩)) (cwV 2 hts (gV (fun w h => wM_c h) wd_1028 wd_1025 wd_1027 wd_32 wd_120) rfl rfl rfl (by decide +kernel) ⟨Nat.le_of_ble_eq_true rfl, Nat.le_of_ble_eq_true rfl⟩) ⟨fun a U g mk q => by obtain ⟨q0, q1, q2, qG, qP, qK, qD⟩ := q; exact ⟨q0, q1, q2, GW.blind qG, qP, va_K.moved (u := U) (U := U.calling g mk a) (Vm.Alike.refl U.vm) qK, qD⟩, va_recv hKc hPc (ci := 2) (q0 := 0) rfl rfl, fun U hU hW => ⟨rfl, by rw [hU], Nat.le_trans hn0 hS.1, GW.go hW hU hG (fun q hq hA9 => hS.2.1 q hq (fun h => hA9 (hA0 q h))), by rw [hU]; exact hPc, va_K.moved hW.alike hKc, hDc.weaken (fun _ _ _ h => hA0 _ h)⟩⟩ rfl rfl hl.1 rfl (lv_room (Nat.le_of_ble_eq_true rfl)) dX2_rate_70 ⟨Nat.le_of_ble_eq_true rfl, Nat.le_of_ble_eq_true rfl⟩) hS (fun q _ h => hFc q h) hFc (fun r_11 u t H1 locs ht hvm hw_12 hB hz1 hk1 hS => ?_)
      obtain ⟨hP1, hK1, hD1⟩ := hB
      rw [ht] at hP1
      obtain ⟨hP, hD⟩ := s3_j (L := [(st, .inr (9, [.ref st_open, .ref st_speed, .ref st_fallen, .ref st_fire, .int st_mark, .int st_moreIn, .int st_more, .ref bk])), (st_fallen, .inl (k_st_fallen, 14, .inl f_st_fallen)), (fw_air, .inl (k_fw_air, 14, .inl f_fw_air)), (fw_forth, .inl (k_fw_forth, 14, .inr (.inl f_fw_forth))), (fw_back, .inl (k_fw_back, 14, .inr (.inl f_fw_back))), (fw, .inr (2, [.ref fw_air, .ref bk, .ref st, .ref fw_hindrance, .ref fw_pull, .ref fw_droop, .ref fw_forth, .ref fw_back, .ref fw_label, .ref fw_cause, .ref fw_seen, .ref fw_round])), (fw_hindrance, .inl (k_fw_hindrance, 14, .inr (.inl f_fw_hindrance))), (fw_pull, .inl (k_fw_pull, 14, .inr (.inl f_fw_pull))), (fw_droop, .inl (k_fw_droop, 14, .inr (.inl f_fw_droop)))]) 5 hP hD [5, 6, 7, 8] [0, 1, 2, 3, 4] hk1 hFc hP1 hD1 rfl rfl rfl (by decide) (by decide)
      generalize H1 = H at hP hS ⊢
      refine lv_lload hx hb dX2_rate_73 (lv_at hl 0 rfl) ?_
      refine lv_lsub hx hb dX2_rate_75 ?_
      refine lv_topl (fun v_13 ev_13 => ?_)
      refine va_last hx hb hK hP hD hS 3 5 rfl rfl (by first | with_reducible assumption | exact vp_in_iff.mpr (by omega)) dX2_rate_76 (fun H locs hP hD hS => ?_)
      obtain ⟨f_14, ef_14⟩ : ∃ f9, f9 = (vp_updL f_fw_forth w.toNatClampNeg v_13) := ⟨_, rfl⟩
      obtain ⟨hP, hD⟩ : s3_w (dC, dI) classes A [(st, .inr (9, [.ref st_open, .ref st_speed, .ref st_fallen, .ref st_fire, .int st_mark, .int st_moreIn, .int st_more, .ref bk])), (st_fallen, .inl (k_st_fallen, 14, .inl f_st_fallen)), (fw_air, .inl (k_fw_air, 14, .inl f_fw_air)), (fw_forth, .inl (k_fw_forth, 14, .inr (.inl f_14))), (fw_back, .inl (k_fw_back, 14, .inr (.inl f_fw_back))), (fw, .inr (2, [.ref fw_air, .ref bk, .ref st, .ref fw_hindrance, .ref fw_pull, .ref fw_droop, .ref fw_forth, .ref fw_back, .ref fw_label, .ref fw_cause, .ref fw_seen, .ref fw_round])), (fw_hindrance, .inl (k_fw_hindrance, 14, .inr (.inl f_fw_hindrance))), (fw_pull, .inl (k_fw_pull, 14, .inr (.inl f_fw_pull))), (fw_droop, .inl (k_fw_droop, 14, .inr (.inl f_fw_droop)))] H := ⟨(by rw [ef_14]; exact hP), (by rw [ef_14]; exact hD)⟩
      refine lv_aload_n hx hb dX2_rate_77 rfl (lv_at hl 2 rfl) ?_
      refine va_get (D := (dC, dI)) (ci := 2) (v := .ref fw_back) (C := RX2) (T := TX2) (N := 12) hx hb hts (fun w h => wM_c (iX2 w h)) hown hK hP 5 rfl rfl 7 (by decide) (hts _ (wM_c wd_453)) (fun _ h9 => h9) rfl dX2_rate_78 ?_
      refine lv_iload_n hx hb dX2_rate_81 rfl (lv_at hl 3 rfl) ?_
      refine lv_iload_n hx hb dX2_rate_82 rfl (lv_at hl 1 rfl) ?_
      refine lv_iload_n hx hb dX2_rate_83 rfl (lv_at hl 4 rfl) ?_
      refine lv_isub hx hb dX2_rate_84 ?_
      refine lv_topi (fun v_15 ev_15 => ?_)
      refine lv_bipush (v := (-60)) hx hb dX2_rate_85 (by decide) ?_
      refine lv_icmp_ge (tgt := 96) hx hb dX2_rate_87 (by decide) (fun c_16 => ?_) (fun c_16 => ?_)
      · skip
        have g_17 : (-60 : Int) ≤ v_15.toInt := i_le c_16
        refine lv_aload_n hx hb dX2_rate_96 rfl (lv_at hl 2 rfl) ?_
        refine lv_iload_n hx hb dX2_rate_97 rfl (lv_at hl 3 rfl) ?_
        refine lv_iload_n hx hb dX2_rate_98 rfl (lv_at hl 1 rfl) ?_
        refine lv_iload_n hx hb dX2_rate_99 rfl (lv_at hl 4 rfl) ?_
        refine lv_isub hx hb dX2_rate_100 ?_
        refine lv_topi (fun v_18 ev_18 => ?_)
        obtain ⟨hPc, hDc, hFc⟩ := s3_c (ws' := [(fw, .inr (2, [.ref fw_air, .ref bk, .ref st, .ref fw_hindrance, .ref fw_pull, .ref fw_droop, .ref fw_forth, .ref fw_back, .ref fw_label, .ref fw_cause, .ref fw_seen, .ref fw_round])), (fw_hindrance, .inl (k_fw_hindrance, 14, .inr (.inl f_fw_hindrance))), (fw_pull, .inl (k_fw_pull, 14, .inr (.inl f_fw_pull))), (fw_droop, .inl (k_fw_droop, 14, .inr (.inl f_fw_droop)))]) [5, 6, 7, 8] hP hD hS hA rfl (by decide)
        have hKc := hK.sub (tys' := [(k_fw_hindrance, .long), (k_fw_pull, .long), (k_fw_droop, .long)]) [0, 1, 2] rfl
        refine va_calll (va_runV (As := [.int w, .int v_18]) (rest := [.int w, .ref fw_back]) ⟨hx, hb, hml, hown, hts⟩ (c2_rankOf l dC dI n0 atx H.size fw fw_air bk st fw_hindrance fw_pull fw_droop fw_forth fw_back fw_label fw_cause fw_seen fw_round k_fw_hindrance f_fw_hindrance k_fw_pull f_fw_pull k_fw_droop f_fw_droop w v_18 (by first | with_reducible assumption | omega | exact vp_in_iff.mpr (by omega) | exact vp_in_nI (by omega) (by omega) | exact ⟨by omega, by omega⟩)) (cwV 2 hts (gV (fun w h => wM_c h) wd_1028 wd_1025 wd_1027 wd_32 wd_120) rfl rfl rfl (by decide +kernel) ⟨Nat.le_of_ble_eq_true rfl, Nat.le_of_ble_eq_true rfl⟩) ⟨fun a U g mk q => by obtain ⟨q0, q1, q2, qG, qP, qK, qD⟩ := q; exact ⟨q0, q1, q2, GW.blind qG, qP, va_K.moved (u := U) (U := U.calling g mk a) (Vm.Alike.refl U.vm) qK, qD⟩, va_recv hKc hPc (ci := 2) (q0 := 0) rfl rfl, fun U hU hW => ⟨rfl, by rw [hU], Nat.le_trans hn0 hS.1, GW.go hW hU hG (fun q hq hA9 => hS.2.1 q hq (fun h => hA9 (hA0 q h))), by rw [hU]; exact hPc, va_K.moved hW.alike hKc, hDc.weaken (fun _ _ _ h => hA0 _ h)⟩⟩ rfl rfl hl.1 rfl (lv_room (Nat.le_of_ble_eq_true rfl)) dX2_rate_101 ⟨Nat.le_of_ble_eq_true rfl, Nat.le_of_ble_eq_true rfl⟩) hS (fun q _ h => hFc q h) hFc (fun r_19 u t H1 locs ht hvm hw_20 hB hz1 hk1 hS => ?_)
        obtain ⟨hP1, hK1, hD1⟩ := hB
        rw [ht] at hP1
        obtain ⟨hP, hD⟩ := s3_j (L := [(st, .inr (9, [.ref st_open, .ref st_speed, .ref st_fallen, .ref st_fire, .int st_mark, .int st_moreIn, .int st_more, .ref bk])), (st_fallen, .inl (k_st_fallen, 14, .inl f_st_fallen)), (fw_air, .inl (k_fw_air, 14, .inl f_fw_air)), (fw_forth, .inl (k_fw_forth, 14, .inr (.inl f_14))), (fw_back, .inl (k_fw_back, 14, .inr (.inl f_fw_back))), (fw, .inr (2, [.ref fw_air, .ref bk, .ref st, .ref fw_hindrance, .ref fw_pull, .ref fw_droop, .ref fw_forth, .ref fw_back, .ref fw_label, .ref fw_cause, .ref fw_seen, .ref fw_round])), (fw_hindrance, .inl (k_fw_hindrance, 14, .inr (.inl f_fw_hindrance))), (fw_pull, .inl (k_fw_pull, 14, .inr (.inl f_fw_pull))), (fw_droop, .inl (k_fw_droop, 14, .inr (.inl f_fw_droop)))]) 5 hP hD [5, 6, 7, 8] [0, 1, 2, 3, 4] hk1 hFc hP1 hD1 rfl rfl rfl (by decide) (by decide)
        generalize H1 = H at hP hS ⊢
        refine lv_lload hx hb dX2_rate_104 (lv_at hl 0 rfl) ?_
        refine lv_lsub hx hb dX2_rate_106 ?_
        refine lv_topl (fun v_21 ev_21 => ?_)
        refine va_last hx hb hK hP hD hS 4 6 rfl rfl (by first | with_reducible assumption | exact vp_in_iff.mpr (by omega)) dX2_rate_107 (fun H locs hP hD hS => ?_)
        obtain ⟨f_22, ef_22⟩ : ∃ f9, f9 = (vp_updL f_fw_back w.toNatClampNeg v_21) := ⟨_, rfl⟩
        obtain ⟨hP, hD⟩ : s3_w (dC, dI) classes A [(st, .inr (9, [.ref st_open, .ref st_speed, .ref st_fallen, .ref st_fire, .int st_mark, .int st_moreIn, .int st_more, .ref bk])), (st_fallen, .inl (k_st_fallen, 14, .inl f_st_fallen)), (fw_air, .inl (k_fw_air, 14, .inl f_fw_air)), (fw_forth, .inl (k_fw_forth, 14, .inr (.inl f_14))), (fw_back, .inl (k_fw_back, 14, .inr (.inl f_22))), (fw, .inr (2, [.ref fw_air, .ref bk, .ref st, .ref fw_hindrance, .ref fw_pull, .ref fw_droop, .ref fw_forth, .ref fw_back, .ref fw_label, .ref fw_cause, .ref fw_seen, .ref fw_round])), (fw_hindrance, .inl (k_fw_hindrance, 14, .inr (.inl f_fw_hindrance))), (fw_pull, .inl (k_fw_pull, 14, .inr (.inl f_fw_pull))), (fw_droop, .inl (k_fw_droop, 14, .inr (.inl f_fw_droop)))] H := ⟨(by rw [ef_22]; exact hP), (by rw [ef_22]; exact hD)⟩
        have hK9 := hK.sub (tys' := [(k_fw_hindrance, .long), (k_fw_pull, .long), (k_fw_droop, .long), (k_st_fallen, .boolean), (k_fw_air, .int), (k_fw_forth, .long), (k_fw_back, .long)]) [0, 1, 2, 3, 4, 5, 6] rfl
        exact W.vret hx hb hr (fun t ht hW => ⟨⟨(), rfl, trivial, f_14, f_22, by rw [ht]; exact hP.sub [5, 0, 6, 7, 8, 1, 2, 3, 4] rfl, va_K.moved hW.alike hK9, hD.sub [5, 0, 6, 7, 8, 1, 2, 3, 4] (by decide) rfl⟩, hS.F ht⟩) hS.2.2 dX2_rate_108
      · skip
        have g_23 : v_15.toInt < (-60 : Int) := i_nle c_16
        refine lv_ldc2 hx hb hown (hts _ (wM_c wd_1024)) dX2_rate_90 ?_
        refine lv_goto (tgt := 107) hx hb dX2_rate_93 (by decide) ?_
        refine va_last hx hb hK hP hD hS 4 6 rfl rfl (by first | with_reducible assumption | exact vp_in_iff.mpr (by omega)) dX2_rate_107 (fun H locs hP hD hS => ?_)
        obtain ⟨f_24, ef_24⟩ : ∃ f9, f9 = (vp_updL f_fw_back w.toNatClampNeg 4611686018427387904) := ⟨_, rfl⟩
        obtain ⟨hP, hD⟩ : s3_w (dC, dI) classes A [(st, .inr (9, [.ref st_open, .ref st_speed, .ref st_fallen, .ref st_fire, .int st_mark, .int st_moreIn, .int st_more, .ref bk])), (st_fallen, .inl (k_st_fallen, 14, .inl f_st_fallen)), (fw_air, .inl (k_fw_air, 14, .inl f_fw_air)), (fw_forth, .inl (k_fw_forth, 14, .inr (.inl f_14))), (fw_back, .inl (k_fw_back, 14, .inr (.inl f_24))), (fw, .inr (2, [.ref fw_air, .ref bk, .ref st, .ref fw_hindrance, .ref fw_pull, .ref fw_droop, .ref fw_forth, .ref fw_back, .ref fw_label, .ref fw_cause, .ref fw_seen, .ref fw_round])), (fw_hindrance, .inl (k_fw_hindrance, 14, .inr (.inl f_fw_hindrance))), (fw_pull, .inl (k_fw_pull, 14, .inr (.inl f_fw_pull))), (fw_droop, .inl (k_fw_droop, 14, .inr (.inl f_fw_droop)))] H := ⟨(by rw [ef_24]; exact hP), (by rw [ef_24]; exact hD)⟩
        have hK9 := hK.sub (tys' := [(k_fw_hindrance, .long), (k_fw_pull, .long), (k_fw_droop, .long), (k_st_fallen, .boolean), (k_fw_air, .int), (k_fw_forth, .long), (k_fw_back, .long)]) [0, 1, 2, 3, 4, 5, 6] rfl
        exact W.vret hx hb hr (fun t ht hW => ⟨⟨(), rfl, trivial, f_14, f_24, by rw [ht]; exact hP.sub [5, 0, 6, 7, 8, 1, 2, 3, 4] rfl, va_K.moved hW.alike hK9, hD.sub [5, 0, 6, 7, 8, 1, 2, 3, 4] (by decide) rfl⟩, hS.F ht⟩) hS.2.2 dX2_rate_108
    · skip
      have g_25 : (60 : Int) < v_7.toInt := i_nle c_8
      refine lv_ldc2 hx hb hown (hts _ (wM_c wd_1024)) dX2_rate_59 ?_
      refine lv_goto (tgt := 76) hx hb dX2_rate_62 (by decide) ?_
      refine va_last hx hb hK hP hD hS 3 5 rfl rfl (by first | with_reducible assumption | exact vp_in_iff.mpr (by omega)) dX2_rate_76 (fun H locs hP hD hS => ?_)
      obtain ⟨f_26, ef_26⟩ : ∃ f9, f9 = (vp_updL f_fw_forth w.toNatClampNeg 4611686018427387904) := ⟨_, rfl⟩
      obtain ⟨hP, hD⟩ : s3_w (dC, dI) classes A [(st, .inr (9, [.ref st_open, .ref st_speed, .ref st_fallen, .ref st_fire, .int st_mark, .int st_moreIn, .int st_more, .ref bk])), (st_fallen, .inl (k_st_fallen, 14, .inl f_st_fallen)), (fw_air, .inl (k_fw_air, 14, .inl f_fw_air)), (fw_forth, .inl (k_fw_forth, 14, .inr (.inl f_26))), (fw_back, .inl (k_fw_back, 14, .inr (.inl f_fw_back))), (fw, .inr (2, [.ref fw_air, .ref bk, .ref st, .ref fw_hindrance, .ref fw_pull, .ref fw_droop, .ref fw_forth, .ref fw_back, .ref fw_label, .ref fw_cause, .ref fw_seen, .ref fw_round])), (fw_hindrance, .inl (k_fw_hindrance, 14, .inr (.inl f_fw_hindrance))), (fw_pull, .inl (k_fw_pull, 14, .inr (.inl f_fw_pull))), (fw_droop, .inl (k_fw_droop, 14, .inr (.inl f_fw_droop)))] H := ⟨(by rw [ef_26]; exact hP), (by rw [ef_26]; exact hD)⟩
      refine lv_aload_n hx hb dX2_rate_77 rfl (lv_at hl 2 rfl) ?_
      refine va_get (D := (dC, dI)) (ci := 2) (v := .ref fw_back) (C := RX2) (T := TX2) (N := 12) hx hb hts (fun w h => wM_c (iX2 w h)) hown hK hP 5 rfl rfl 7 (by decide) (hts _ (wM_c wd_453)) (fun _ h9 => h9) rfl dX2_rate_78 ?_
      refine lv_iload_n hx hb dX2_rate_81 rfl (lv_at hl 3 rfl) ?_
      refine lv_iload_n hx hb dX2_rate_82 rfl (lv_at hl 1 rfl) ?_
      refine lv_iload_n hx hb dX2_rate_83 rfl (lv_at hl 4 rfl) ?_
      refine lv_isub hx hb dX2_rate_84 ?_
      refine lv_topi (fun v_27 ev_27 => ?_)
      refine lv_bipush (v := (-60)) hx hb dX2_rate_85 (by decide) ?_
      refine lv_icmp_ge (tgt := 96) hx hb dX2_rate_87 (by decide) (fun c_28 => ?_) (fun c_28 => ?_)
      · skip
        have g_29 : (-60 : Int) ≤ v_27.toInt := i_le c_28
        refine lv_aload_n hx hb dX2_rate_96 rfl (lv_at hl 2 rfl) ?_
        refine lv_iload_n hx hb dX2_rate_97 rfl (lv_at hl 3 rfl) ?_
        refine lv_iload_n hx hb dX2_rate_98 rfl (lv_at hl 1 rfl) ?_
        refine lv_iload_n hx hb dX2_rate_99 rfl (lv_at hl 4 rfl) ?_
        refine lv_isub hx hb dX2_rate_100 ?_
        refine lv_topi (fun v_30 ev_30 => ?_)
        obtain ⟨hPc, hDc, hFc⟩ := s3_c (ws' := [(fw, .inr (2, [.ref fw_air, .ref bk, .ref st, .ref fw_hindrance, .ref fw_pull, .ref fw_droop, .ref fw_forth, .ref fw_back, .ref fw_label, .ref fw_cause, .ref fw_seen, .ref fw_round])), (fw_hindrance, .inl (k_fw_hindrance, 14, .inr (.inl f_fw_hindrance))), (fw_pull, .inl (k_fw_pull, 14, .inr (.inl f_fw_pull))), (fw_droop, .inl (k_fw_droop, 14, .inr (.inl f_fw_droop)))]) [5, 6, 7, 8] hP hD hS hA rfl (by decide)
        have hKc := hK.sub (tys' := [(k_fw_hindrance, .long), (k_fw_pull, .long), (k_fw_droop, .long)]) [0, 1, 2] rfl
        refine va_calll (va_runV (As := [.int w, .int v_30]) (rest := [.int w, .ref fw_back]) ⟨hx, hb, hml, hown, hts⟩ (c2_rankOf l dC dI n0 atx H.size fw fw_air bk st fw_hindrance fw_pull fw_droop fw_forth fw_back fw_label fw_cause fw_seen fw_round k_fw_hindrance f_fw_hindrance k_fw_pull f_fw_pull k_fw_droop f_fw_droop w v_30 (by first | with_reducible assumption | omega | exact vp_in_iff.mpr (by omega) | exact vp_in_nI (by omega) (by omega) | exact ⟨by omega, by omega⟩)) (cwV 2 hts (gV (fun w h => wM_c h) wd_1028 wd_1025 wd_1027 wd_32 wd_120) rfl rfl rfl (by decide +kernel) ⟨Nat.le_of_ble_eq_true rfl, Nat.le_of_ble_eq_true rfl⟩) ⟨fun a U g mk q => by obtain ⟨q0, q1, q2, qG, qP, qK, qD⟩ := q; exact ⟨q0, q1, q2, GW.blind qG, qP, va_K.moved (u := U) (U := U.calling g mk a) (Vm.Alike.refl U.vm) qK, qD⟩, va_recv hKc hPc (ci := 2) (q0 := 0) rfl rfl, fun U hU hW => ⟨rfl, by rw [hU], Nat.le_trans hn0 hS.1, GW.go hW hU hG (fun q hq hA9 => hS.2.1 q hq (fun h => hA9 (hA0 q h))), by rw [hU]; exact hPc, va_K.moved hW.alike hKc, hDc.weaken (fun _ _ _ h => hA0 _ h)⟩⟩ rfl rfl hl.1 rfl (lv_room (Nat.le_of_ble_eq_true rfl)) dX2_rate_101 ⟨Nat.le_of_ble_eq_true rfl, Nat.le_of_ble_eq_true rfl⟩) hS (fun q _ h => hFc q h) hFc (fun r_31 u t H1 locs ht hvm hw_32 hB hz1 hk1 hS => ?_)
        obtain ⟨hP1, hK1, hD1⟩ := hB
        rw [ht] at hP1
        obtain ⟨hP, hD⟩ := s3_j (L := [(st, .inr (9, [.ref st_open, .ref st_speed, .ref st_fallen, .ref st_fire, .int st_mark, .int st_moreIn, .int st_more, .ref bk])), (st_fallen, .inl (k_st_fallen, 14, .inl f_st_fallen)), (fw_air, .inl (k_fw_air, 14, .inl f_fw_air)), (fw_forth, .inl (k_fw_forth, 14, .inr (.inl f_26))), (fw_back, .inl (k_fw_back, 14, .inr (.inl f_fw_back))), (fw, .inr (2, [.ref fw_air, .ref bk, .ref st, .ref fw_hindrance, .ref fw_pull, .ref fw_droop, .ref fw_forth, .ref fw_back, .ref fw_label, .ref fw_cause, .ref fw_seen, .ref fw_round])), (fw_hindrance, .inl (k_fw_hindrance, 14, .inr (.inl f_fw_hindrance))), (fw_pull, .inl (k_fw_pull, 14, .inr (.inl f_fw_pull))), (fw_droop, .inl (k_fw_droop, 14, .inr (.inl f_fw_droop)))]) 5 hP hD [5, 6, 7, 8] [0, 1, 2, 3, 4] hk1 hFc hP1 hD1 rfl rfl rfl (by decide) (by decide)
        generalize H1 = H at hP hS ⊢
        refine lv_lload hx hb dX2_rate_104 (lv_at hl 0 rfl) ?_
        refine lv_lsub hx hb dX2_rate_106 ?_
        refine lv_topl (fun v_33 ev_33 => ?_)
        refine va_last hx hb hK hP hD hS 4 6 rfl rfl (by first | with_reducible assumption | exact vp_in_iff.mpr (by omega)) dX2_rate_107 (fun H locs hP hD hS => ?_)
        obtain ⟨f_34, ef_34⟩ : ∃ f9, f9 = (vp_updL f_fw_back w.toNatClampNeg v_33) := ⟨_, rfl⟩
        obtain ⟨hP, hD⟩ : s3_w (dC, dI) classes A [(st, .inr (9, [.ref st_open, .ref st_speed, .ref st_fallen, .ref st_fire, .int st_mark, .int st_moreIn, .int st_more, .ref bk])), (st_fallen, .inl (k_st_fallen, 14, .inl f_st_fallen)), (fw_air, .inl (k_fw_air, 14, .inl f_fw_air)), (fw_forth, .inl (k_fw_forth, 14, .inr (.inl f_26))), (fw_back, .inl (k_fw_back, 14, .inr (.inl f_34))), (fw, .inr (2, [.ref fw_air, .ref bk, .ref st, .ref fw_hindrance, .ref fw_pull, .ref fw_droop, .ref fw_forth, .ref fw_back, .ref fw_label, .ref fw_cause, .ref fw_seen, .ref fw_round])), (fw_hindrance, .inl (k_fw_hindrance, 14, .inr (.inl f_fw_hindrance))), (fw_pull, .inl (k_fw_pull, 14, .inr (.inl f_fw_pull))), (fw_droop, .inl (k_fw_droop, 14, .inr (.inl f_fw_droop)))] H := ⟨(by rw [ef_34]; exact hP), (by rw [ef_34]; exact hD)⟩
        have hK9 := hK.sub (tys' := [(k_fw_hindrance, .long), (k_fw_pull, .long), (k_fw_droop, .long), (k_st_fallen, .boolean), (k_fw_air, .int), (k_fw_forth, .long), (k_fw_back, .long)]) [0, 1, 2, 3, 4, 5, 6] rfl
        exact W.vret hx hb hr (fun t ht hW => ⟨⟨(), rfl, trivial, f_26, f_34, by rw [ht]; exact hP.sub [5, 0, 6, 7, 8, 1, 2, 3, 4] rfl, va_K.moved hW.alike hK9, hD.sub [5, 0, 6, 7, 8, 1, 2, 3, 4] (by decide) rfl⟩, hS.F ht⟩) hS.2.2 dX2_rate_108
      · skip
        have g_35 : v_27.toInt < (-60 : Int) := i_nle c_28
        refine lv_ldc2 hx hb hown (hts _ (wM_c wd_1024)) dX2_rate_90 ?_
        refine lv_goto (tgt := 107) hx hb dX2_rate_93 (by decide) ?_
        refine va_last hx hb hK hP hD hS 4 6 rfl rfl (by first | with_reducible assumption | exact vp_in_iff.mpr (by omega)) dX2_rate_107 (fun H locs hP hD hS => ?_)
        obtain ⟨f_36, ef_36⟩ : ∃ f9, f9 = (vp_updL f_fw_back w.toNatClampNeg 4611686018427387904) := ⟨_, rfl⟩
        obtain ⟨hP, hD⟩ : s3_w (dC, dI) classes A [(st, .inr (9, [.ref st_open, .ref st_speed, .ref st_fallen, .ref st_fire, .int st_mark, .int st_moreIn, .int st_more, .ref bk])), (st_fallen, .inl (k_st_fallen, 14, .inl f_st_fallen)), (fw_air, .inl (k_fw_air, 14, .inl f_fw_air)), (fw_forth, .inl (k_fw_forth, 14, .inr (.inl f_26))), (fw_back, .inl (k_fw_back, 14, .inr (.inl f_36))), (fw, .inr (2, [.ref fw_air, .ref bk, .ref st, .ref fw_hindrance, .ref fw_pull, .ref fw_droop, .ref fw_forth, .ref fw_back, .ref fw_label, .ref fw_cause, .ref fw_seen, .ref fw_round])), (fw_hindrance, .inl (k_fw_hindrance, 14, .inr (.inl f_fw_hindrance))), (fw_pull, .inl (k_fw_pull, 14, .inr (.inl f_fw_pull))), (fw_droop, .inl (k_fw_droop, 14, .inr (.inl f_fw_droop)))] H := ⟨(by rw [ef_36]; exact hP), (by rw [ef_36]; exact hD)⟩
        have hK9 := hK.sub (tys' := [(k_fw_hindrance, .long), (k_fw_pull, .long), (k_fw_droop, .long), (k_st_fallen, .boolean), (k_fw_air, .int), (k_fw_forth, .long), (k_fw_back, .long)]) [0, 1, 2, 3, 4, 5, 6] rfl
        exact W.vret hx hb hr (fun t ht hW => ⟨⟨(), rfl, trivial, f_26, f_36, by rw [ht]; exact hP.sub [5, 0, 6, 7, 8, 1, 2, 3, 4] rfl, va_K.moved hW.alike hK9, hD.sub [5, 0, 6, 7, 8, 1, 2, 3, 4] (by decide) rfl⟩, hS.F ht⟩) hS.2.2 dX2_rate_108
  · skip
    have g_37 : v_2.toInt ≠ (0 : Int) := i_ne c_3
    refine lv_aload_n hx hb dX2_rate_19 rfl (lv_at hl 1 rfl) ?_
    refine va_get (D := (dC, dI)) (ci := 2) (v := .ref fw_forth) (C := RX2) (T := TX2) (N := 12) hx hb hts (fun w h => wM_c (iX2 w h)) hown hK hP 0 rfl rfl 6 (by decide) (hts _ (wM_c wd_452)) (fun _ h9 => h9) rfl dX2_rate_20 ?_
    refine lv_iload_n hx hb dX2_rate_23 rfl (lv_at hl 2 rfl) ?_
    refine lv_ldc2 hx hb hown (hts _ (wM_c wd_1024)) dX2_rate_24 ?_
    refine va_last hx hb hK hP hD hS 7 5 rfl rfl (by first | with_reducible assumption | exact vp_in_iff.mpr (by omega)) dX2_rate_27 (fun H locs hP hD hS => ?_)
    obtain ⟨f_38, ef_38⟩ : ∃ f9, f9 = (vp_updL f_fw_forth w.toNatClampNeg 4611686018427387904) := ⟨_, rfl⟩
    obtain ⟨hP, hD⟩ : s3_w (dC, dI) classes A [(fw, .inr (2, [.ref fw_air, .ref bk, .ref st, .ref fw_hindrance, .ref fw_pull, .ref fw_droop, .ref fw_forth, .ref fw_back, .ref fw_label, .ref fw_cause, .ref fw_seen, .ref fw_round])), (st, .inr (9, [.ref st_open, .ref st_speed, .ref st_fallen, .ref st_fire, .int st_mark, .int st_moreIn, .int st_more, .ref bk])), (fw_hindrance, .inl (k_fw_hindrance, 14, .inr (.inl f_fw_hindrance))), (fw_pull, .inl (k_fw_pull, 14, .inr (.inl f_fw_pull))), (fw_droop, .inl (k_fw_droop, 14, .inr (.inl f_fw_droop))), (st_fallen, .inl (k_st_fallen, 14, .inl f_st_fallen)), (fw_air, .inl (k_fw_air, 14, .inl f_fw_air)), (fw_forth, .inl (k_fw_forth, 14, .inr (.inl f_38))), (fw_back, .inl (k_fw_back, 14, .inr (.inl f_fw_back)))] H := ⟨(by rw [ef_38]; exact hP), (by rw [ef_38]; exact hD)⟩
    refine lv_aload_n hx hb dX2_rate_28 rfl (lv_at hl 1 rfl) ?_
    refine va_get (D := (dC, dI)) (ci := 2) (v := .ref fw_back) (C := RX2) (T := TX2) (N := 12) hx hb hts (fun w h => wM_c (iX2 w h)) hown hK hP 0 rfl rfl 7 (by decide) (hts _ (wM_c wd_453)) (fun _ h9 => h9) rfl dX2_rate_29 ?_
    refine lv_iload_n hx hb dX2_rate_32 rfl (lv_at hl 2 rfl) ?_
    refine lv_ldc2 hx hb hown (hts _ (wM_c wd_1024)) dX2_rate_33 ?_
    refine va_last hx hb hK hP hD hS 8 6 rfl rfl (by first | with_reducible assumption | exact vp_in_iff.mpr (by omega)) dX2_rate_36 (fun H locs hP hD hS => ?_)
    obtain ⟨f_39, ef_39⟩ : ∃ f9, f9 = (vp_updL f_fw_back w.toNatClampNeg 4611686018427387904) := ⟨_, rfl⟩
    obtain ⟨hP, hD⟩ : s3_w (dC, dI) classes A [(fw, .inr (2, [.ref fw_air, .ref bk, .ref st, .ref fw_hindrance, .ref fw_pull, .ref fw_droop, .ref fw_forth, .ref fw_back, .ref fw_label, .ref fw_cause, .ref fw_seen, .ref fw_round])), (st, .inr (9, [.ref st_open, .ref st_speed, .ref st_fallen, .ref st_fire, .int st_mark, .int st_moreIn, .int st_more, .ref bk])), (fw_hindrance, .inl (k_fw_hindrance, 14, .inr (.inl f_fw_hindrance))), (fw_pull, .inl (k_fw_pull, 14, .inr (.inl f_fw_pull))), (fw_droop, .inl (k_fw_droop, 14, .inr (.inl f_fw_droop))), (st_fallen, .inl (k_st_fallen, 14, .inl f_st_fallen)), (fw_air, .inl (k_fw_air, 14, .inl f_fw_air)), (fw_forth, .inl (k_fw_forth, 14, .inr (.inl f_38))), (fw_back, .inl (k_fw_back, 14, .inr (.inl f_39)))] H := ⟨(by rw [ef_39]; exact hP), (by rw [ef_39]; exact hD)⟩
    have hK9 := hK.sub (tys' := [(k_fw_hindrance, .long), (k_fw_pull, .long), (k_fw_droop, .long), (k_st_fallen, .boolean), (k_fw_air, .int), (k_fw_forth, .long), (k_fw_back, .long)]) [0, 1, 2, 3, 4, 5, 6] rfl
    exact W.vret hx hb hr (fun t ht hW => ⟨⟨(), rfl, trivial, f_38, f_39, by rw [ht]; exact hP.sub [0, 1, 2, 3, 4, 5, 6, 7, 8] rfl, va_K.moved hW.alike hK9, hD.sub [0, 1, 2, 3, 4, 5, 6, 7, 8] (by decide) rfl⟩, hS.F ht⟩) hS.2.2 dX2_rate_37
