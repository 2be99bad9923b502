theorem wd_153 : Cond.methodLink "MineAir$Book" 3 (⟨"java/lang/Object", "<init>", "()V"⟩ : MethodName) ∈ wG := wG_of 153 (by decide +kernel) (by decide +kernel)
theorem wd_154 : Cond.classLink "MineAir$Book" 43 "MineAir$Gear" ∈ wG := wG_of 154 (by decide +kernel) (by decide +kernel)
theorem wd_155 : Cond.instantiable "MineAir$Gear" 13 ∈ wG := wG_of 155 (by decide +kernel) (by decide +kernel)
theorem wd_156 : Cond.methodLinkNest "MineAir$Book" 45 (⟨"MineAir$Gear", "<init>", "()V"⟩ : MethodName) "MineAir" ∈ wN := wN_of 156 (by decide +kernel) rfl
theorem wd_157 : Cond.instanceMethod (⟨"MineAir$Gear", "<init>", "()V"⟩ : MethodName) ∈ wG := wG_of 157 (by decide +kernel) (by decide +kernel)
theorem wd_158 : Cond.code (⟨"MineAir$Gear", "<init>", "()V"⟩ : MethodName) prog_5_method_1_code 1 (Option.none : Option Jvm.ClassFile.FieldType) ∈ wG := wG_of 158 (by decide +kernel) (by decide +kernel)
theorem wd_159 : Cond.methodLink "MineAir$Gear" 3 (⟨"java/lang/Object", "<init>", "()V"⟩ : MethodName) ∈ wG := wG_of 159 (by decide +kernel) (by decide +kernel)
theorem wd_332 : Cond.methodLink "MineAir$Reader" 3 (⟨"java/lang/Object", "<init>", "()V"⟩ : MethodName) ∈ wG := wG_of 332 (by decide +kernel) (by decide +kernel)
theorem wd_388 : Cond.methodLink "MineAir$State" 3 (⟨"java/lang/Object", "<init>", "()V"⟩ : MethodName) ∈ wG := wG_of 388 (by decide +kernel) (by decide +kernel)
theorem wd_430 : Cond.arrayClass Jvm.ClassFile.FieldType.boolean ∈ wG := wG_of 430 (by decide +kernel) (by decide +kernel)
theorem wd_436 : Cond.methodLink "MineAir$Judge" 3 (⟨"java/lang/Object", "<init>", "()V"⟩ : MethodName) ∈ wG := wG_of 436 (by decide +kernel) (by decide +kernel)
theorem wd_437 : Cond.classLink "MineAir$Judge" 19 "MineAir$Flow" ∈ wG := wG_of 437 (by decide +kernel) (by decide +kernel)
theorem wd_438 : Cond.instantiable "MineAir$Flow" 12 ∈ wG := wG_of 438 (by decide +kernel) (by decide +kernel)
theorem wd_439 : Cond.methodLink "MineAir$Judge" 21 (⟨"MineAir$Flow", "<init>", "(LMineAir$Book;LMineAir$State;)V"⟩ : MethodName) ∈ wG := wG_of 439 (by decide +kernel) (by decide +kernel)
theorem wd_440 : Cond.instanceMethod (⟨"MineAir$Flow", "<init>", "(LMineAir$Book;LMineAir$State;)V"⟩ : MethodName) ∈ wG := wG_of 440 (by decide +kernel) (by decide +kernel)
theorem wd_441 : Cond.code (⟨"MineAir$Flow", "<init>", "(LMineAir$Book;LMineAir$State;)V"⟩ : MethodName) prog_4_method_1_code 3 (Option.none : Option Jvm.ClassFile.FieldType) ∈ wG := wG_of 441 (by decide +kernel) (by decide +kernel)
theorem wd_442 : Cond.methodLink "MineAir$Flow" 3 (⟨"java/lang/Object", "<init>", "()V"⟩ : MethodName) ∈ wG := wG_of 442 (by decide +kernel) (by decide +kernel)
theorem wd_483 : Cond.classLink "MineAir$Judge" 28 "MineAir$Load" ∈ wG := wG_of 483 (by decide +kernel) (by decide +kernel)
theorem wd_484 : Cond.instantiable "MineAir$Load" 6 ∈ wG := wG_of 484 (by decide +kernel) (by decide +kernel)
theorem wd_485 : Cond.methodLink "MineAir$Judge" 30 (⟨"MineAir$Load", "<init>", "(LMineAir$Book;)V"⟩ : MethodName) ∈ wG := wG_of 485 (by decide +kernel) (by decide +kernel)
theorem wd_486 : Cond.instanceMethod (⟨"MineAir$Load", "<init>", "(LMineAir$Book;)V"⟩ : MethodName) ∈ wG := wG_of 486 (by decide +kernel) (by decide +kernel)
theorem wd_487 : Cond.code (⟨"MineAir$Load", "<init>", "(LMineAir$Book;)V"⟩ : MethodName) prog_7_method_1_code 2 (Option.none : Option Jvm.ClassFile.FieldType) ∈ wG := wG_of 487 (by decide +kernel) (by decide +kernel)
theorem wd_488 : Cond.methodLink "MineAir$Load" 3 (⟨"java/lang/Object", "<init>", "()V"⟩ : MethodName) ∈ wG := wG_of 488 (by decide +kernel) (by decide +kernel)
theorem wd_539 : Cond.methodLink "MineAir$Trials" 3 (⟨"java/lang/Object", "<init>", "()V"⟩ : MethodName) ∈ wG := wG_of 539 (by decide +kernel) (by decide +kernel)
theorem wd_571 : Cond.methodLink "MineAir$Plan" 3 (⟨"java/lang/Object", "<init>", "()V"⟩ : MethodName) ∈ wG := wG_of 571 (by decide +kernel) (by decide +kernel)
theorem wd_613 : Cond.methodLink "MineAir$Flight" 3 (⟨"java/lang/Object", "<init>", "()V"⟩ : MethodName) ∈ wG := wG_of 613 (by decide +kernel) (by decide +kernel)
theorem wd_615 : Cond.fieldLink "MineAir$Flight" 9 "MineAir$Flight" "knotOf" "[I" ∈ wG := wG_of 615 (by decide +kernel) (by decide +kernel)
theorem wd_648 : Cond.methodLink "MineAir$Readings" 3 (⟨"java/lang/Object", "<init>", "()V"⟩ : MethodName) ∈ wG := wG_of 648 (by decide +kernel) (by decide +kernel)
theorem dX0_init_0 : decode cX0_init 0 = .ok (.aload_n 0, 1) := by decide +kernel
theorem dX0_init_1 : decode cX0_init 1 = .ok (.invokespecial 3, 3) := by decide +kernel
theorem dX0_init_4 : decode cX0_init 4 = .ok (.aload_n 0, 1) := by decide +kernel
theorem dX0_init_5 : decode cX0_init 5 = .ok (.bipush 14, 2) := by decide +kernel
theorem dX0_init_7 : decode cX0_init 7 = .ok (.newarray .int, 2) := by decide +kernel
theorem dX0_init_9 : decode cX0_init 9 = .ok (.putfield 9, 3) := by decide +kernel
theorem dX0_init_12 : decode cX0_init 12 = .ok (.aload_n 0, 1) := by decide +kernel
theorem dX0_init_13 : decode cX0_init 13 = .ok (.bipush 14, 2) := by decide +kernel
theorem dX0_init_15 : decode cX0_init 15 = .ok (.newarray .int, 2) := by decide +kernel
theorem dX0_init_17 : decode cX0_init 17 = .ok (.putfield 15, 3) := by decide +kernel
theorem dX0_init_20 : decode cX0_init 20 = .ok (.aload_n 0, 1) := by decide +kernel
theorem dX0_init_21 : decode cX0_init 21 = .ok (.bipush 14, 2) := by decide +kernel
theorem dX0_init_23 : decode cX0_init 23 = .ok (.newarray .int, 2) := by decide +kernel
theorem dX0_init_25 : decode cX0_init 25 = .ok (.putfield 18, 3) := by decide +kernel
theorem dX0_init_28 : decode cX0_init 28 = .ok (.aload_n 0, 1) := by decide +kernel
theorem dX0_init_29 : decode cX0_init 29 = .ok (.bipush 14, 2) := by decide +kernel
theorem dX0_init_31 : decode cX0_init 31 = .ok (.newarray .int, 2) := by decide +kernel
theorem dX0_init_33 : decode cX0_init 33 = .ok (.putfield 21, 3) := by decide +kernel
theorem dX0_init_36 : decode cX0_init 36 = .ok (.aload_n 0, 1) := by decide +kernel
theorem dX0_init_37 : decode cX0_init 37 = .ok (.bipush 14, 2) := by decide +kernel
theorem dX0_init_39 : decode cX0_init 39 = .ok (.newarray .int, 2) := by decide +kernel
theorem dX0_init_41 : decode cX0_init 41 = .ok (.putfield 24, 3) := by decide +kernel
theorem dX0_init_44 : decode cX0_init 44 = .ok (.aload_n 0, 1) := by decide +kernel
theorem dX0_init_45 : decode cX0_init 45 = .ok (.bipush 14, 2) := by decide +kernel
theorem dX0_init_47 : decode cX0_init 47 = .ok (.newarray .int, 2) := by decide +kernel
theorem dX0_init_49 : decode cX0_init 49 = .ok (.putfield 27, 3) := by decide +kernel
theorem dX0_init_52 : decode cX0_init 52 = .ok (.aload_n 0, 1) := by decide +kernel
theorem dX0_init_53 : decode cX0_init 53 = .ok (.bipush 14, 2) := by decide +kernel
theorem dX0_init_55 : decode cX0_init 55 = .ok (.newarray .int, 2) := by decide +kernel
theorem dX0_init_57 : decode cX0_init 57 = .ok (.putfield 30, 3) := by decide +kernel
theorem dX0_init_60 : decode cX0_init 60 = .ok (.aload_n 0, 1) := by decide +kernel
theorem dX0_init_61 : decode cX0_init 61 = .ok (.bipush 14, 2) := by decide +kernel
theorem dX0_init_63 : decode cX0_init 63 = .ok (.newarray .int, 2) := by decide +kernel
theorem dX0_init_65 : decode cX0_init 65 = .ok (.putfield 33, 3) := by decide +kernel
theorem dX0_init_68 : decode cX0_init 68 = .ok (.aload_n 0, 1) := by decide +kernel
theorem dX0_init_69 : decode cX0_init 69 = .ok (.bipush 14, 2) := by decide +kernel
theorem dX0_init_71 : decode cX0_init 71 = .ok (.newarray .int, 2) := by decide +kernel
theorem dX0_init_73 : decode cX0_init 73 = .ok (.putfield 36, 3) := by decide +kernel
theorem dX0_init_76 : decode cX0_init 76 = .ok (.aload_n 0, 1) := by decide +kernel
theorem dX0_init_77 : decode cX0_init 77 = .ok (.iconst (-1), 1) := by decide +kernel
theorem dX0_init_78 : decode cX0_init 78 = .ok (.putfield 39, 3) := by decide +kernel
theorem dX0_init_81 : decode cX0_init 81 = .ok (.aload_n 0, 1) := by decide +kernel
theorem dX0_init_82 : decode cX0_init 82 = .ok (.new 43, 3) := by decide +kernel
theorem dX0_init_85 : decode cX0_init 85 = .ok (.dup, 1) := by decide +kernel
theorem dX0_init_86 : decode cX0_init 86 = .ok (.invokespecial 45, 3) := by decide +kernel
theorem dX0_init_89 : decode cX0_init 89 = .ok (.putfield 46, 3) := by decide +kernel
theorem dX0_init_92 : decode cX0_init 92 = .ok (.return_, 1) := by decide +kernel
theorem dX10_init_0 : decode cX10_init 0 = .ok (.aload_n 0, 1) := by decide +kernel
theorem dX10_init_1 : decode cX10_init 1 = .ok (.invokespecial 3, 3) := by decide +kernel
theorem dX10_init_4 : decode cX10_init 4 = .ok (.aload_n 0, 1) := by decide +kernel
theorem dX10_init_5 : decode cX10_init 5 = .ok (.sipush 256, 3) := by decide +kernel
theorem dX10_init_8 : decode cX10_init 8 = .ok (.newarray .int, 2) := by decide +kernel
theorem dX10_init_10 : decode cX10_init 10 = .ok (.putfield 11, 3) := by decide +kernel
theorem dX10_init_13 : decode cX10_init 13 = .ok (.aload_n 0, 1) := by decide +kernel
theorem dX10_init_14 : decode cX10_init 14 = .ok (.iconst 4, 1) := by decide +kernel
theorem dX10_init_15 : decode cX10_init 15 = .ok (.newarray .int, 2) := by decide +kernel
theorem dX10_init_17 : decode cX10_init 17 = .ok (.putfield 15, 3) := by decide +kernel
theorem dX10_init_20 : decode cX10_init 20 = .ok (.aload_n 0, 1) := by decide +kernel
theorem dX10_init_21 : decode cX10_init 21 = .ok (.aload_n 1, 1) := by decide +kernel
theorem dX10_init_22 : decode cX10_init 22 = .ok (.putfield 18, 3) := by decide +kernel
theorem dX10_init_25 : decode cX10_init 25 = .ok (.aload_n 0, 1) := by decide +kernel
theorem dX10_init_26 : decode cX10_init 26 = .ok (.aload_n 2, 1) := by decide +kernel
theorem dX10_init_27 : decode cX10_init 27 = .ok (.putfield 22, 3) := by decide +kernel
theorem dX10_init_30 : decode cX10_init 30 = .ok (.aload_n 0, 1) := by decide +kernel
theorem dX10_init_31 : decode cX10_init 31 = .ok (.aload_n 3, 1) := by decide +kernel
theorem dX10_init_32 : decode cX10_init 32 = .ok (.putfield 26, 3) := by decide +kernel
theorem dX10_init_35 : decode cX10_init 35 = .ok (.aload_n 0, 1) := by decide +kernel
theorem dX10_init_36 : decode cX10_init 36 = .ok (.aload 4, 2) := by decide +kernel
theorem dX10_init_38 : decode cX10_init 38 = .ok (.putfield 30, 3) := by decide +kernel
theorem dX10_init_41 : decode cX10_init 41 = .ok (.return_, 1) := by decide +kernel
theorem dX1_init_0 : decode cX1_init 0 = .ok (.aload_n 0, 1) := by decide +kernel
theorem dX1_init_1 : decode cX1_init 1 = .ok (.invokespecial 3, 3) := by decide +kernel
theorem dX1_init_4 : decode cX1_init 4 = .ok (.aload_n 0, 1) := by decide +kernel
theorem dX1_init_5 : decode cX1_init 5 = .ok (.bipush 20, 2) := by decide +kernel
theorem dX1_init_7 : decode cX1_init 7 = .ok (.newarray .int, 2) := by decide +kernel
theorem dX1_init_9 : decode cX1_init 9 = .ok (.putfield 9, 3) := by decide +kernel
theorem dX1_init_12 : decode cX1_init 12 = .ok (.aload_n 0, 1) := by decide +kernel
theorem dX1_init_13 : decode cX1_init 13 = .ok (.bipush 14, 2) := by decide +kernel
theorem dX1_init_15 : decode cX1_init 15 = .ok (.newarray .int, 2) := by decide +kernel
theorem dX1_init_17 : decode cX1_init 17 = .ok (.putfield 15, 3) := by decide +kernel
theorem dX1_init_20 : decode cX1_init 20 = .ok (.aload_n 0, 1) := by decide +kernel
theorem dX1_init_21 : decode cX1_init 21 = .ok (.bipush 10, 2) := by decide +kernel
theorem dX1_init_23 : decode cX1_init 23 = .ok (.newarray .int, 2) := by decide +kernel
theorem dX1_init_25 : decode cX1_init 25 = .ok (.putfield 18, 3) := by decide +kernel
theorem dX1_init_28 : decode cX1_init 28 = .ok (.aload_n 0, 1) := by decide +kernel
theorem dX1_init_29 : decode cX1_init 29 = .ok (.bipush 11, 2) := by decide +kernel
theorem dX1_init_31 : decode cX1_init 31 = .ok (.newarray .int, 2) := by decide +kernel
theorem dX1_init_33 : decode cX1_init 33 = .ok (.putfield 21, 3) := by decide +kernel
theorem dX1_init_36 : decode cX1_init 36 = .ok (.aload_n 0, 1) := by decide +kernel
theorem dX1_init_37 : decode cX1_init 37 = .ok (.bipush 10, 2) := by decide +kernel
theorem dX1_init_39 : decode cX1_init 39 = .ok (.newarray .int, 2) := by decide +kernel
theorem dX1_init_41 : decode cX1_init 41 = .ok (.putfield 24, 3) := by decide +kernel
theorem dX1_init_44 : decode cX1_init 44 = .ok (.aload_n 0, 1) := by decide +kernel
theorem dX1_init_45 : decode cX1_init 45 = .ok (.aload_n 1, 1) := by decide +kernel
theorem dX1_init_46 : decode cX1_init 46 = .ok (.putfield 27, 3) := by decide +kernel
theorem dX1_init_49 : decode cX1_init 49 = .ok (.aload_n 0, 1) := by decide +kernel
theorem dX1_init_50 : decode cX1_init 50 = .ok (.aload_n 2, 1) := by decide +kernel
theorem dX1_init_51 : decode cX1_init 51 = .ok (.putfield 31, 3) := by decide +kernel
theorem dX1_init_54 : decode cX1_init 54 = .ok (.return_, 1) := by decide +kernel
theorem dX2_init_0 : decode cX2_init 0 = .ok (.aload_n 0, 1) := by decide +kernel
theorem dX2_init_1 : decode cX2_init 1 = .ok (.invokespecial 3, 3) := by decide +kernel
theorem dX2_init_4 : decode cX2_init 4 = .ok (.aload_n 0, 1) := by decide +kernel
theorem dX2_init_5 : decode cX2_init 5 = .ok (.bipush 14, 2) := by decide +kernel
theorem dX2_init_7 : decode cX2_init 7 = .ok (.newarray .int, 2) := by decide +kernel
theorem dX2_init_9 : decode cX2_init 9 = .ok (.putfield 9, 3) := by decide +kernel
theorem dX2_init_12 : decode cX2_init 12 = .ok (.aload_n 0, 1) := by decide +kernel
theorem dX2_init_13 : decode cX2_init 13 = .ok (.bipush 14, 2) := by decide +kernel
theorem dX2_init_15 : decode cX2_init 15 = .ok (.newarray .long, 2) := by decide +kernel
theorem dX2_init_17 : decode cX2_init 17 = .ok (.putfield 15, 3) := by decide +kernel
theorem dX2_init_20 : decode cX2_init 20 = .ok (.aload_n 0, 1) := by decide +kernel
theorem dX2_init_21 : decode cX2_init 21 = .ok (.bipush 14, 2) := by decide +kernel
theorem dX2_init_23 : decode cX2_init 23 = .ok (.newarray .long, 2) := by decide +kernel
theorem dX2_init_25 : decode cX2_init 25 = .ok (.putfield 19, 3) := by decide +kernel
theorem dX2_init_28 : decode cX2_init 28 = .ok (.aload_n 0, 1) := by decide +kernel
theorem dX2_init_29 : decode cX2_init 29 = .ok (.bipush 14, 2) := by decide +kernel
theorem dX2_init_31 : decode cX2_init 31 = .ok (.newarray .long, 2) := by decide +kernel
theorem dX2_init_33 : decode cX2_init 33 = .ok (.putfield 22, 3) := by decide +kernel
theorem dX2_init_36 : decode cX2_init 36 = .ok (.aload_n 0, 1) := by decide +kernel
theorem dX2_init_37 : decode cX2_init 37 = .ok (.bipush 14, 2) := by decide +kernel
theorem dX2_init_39 : decode cX2_init 39 = .ok (.newarray .long, 2) := by decide +kernel
theorem dX2_init_41 : decode cX2_init 41 = .ok (.putfield 25, 3) := by decide +kernel
theorem dX2_init_44 : decode cX2_init 44 = .ok (.aload_n 0, 1) := by decide +kernel
theorem dX2_init_45 : decode cX2_init 45 = .ok (.bipush 14, 2) := by decide +kernel
theorem dX2_init_47 : decode cX2_init 47 = .ok (.newarray .long, 2) := by decide +kernel
theorem dX2_init_49 : decode cX2_init 49 = .ok (.putfield 28, 3) := by decide +kernel
theorem dX2_init_52 : decode cX2_init 52 = .ok (.aload_n 0, 1) := by decide +kernel
theorem dX2_init_53 : decode cX2_init 53 = .ok (.bipush 10, 2) := by decide +kernel
theorem dX2_init_55 : decode cX2_init 55 = .ok (.newarray .long, 2) := by decide +kernel
theorem dX2_init_57 : decode cX2_init 57 = .ok (.putfield 31, 3) := by decide +kernel
theorem dX2_init_60 : decode cX2_init 60 = .ok (.aload_n 0, 1) := by decide +kernel
theorem dX2_init_61 : decode cX2_init 61 = .ok (.bipush 10, 2) := by decide +kernel
theorem dX2_init_63 : decode cX2_init 63 = .ok (.newarray .int, 2) := by decide +kernel
theorem dX2_init_65 : decode cX2_init 65 = .ok (.putfield 34, 3) := by decide +kernel
theorem dX2_init_68 : decode cX2_init 68 = .ok (.aload_n 0, 1) := by decide +kernel
theorem dX2_init_69 : decode cX2_init 69 = .ok (.bipush 10, 2) := by decide +kernel
theorem dX2_init_71 : decode cX2_init 71 = .ok (.newarray .int, 2) := by decide +kernel
theorem dX2_init_73 : decode cX2_init 73 = .ok (.putfield 37, 3) := by decide +kernel
theorem dX2_init_76 : decode cX2_init 76 = .ok (.aload_n 0, 1) := by decide +kernel
theorem dX2_init_77 : decode cX2_init 77 = .ok (.bipush 10, 2) := by decide +kernel
theorem dX2_init_79 : decode cX2_init 79 = .ok (.newarray .int, 2) := by decide +kernel
theorem dX2_init_81 : decode cX2_init 81 = .ok (.putfield 40, 3) := by decide +kernel
theorem dX2_init_84 : decode cX2_init 84 = .ok (.aload_n 0, 1) := by decide +kernel
theorem dX2_init_85 : decode cX2_init 85 = .ok (.aload_n 1, 1) := by decide +kernel
theorem dX2_init_86 : decode cX2_init 86 = .ok (.putfield 43, 3) := by decide +kernel
theorem dX2_init_89 : decode cX2_init 89 = .ok (.aload_n 0, 1) := by decide +kernel
theorem dX2_init_90 : decode cX2_init 90 = .ok (.aload_n 2, 1) := by decide +kernel
theorem dX2_init_91 : decode cX2_init 91 = .ok (.putfield 47, 3) := by decide +kernel
theorem dX2_init_94 : decode cX2_init 94 = .ok (.return_, 1) := by decide +kernel
theorem dX3_init_0 : decode cX3_init 0 = .ok (.aload_n 0, 1) := by decide +kernel
theorem dX3_init_1 : decode cX3_init 1 = .ok (.invokespecial 3, 3) := by decide +kernel
theorem dX3_init_4 : decode cX3_init 4 = .ok (.aload_n 0, 1) := by decide +kernel
theorem dX3_init_5 : decode cX3_init 5 = .ok (.bipush 6, 2) := by decide +kernel
theorem dX3_init_7 : decode cX3_init 7 = .ok (.newarray .int, 2) := by decide +kernel
theorem dX3_init_9 : decode cX3_init 9 = .ok (.putfield 9, 3) := by decide +kernel
theorem dX3_init_12 : decode cX3_init 12 = .ok (.aload_n 0, 1) := by decide +kernel
theorem dX3_init_13 : decode cX3_init 13 = .ok (.iconst 3, 1) := by decide +kernel
theorem dX3_init_14 : decode cX3_init 14 = .ok (.newarray .int, 2) := by decide +kernel
theorem dX3_init_16 : decode cX3_init 16 = .ok (.putfield 15, 3) := by decide +kernel
theorem dX3_init_19 : decode cX3_init 19 = .ok (.aload_n 0, 1) := by decide +kernel
theorem dX3_init_20 : decode cX3_init 20 = .ok (.iconst 3, 1) := by decide +kernel
theorem dX3_init_21 : decode cX3_init 21 = .ok (.newarray .int, 2) := by decide +kernel
theorem dX3_init_23 : decode cX3_init 23 = .ok (.putfield 18, 3) := by decide +kernel
theorem dX3_init_26 : decode cX3_init 26 = .ok (.aload_n 0, 1) := by decide +kernel
theorem dX3_init_27 : decode cX3_init 27 = .ok (.iconst 4, 1) := by decide +kernel
theorem dX3_init_28 : decode cX3_init 28 = .ok (.newarray .int, 2) := by decide +kernel
theorem dX3_init_30 : decode cX3_init 30 = .ok (.putfield 21, 3) := by decide +kernel
theorem dX3_init_33 : decode cX3_init 33 = .ok (.aload_n 0, 1) := by decide +kernel
theorem dX3_init_34 : decode cX3_init 34 = .ok (.iconst 4, 1) := by decide +kernel
theorem dX3_init_35 : decode cX3_init 35 = .ok (.newarray .int, 2) := by decide +kernel
theorem dX3_init_37 : decode cX3_init 37 = .ok (.putfield 24, 3) := by decide +kernel
theorem dX3_init_40 : decode cX3_init 40 = .ok (.aload_n 0, 1) := by decide +kernel
theorem dX3_init_41 : decode cX3_init 41 = .ok (.iconst 4, 1) := by decide +kernel
theorem dX3_init_42 : decode cX3_init 42 = .ok (.newarray .int, 2) := by decide +kernel
theorem dX3_init_44 : decode cX3_init 44 = .ok (.putfield 27, 3) := by decide +kernel
theorem dX3_init_47 : decode cX3_init 47 = .ok (.aload_n 0, 1) := by decide +kernel
theorem dX3_init_48 : decode cX3_init 48 = .ok (.iconst 4, 1) := by decide +kernel
theorem dX3_init_49 : decode cX3_init 49 = .ok (.newarray .int, 2) := by decide +kernel
theorem dX3_init_51 : decode cX3_init 51 = .ok (.putfield 30, 3) := by decide +kernel
theorem dX3_init_54 : decode cX3_init 54 = .ok (.aload_n 0, 1) := by decide +kernel
theorem dX3_init_55 : decode cX3_init 55 = .ok (.iconst 4, 1) := by decide +kernel
theorem dX3_init_56 : decode cX3_init 56 = .ok (.newarray .int, 2) := by decide +kernel
theorem dX3_init_58 : decode cX3_init 58 = .ok (.putfield 33, 3) := by decide +kernel
theorem dX3_init_61 : decode cX3_init 61 = .ok (.aload_n 0, 1) := by decide +kernel
theorem dX3_init_62 : decode cX3_init 62 = .ok (.iconst 4, 1) := by decide +kernel
theorem dX3_init_63 : decode cX3_init 63 = .ok (.newarray .int, 2) := by decide +kernel
theorem dX3_init_65 : decode cX3_init 65 = .ok (.putfield 36, 3) := by decide +kernel
theorem dX3_init_68 : decode cX3_init 68 = .ok (.return_, 1) := by decide +kernel
theorem dX4_init_0 : decode cX4_init 0 = .ok (.aload_n 0, 1) := by decide +kernel
theorem dX4_init_1 : decode cX4_init 1 = .ok (.invokespecial 3, 3) := by decide +kernel
theorem dX4_init_4 : decode cX4_init 4 = .ok (.aload_n 0, 1) := by decide +kernel
theorem dX4_init_5 : decode cX4_init 5 = .ok (.aload_n 1, 1) := by decide +kernel
theorem dX4_init_6 : decode cX4_init 6 = .ok (.putfield 9, 3) := by decide +kernel
theorem dX4_init_9 : decode cX4_init 9 = .ok (.aload_n 0, 1) := by decide +kernel
theorem dX4_init_10 : decode cX4_init 10 = .ok (.aload_n 2, 1) := by decide +kernel
theorem dX4_init_11 : decode cX4_init 11 = .ok (.putfield 15, 3) := by decide +kernel
theorem dX4_init_14 : decode cX4_init 14 = .ok (.aload_n 0, 1) := by decide +kernel
theorem dX4_init_15 : decode cX4_init 15 = .ok (.new 19, 3) := by decide +kernel
theorem dX4_init_18 : decode cX4_init 18 = .ok (.dup, 1) := by decide +kernel
theorem dX4_init_19 : decode cX4_init 19 = .ok (.aload_n 1, 1) := by decide +kernel
theorem dX4_init_20 : decode cX4_init 20 = .ok (.aload_n 2, 1) := by decide +kernel
theorem dX4_init_21 : decode cX4_init 21 = .ok (.invokespecial 21, 3) := by decide +kernel
theorem dX4_init_24 : decode cX4_init 24 = .ok (.putfield 24, 3) := by decide +kernel
theorem dX4_init_27 : decode cX4_init 27 = .ok (.aload_n 0, 1) := by decide +kernel
theorem dX4_init_28 : decode cX4_init 28 = .ok (.new 28, 3) := by decide +kernel
theorem dX4_init_31 : decode cX4_init 31 = .ok (.dup, 1) := by decide +kernel
theorem dX4_init_32 : decode cX4_init 32 = .ok (.aload_n 1, 1) := by decide +kernel
theorem dX4_init_33 : decode cX4_init 33 = .ok (.invokespecial 30, 3) := by decide +kernel
theorem dX4_init_36 : decode cX4_init 36 = .ok (.putfield 33, 3) := by decide +kernel
theorem dX4_init_39 : decode cX4_init 39 = .ok (.return_, 1) := by decide +kernel
theorem dX5_init_0 : decode cX5_init 0 = .ok (.aload_n 0, 1) := by decide +kernel
theorem dX5_init_1 : decode cX5_init 1 = .ok (.invokespecial 3, 3) := by decide +kernel
theorem dX5_init_4 : decode cX5_init 4 = .ok (.aload_n 0, 1) := by decide +kernel
theorem dX5_init_5 : decode cX5_init 5 = .ok (.bipush 14, 2) := by decide +kernel
theorem dX5_init_7 : decode cX5_init 7 = .ok (.newarray .int, 2) := by decide +kernel
theorem dX5_init_9 : decode cX5_init 9 = .ok (.putfield 9, 3) := by decide +kernel
theorem dX5_init_12 : decode cX5_init 12 = .ok (.aload_n 0, 1) := by decide +kernel
theorem dX5_init_13 : decode cX5_init 13 = .ok (.bipush 10, 2) := by decide +kernel
theorem dX5_init_15 : decode cX5_init 15 = .ok (.newarray .int, 2) := by decide +kernel
theorem dX5_init_17 : decode cX5_init 17 = .ok (.putfield 15, 3) := by decide +kernel
theorem dX5_init_20 : decode cX5_init 20 = .ok (.aload_n 0, 1) := by decide +kernel
theorem dX5_init_21 : decode cX5_init 21 = .ok (.bipush 10, 2) := by decide +kernel
theorem dX5_init_23 : decode cX5_init 23 = .ok (.newarray .int, 2) := by decide +kernel
theorem dX5_init_25 : decode cX5_init 25 = .ok (.putfield 18, 3) := by decide +kernel
theorem dX5_init_28 : decode cX5_init 28 = .ok (.aload_n 0, 1) := by decide +kernel
theorem dX5_init_29 : decode cX5_init 29 = .ok (.bipush 14, 2) := by decide +kernel
theorem dX5_init_31 : decode cX5_init 31 = .ok (.newarray .int, 2) := by decide +kernel
theorem dX5_init_33 : decode cX5_init 33 = .ok (.putfield 21, 3) := by decide +kernel
theorem dX5_init_36 : decode cX5_init 36 = .ok (.aload_n 0, 1) := by decide +kernel
theorem dX5_init_37 : decode cX5_init 37 = .ok (.aload_n 1, 1) := by decide +kernel
theorem dX5_init_38 : decode cX5_init 38 = .ok (.putfield 24, 3) := by decide +kernel
theorem dX5_init_41 : decode cX5_init 41 = .ok (.return_, 1) := by decide +kernel
theorem dX6_init_0 : decode cX6_init 0 = .ok (.aload_n 0, 1) := by decide +kernel
theorem dX6_init_1 : decode cX6_init 1 = .ok (.invokespecial 3, 3) := by decide +kernel
theorem dX6_init_4 : decode cX6_init 4 = .ok (.aload_n 0, 1) := by decide +kernel
theorem dX6_init_5 : decode cX6_init 5 = .ok (.iconst 5, 1) := by decide +kernel
theorem dX6_init_6 : decode cX6_init 6 = .ok (.newarray .int, 2) := by decide +kernel
theorem dX6_init_8 : decode cX6_init 8 = .ok (.putfield 9, 3) := by decide +kernel
theorem dX6_init_11 : decode cX6_init 11 = .ok (.aload_n 0, 1) := by decide +kernel
theorem dX6_init_12 : decode cX6_init 12 = .ok (.iconst 5, 1) := by decide +kernel
theorem dX6_init_13 : decode cX6_init 13 = .ok (.newarray .int, 2) := by decide +kernel
theorem dX6_init_15 : decode cX6_init 15 = .ok (.putfield 15, 3) := by decide +kernel
theorem dX6_init_18 : decode cX6_init 18 = .ok (.aload_n 0, 1) := by decide +kernel
theorem dX6_init_19 : decode cX6_init 19 = .ok (.iconst 5, 1) := by decide +kernel
theorem dX6_init_20 : decode cX6_init 20 = .ok (.newarray .int, 2) := by decide +kernel
theorem dX6_init_22 : decode cX6_init 22 = .ok (.putfield 18, 3) := by decide +kernel
theorem dX6_init_25 : decode cX6_init 25 = .ok (.aload_n 0, 1) := by decide +kernel
theorem dX6_init_26 : decode cX6_init 26 = .ok (.iconst 5, 1) := by decide +kernel
theorem dX6_init_27 : decode cX6_init 27 = .ok (.newarray .int, 2) := by decide +kernel
theorem dX6_init_29 : decode cX6_init 29 = .ok (.putfield 21, 3) := by decide +kernel
theorem dX6_init_32 : decode cX6_init 32 = .ok (.aload_n 0, 1) := by decide +kernel
theorem dX6_init_33 : decode cX6_init 33 = .ok (.bipush 32, 2) := by decide +kernel
theorem dX6_init_35 : decode cX6_init 35 = .ok (.newarray .int, 2) := by decide +kernel
theorem dX6_init_37 : decode cX6_init 37 = .ok (.putfield 24, 3) := by decide +kernel
theorem dX6_init_40 : decode cX6_init 40 = .ok (.aload_n 0, 1) := by decide +kernel
theorem dX6_init_41 : decode cX6_init 41 = .ok (.aload_n 1, 1) := by decide +kernel
theorem dX6_init_42 : decode cX6_init 42 = .ok (.putfield 27, 3) := by decide +kernel
theorem dX6_init_45 : decode cX6_init 45 = .ok (.aload_n 0, 1) := by decide +kernel
theorem dX6_init_46 : decode cX6_init 46 = .ok (.aload_n 2, 1) := by decide +kernel
theorem dX6_init_47 : decode cX6_init 47 = .ok (.putfield 31, 3) := by decide +kernel
theorem dX6_init_50 : decode cX6_init 50 = .ok (.aload_n 0, 1) := by decide +kernel
theorem dX6_init_51 : decode cX6_init 51 = .ok (.aload_n 3, 1) := by decide +kernel
theorem dX6_init_52 : decode cX6_init 52 = .ok (.putfield 35, 3) := by decide +kernel
theorem dX6_init_55 : decode cX6_init 55 = .ok (.return_, 1) := by decide +kernel
theorem dX7_init_0 : decode cX7_init 0 = .ok (.aload_n 0, 1) := by decide +kernel
theorem dX7_init_1 : decode cX7_init 1 = .ok (.invokespecial 3, 3) := by decide +kernel
theorem dX7_init_4 : decode cX7_init 4 = .ok (.aload_n 0, 1) := by decide +kernel
theorem dX7_init_5 : decode cX7_init 5 = .ok (.sipush 600, 3) := by decide +kernel
theorem dX7_init_8 : decode cX7_init 8 = .ok (.newarray .int, 2) := by decide +kernel
theorem dX7_init_10 : decode cX7_init 10 = .ok (.putfield 9, 3) := by decide +kernel
theorem dX7_init_13 : decode cX7_init 13 = .ok (.aload_n 0, 1) := by decide +kernel
theorem dX7_init_14 : decode cX7_init 14 = .ok (.bipush 28, 2) := by decide +kernel
theorem dX7_init_16 : decode cX7_init 16 = .ok (.newarray .long, 2) := by decide +kernel
theorem dX7_init_18 : decode cX7_init 18 = .ok (.putfield 15, 3) := by decide +kernel
theorem dX7_init_21 : decode cX7_init 21 = .ok (.aload_n 0, 1) := by decide +kernel
theorem dX7_init_22 : decode cX7_init 22 = .ok (.bipush 28, 2) := by decide +kernel
theorem dX7_init_24 : decode cX7_init 24 = .ok (.newarray .int, 2) := by decide +kernel
theorem dX7_init_26 : decode cX7_init 26 = .ok (.putfield 19, 3) := by decide +kernel
theorem dX7_init_29 : decode cX7_init 29 = .ok (.aload_n 0, 1) := by decide +kernel
theorem dX7_init_30 : decode cX7_init 30 = .ok (.bipush 28, 2) := by decide +kernel
theorem dX7_init_32 : decode cX7_init 32 = .ok (.newarray .int, 2) := by decide +kernel
theorem dX7_init_34 : decode cX7_init 34 = .ok (.putfield 22, 3) := by decide +kernel
theorem dX7_init_37 : decode cX7_init 37 = .ok (.aload_n 0, 1) := by decide +kernel
theorem dX7_init_38 : decode cX7_init 38 = .ok (.bipush 10, 2) := by decide +kernel
theorem dX7_init_40 : decode cX7_init 40 = .ok (.newarray .long, 2) := by decide +kernel
theorem dX7_init_42 : decode cX7_init 42 = .ok (.putfield 25, 3) := by decide +kernel
theorem dX7_init_45 : decode cX7_init 45 = .ok (.aload_n 0, 1) := by decide +kernel
theorem dX7_init_46 : decode cX7_init 46 = .ok (.aload_n 1, 1) := by decide +kernel
theorem dX7_init_47 : decode cX7_init 47 = .ok (.putfield 28, 3) := by decide +kernel
theorem dX7_init_50 : decode cX7_init 50 = .ok (.return_, 1) := by decide +kernel
theorem dX8_init_0 : decode cX8_init 0 = .ok (.aload_n 0, 1) := by decide +kernel
theorem dX8_init_1 : decode cX8_init 1 = .ok (.invokespecial 3, 3) := by decide +kernel
theorem dX8_init_4 : decode cX8_init 4 = .ok (.aload_n 0, 1) := by decide +kernel
theorem dX8_init_5 : decode cX8_init 5 = .ok (.bipush 8, 2) := by decide +kernel
theorem dX8_init_7 : decode cX8_init 7 = .ok (.newarray .int, 2) := by decide +kernel
theorem dX8_init_9 : decode cX8_init 9 = .ok (.putfield 9, 3) := by decide +kernel
theorem dX8_init_12 : decode cX8_init 12 = .ok (.aload_n 0, 1) := by decide +kernel
theorem dX8_init_13 : decode cX8_init 13 = .ok (.bipush 8, 2) := by decide +kernel
theorem dX8_init_15 : decode cX8_init 15 = .ok (.newarray .int, 2) := by decide +kernel
theorem dX8_init_17 : decode cX8_init 17 = .ok (.putfield 15, 3) := by decide +kernel
theorem dX8_init_20 : decode cX8_init 20 = .ok (.aload_n 0, 1) := by decide +kernel
theorem dX8_init_21 : decode cX8_init 21 = .ok (.bipush 8, 2) := by decide +kernel
theorem dX8_init_23 : decode cX8_init 23 = .ok (.newarray .int, 2) := by decide +kernel
theorem dX8_init_25 : decode cX8_init 25 = .ok (.putfield 18, 3) := by decide +kernel
theorem dX8_init_28 : decode cX8_init 28 = .ok (.return_, 1) := by decide +kernel
theorem dX9_init_0 : decode cX9_init 0 = .ok (.aload_n 0, 1) := by decide +kernel
theorem dX9_init_1 : decode cX9_init 1 = .ok (.invokespecial 3, 3) := by decide +kernel
theorem dX9_init_4 : decode cX9_init 4 = .ok (.aload_n 0, 1) := by decide +kernel
theorem dX9_init_5 : decode cX9_init 5 = .ok (.bipush 6, 2) := by decide +kernel
theorem dX9_init_7 : decode cX9_init 7 = .ok (.newarray .boolean, 2) := by decide +kernel
theorem dX9_init_9 : decode cX9_init 9 = .ok (.putfield 9, 3) := by decide +kernel
theorem dX9_init_12 : decode cX9_init 12 = .ok (.aload_n 0, 1) := by decide +kernel
theorem dX9_init_13 : decode cX9_init 13 = .ok (.iconst 4, 1) := by decide +kernel
theorem dX9_init_14 : decode cX9_init 14 = .ok (.newarray .int, 2) := by decide +kernel
theorem dX9_init_16 : decode cX9_init 16 = .ok (.putfield 15, 3) := by decide +kernel
theorem dX9_init_19 : decode cX9_init 19 = .ok (.aload_n 0, 1) := by decide +kernel
theorem dX9_init_20 : decode cX9_init 20 = .ok (.bipush 14, 2) := by decide +kernel
theorem dX9_init_22 : decode cX9_init 22 = .ok (.newarray .boolean, 2) := by decide +kernel
theorem dX9_init_24 : decode cX9_init 24 = .ok (.putfield 19, 3) := by decide +kernel
theorem dX9_init_27 : decode cX9_init 27 = .ok (.aload_n 0, 1) := by decide +kernel
theorem dX9_init_28 : decode cX9_init 28 = .ok (.bipush 14, 2) := by decide +kernel
theorem dX9_init_30 : decode cX9_init 30 = .ok (.newarray .int, 2) := by decide +kernel
theorem dX9_init_32 : decode cX9_init 32 = .ok (.putfield 22, 3) := by decide +kernel
theorem dX9_init_35 : decode cX9_init 35 = .ok (.aload_n 0, 1) := by decide +kernel
theorem dX9_init_36 : decode cX9_init 36 = .ok (.aload_n 1, 1) := by decide +kernel
theorem dX9_init_37 : decode cX9_init 37 = .ok (.putfield 25, 3) := by decide +kernel
theorem dX9_init_40 : decode cX9_init 40 = .ok (.return_, 1) := by decide +kernel
set_option maxHeartbeats 4000000 in
set_option maxRecDepth 100000 in
theorem n_Gear (l : Launch) (dC : Nat → ClassId) (dI : Nat → Nat → Nat) (n0 : Nat) (atx : Nat → Nat × Nat) (sz : Nat) (gr : Nat) : Met l yX3_init (wM yX3_init cX3_init 1 none) ({ frames := 1, cells := 9, slots := 36, locals := 12 }) (va_Pc [.ref gr] (fun U => U.heap.size = sz ∧ n0 ≤ sz ∧ GW n0 atx U ∧ va_P (dC, dI) classes [(gr, .inr (3, [.int 0, .null, .int 0, .null, .null, .int 0, .null, .null, .null, .int 0, .null, .null, .null]))] U.heap ∧ va_K (dC, dI) classes [] U ∧ va_D (fun q => n0 ≤ q) [(gr, .inr (3, [.int 0, .null, .int 0, .null, .null, .int 0, .null, .null, .null, .int 0, .null, .null, .null]))])) (va_Qv (fun _ : Unit => True) (fun (_ : Unit) (t : State) => ∃ (gr_doorBy : Nat), ∃ (gr_pairFirst : Nat), ∃ (gr_pairSecond : Nat), ∃ (gr_fanPush : Nat), ∃ (gr_fanFall : Nat), ∃ (gr_fanCost : Nat), ∃ (gr_faceWay : Nat), ∃ (gr_faceGas : Nat), ∃ (gr_faceNeed : Nat), ∃ (k_gr_doorBy : ClassId), ∃ (k_gr_pairFirst : ClassId), ∃ (k_gr_pairSecond : ClassId), ∃ (k_gr_fanPush : ClassId), ∃ (k_gr_fanFall : ClassId), ∃ (k_gr_fanCost : ClassId), ∃ (k_gr_faceWay : ClassId), ∃ (k_gr_faceGas : ClassId), ∃ (k_gr_faceNeed : ClassId), va_P (dC, dI) classes [(gr, .inr (3, [.int 0, .ref gr_doorBy, .int 0, .ref gr_pairFirst, .ref gr_pairSecond, .int 0, .ref gr_fanPush, .ref gr_fanFall, .ref gr_fanCost, .int 0, .ref gr_faceWay, .ref gr_faceGas, .ref gr_faceNeed])), (gr_doorBy, .inl (k_gr_doorBy, 6, .inl (fun _ => 0))), (gr_pairFirst, .inl (k_gr_pairFirst, 3, .inl (fun _ => 0))), (gr_pairSecond, .inl (k_gr_pairSecond, 3, .inl (fun _ => 0))), (gr_fanPush, .inl (k_gr_fanPush, 4, .inl (fun _ => 0))), (gr_fanFall, .inl (k_gr_fanFall, 4, .inl (fun _ => 0))), (gr_fanCost, .inl (k_gr_fanCost, 4, .inl (fun _ => 0))), (gr_faceWay, .inl (k_gr_faceWay, 4, .inl (fun _ => 0))), (gr_faceGas, .inl (k_gr_faceGas, 4, .inl (fun _ => 0))), (gr_faceNeed, .inl (k_gr_faceNeed, 4, .inl (fun _ => 0)))] t.heap ∧ va_K (dC, dI) classes [(k_gr_doorBy, .int), (k_gr_pairFirst, .int), (k_gr_pairSecond, .int), (k_gr_fanPush, .int), (k_gr_fanFall, .int), (k_gr_fanCost, .int), (k_gr_faceWay, .int), (k_gr_faceGas, .int), (k_gr_faceNeed, .int)] t ∧ va_D (va_A [(gr, .inr (3, [.int 0, .null, .int 0, .null, .null, .int 0, .null, .null, .null, .int 0, .null, .null, .null]))] sz) [(gr, .inr (3, [.int 0, .ref gr_doorBy, .int 0, .ref gr_pairFirst, .ref gr_pairSecond, .int 0, .ref gr_fanPush, .ref gr_fanFall, .ref gr_fanCost, .int 0, .ref gr_faceWay, .ref gr_faceGas, .ref gr_faceNeed])), (gr_doorBy, .inl (k_gr_doorBy, 6, .inl (fun _ => 0))), (gr_pairFirst, .inl (k_gr_pairFirst, 3, .inl (fun _ => 0))), (gr_pairSecond, .inl (k_gr_pairSecond, 3, .inl (fun _ => 0))), (gr_fanPush, .inl (k_gr_fanPush, 4, .inl (fun _ => 0))), (gr_fanFall, .inl (k_gr_fanFall, 4, .inl (fun _ => 0))), (gr_fanCost, .inl (k_gr_fanCost, 4, .inl (fun _ => 0))), (gr_faceWay, .inl (k_gr_faceWay, 4, .inl (fun _ => 0))), (gr_faceGas, .inl (k_gr_faceGas, 4, .inl (fun _ => 0))), (gr_faceNeed, .inl (k_gr_faceNeed, 4, .inl (fun _ => 0)))]) (va_A [(gr, .inr (3, [.int 0, .null, .int 0, .null, .null, .int 0, .null, .null, .null, .int 0, .null, .null, .null]))] sz)) 9 36 (va_A [(gr, .inr (3, [.int 0, .null, .int 0, .null, .null, .int 0, .null, .null, .null, .int 0, .null, .null, .null]))] sz) := by
  refine Met.ofW (cc := cX3_init) (maxL := 1) (ret := none) (by decide) rfl ?_
  intro p e s m args below meth c s₁ B hml hv
  obtain ⟨rfl, hsz, hn0, hG, hP, hK, hD0⟩ := hv
  have hx := B.exec
  have hb := B.bytes
  have hr := B.returns
  have hts := atoms_spec (ws := wM yX3_init cX3_init 1 none) B.pre
  have hown : s.vm.findClass RX3 = some m.cls := findClass_of_methodNamed B.named
  have hlocks := B.notSynchronized
  have hin : meth.name = "<init>" := (name_of_methodNamed B.named B.method).1
  subst hsz
  have hD := hD0.self (sz := s.heap.size)
  have hA0 := vA_n0 hD0 hn0
  generalize hAe : va_A [(gr, .inr (3, [.int 0, .null, .int 0, .null, .null, .int 0, .null, .null, .null, .int 0, .null, .null, .null]))] s.heap.size = A at hD hA0 ⊢
  have hA : ∀ q : Nat, s.heap.size ≤ q → A q := fun q h => by rw [← hAe]; exact Or.inr h
  have hS : va_S A s.heap s.heap [] := va_S.rf
  have hl := lv_entry ([.ref gr]) (n := 1) (Nat.le_of_ble_eq_true rfl)
  rw [lg_entry_eq]
  generalize (lg_sl ([.ref gr]) ++ List.replicate (1 - (lg_sl ([.ref gr])).length) Slot.unset).toArray = ls at hl ⊢
  have hl : lv_has ls 1 [(0, .ref gr)] := hl
  refine lv_aload_n hx hb dX3_init_0 rfl (lv_at hl 0 rfl) ?_
  refine W.objInit hx hb hown (hts _ (wM_c wd_159)) (hts _ (wM_c wd_146)) (hts _ (wM_c wd_objInit)) rfl (by rw [hml]; exact hl.1) rfl dX3_init_1 (Nat.le_of_ble_eq_true rfl) (Nat.le_of_ble_eq_true rfl) ?_
  refine W.eq (g2 := F0 m 4 ls []) rfl ?_
  refine lv_aload_n hx hb dX3_init_4 rfl (lv_at hl 0 rfl) ?_
  refine lv_bipush (v := 6) hx hb dX3_init_5 (by decide) ?_
  refine va_newa (atype := .int) (a0 := (6, .inl (fun _ => 0))) (ty := .int) hx hb (hts _ (wM_c wd_237)) rfl hK hP hD hS hA (fun _ => rfl) (by decide) rfl (by decide) (Nat.le_of_ble_eq_true rfl) (Nat.le_of_ble_eq_true rfl) dX3_init_7 (fun q_1 k_2 H hK hP hD hS => ?_)
  obtain ⟨hP, hD⟩ : s3_w (dC, dI) classes A [(gr, .inr (3, [.int 0, .null, .int 0, .null, .null, .int 0, .null, .null, .null, .int 0, .null, .null, .null])), (q_1, .inl (k_2, 6, .inl (fun _ => 0)))] H := ⟨hP, hD⟩
  have hK : va_K (dC, dI) classes [(k_2, .int)] s := hK
  refine W.widen (k := 1) (n := 6) (Nat.le_of_ble_eq_true rfl) (Nat.le_of_ble_eq_true rfl) ?_
  refine va_putF (D := (dC, dI)) (ci := 3) (v := .ref q_1) (ty := (.array .int)) (C := RX3) (T := TX3) (N := 13) hx hb hts (fun w h => wM_c (iX3 w h)) tyX3 tyX3_ok nmX3 hown hK hP hD hS 0 rfl rfl 1 (by decide) (hts _ (wM_c wd_164)) (fun _ h9 => h9) rfl hin rfl (by decide +kernel) rfl rfl (Nat.le_of_ble_eq_true rfl) dX3_init_9 (fun H locs hP hD hS => ?_)
  obtain ⟨hP, hD⟩ : s3_w (dC, dI) classes A [(gr, .inr (3, [.int 0, .ref q_1, .int 0, .null, .null, .int 0, .null, .null, .null, .int 0, .null, .null, .null])), (q_1, .inl (k_2, 6, .inl (fun _ => 0)))] H := ⟨hP, hD⟩
  refine lv_aload_n hx hb dX3_init_12 rfl (lv_at hl 0 rfl) ?_
  refine lv_iconst (v := 3) hx hb dX3_init_13 (by decide) ?_
  refine va_newa (atype := .int) (a0 := (3, .inl (fun _ => 0))) (ty := .int) hx hb (hts _ (wM_c wd_237)) rfl hK hP hD hS hA (fun _ => rfl) (by decide) rfl (by decide) (Nat.le_of_ble_eq_true rfl) (Nat.le_of_ble_eq_true rfl) dX3_init_14 (fun q_3 k_4 H hK hP hD hS => ?_)
  obtain ⟨hP, hD⟩ : s3_w (dC, dI) classes A [(gr, .inr (3, [.int 0, .ref q_1, .int 0, .null, .null, .int 0, .null, .null, .null, .int 0, .null, .null, .null])), (q_1, .inl (k_2, 6, .inl (fun _ => 0))), (q_3, .inl (k_4, 3, .inl (fun _ => 0)))] H := ⟨hP, hD⟩
  have hK : va_K (dC, dI) classes [(k_2, .int), (k_4, .int)] s := hK
  refine W.widen (k := 2) (n := 9) (Nat.le_of_ble_eq_true rfl) (Nat.le_of_ble_eq_true rfl) ?_
  refine va_putF (D := (dC, dI)) (ci := 3) (v := .ref q_3) (ty := (.array .int)) (C := RX3) (T := TX3) (N := 13) hx hb hts (fun w h => wM_c (iX3 w h)) tyX3 tyX3_ok nmX3 hown hK hP hD hS 0 rfl rfl 3 (by decide) (hts _ (wM_c wd_172)) (fun _ h9 => h9) rfl hin rfl (by decide +kernel) rfl rfl (Nat.le_of_ble_eq_true rfl) dX3_init_16 (fun H locs hP hD hS => ?_)
  obtain ⟨hP, hD⟩ : s3_w (dC, dI) classes A [(gr, .inr (3, [.int 0, .ref q_1, .int 0, .ref q_3, .null, .int 0, .null, .null, .null, .int 0, .null, .null, .null])), (q_1, .inl (k_2, 6, .inl (fun _ => 0))), (q_3, .inl (k_4, 3, .inl (fun _ => 0)))] H := ⟨hP, hD⟩
  refine lv_aload_n hx hb dX3_init_19 rfl (lv_at hl 0 rfl) ?_
  refine lv_iconst (v := 3) hx hb dX3_init_20 (by decide) ?_
  refine va_newa (atype := .int) (a0 := (3, .inl (fun _ => 0))) (ty := .int) hx hb (hts _ (wM_c wd_237)) rfl hK hP hD hS hA (fun _ => rfl) (by decide) rfl (by decide) (Nat.le_of_ble_eq_true rfl) (Nat.le_of_ble_eq_true rfl) dX3_init_21 (fun q_5 k_6 H hK hP hD hS => ?_)
  obtain ⟨hP, hD⟩ : s3_w (dC, dI) classes A [(gr, .inr (3, [.int 0, .ref q_1, .int 0, .ref q_3, .null, .int 0, .null, .null, .null, .int 0, .null, .null, .null])), (q_1, .inl (k_2, 6, .inl (fun _ => 0))), (q_3, .inl (k_4, 3, .inl (fun _ => 0))), (q_5, .inl (k_6, 3, .inl (fun _ => 0)))] H := ⟨hP, hD⟩
  have hK : va_K (dC, dI) classes [(k_2, .int), (k_4, .int), (k_6, .int)] s := hK
  refine W.widen (k := 3) (n := 12) (Nat.le_of_ble_eq_true rfl) (Nat.le_of_ble_eq_true rfl) ?_
  refine va_putF (D := (dC, dI)) (ci := 3) (v := .ref q_5) (ty := (.array .int)) (C := RX3) (T := TX3) (N := 13) hx hb hts (fun w h => wM_c (iX3 w h)) tyX3 tyX3_ok nmX3 hown hK hP hD hS 0 rfl rfl 4 (by decide) (hts _ (wM_c wd_175)) (fun _ h9 => h9) rfl hin rfl (by decide +kernel) rfl rfl (Nat.le_of_ble_eq_true rfl) dX3_init_23 (fun H locs hP hD hS => ?_)
  obtain ⟨hP, hD⟩ : s3_w (dC, dI) classes A [(gr, .inr (3, [.int 0, .ref q_1, .int 0, .ref q_3, .ref q_5, .int 0, .null, .null, .null, .int 0, .null, .null, .null])), (q_1, .inl (k_2, 6, .inl (fun _ => 0))), (q_3, .inl (k_4, 3, .inl (fun _ => 0))), (q_5, .inl (k_6, 3, .inl (fun _ => 0)))] H := ⟨hP, hD⟩
  refine lv_aload_n hx hb dX3_init_26 rfl (lv_at hl 0 rfl) ?_
  refine lv_iconst (v := 4) hx hb dX3_init_27 (by decide) ?_
  refine va_newa (atype := .int) (a0 := (4, .inl (fun _ => 0))) (ty := .int) hx hb (hts _ (wM_c wd_237)) rfl hK hP hD hS hA (fun _ => rfl) (by decide) rfl (by decide) (Nat.le_of_ble_eq_true rfl) (Nat.le_of_ble_eq_true rfl) dX3_init_28 (fun q_7 k_8 H hK hP hD hS => ?_)
  obtain ⟨hP, hD⟩ : s3_w (dC, dI) classes A [(gr, .inr (3, [.int 0, .ref q_1, .int 0, .ref q_3, .ref q_5, .int 0, .null, .null, .null, .int 0, .null, .null, .null])), (q_1, .inl (k_2, 6, .inl (fun _ => 0))), (q_3, .inl (k_4, 3, .inl (fun _ => 0))), (q_5, .inl (k_6, 3, .inl (fun _ => 0))), (q_7, .inl (k_8, 4, .inl (fun _ => 0)))] H := ⟨hP, hD⟩
  have hK : va_K (dC, dI) classes [(k_2, .int), (k_4, .int), (k_6, .int), (k_8, .int)] s := hK
  refine W.widen (k := 4) (n := 16) (Nat.le_of_ble_eq_true rfl) (Nat.le_of_ble_eq_true rfl) ?_
  refine va_putF (D := (dC, dI)) (ci := 3) (v := .ref q_7) (ty := (.array .int)) (C := RX3) (T := TX3) (N := 13) hx hb hts (fun w h => wM_c (iX3 w h)) tyX3 tyX3_ok nmX3 hown hK hP hD hS 0 rfl rfl 6 (by decide) (hts _ (wM_c wd_183)) (fun _ h9 => h9) rfl hin rfl (by decide +kernel) rfl rfl (Nat.le_of_ble_eq_true rfl) dX3_init_30 (fun H locs hP hD hS => ?_)
  obtain ⟨hP, hD⟩ : s3_w (dC, dI) classes A [(gr, .inr (3, [.int 0, .ref q_1, .int 0, .ref q_3, .ref q_5, .int 0, .ref q_7, .null, .null, .int 0, .null, .null, .null])), (q_1, .inl (k_2, 6, .inl (fun _ => 0))), (q_3, .inl (k_4, 3, .inl (fun _ => 0))), (q_5, .inl (k_6, 3, .inl (fun _ => 0))), (q_7, .inl (k_8, 4, .inl (fun _ => 0)))] H := ⟨hP, hD⟩
  refine lv_aload_n hx hb dX3_init_33 rfl (lv_at hl 0 rfl) ?_
  refine lv_iconst (v := 4) hx hb dX3_init_34 (by decide) ?_
  refine va_newa (atype := .int) (a0 := (4, .inl (fun _ => 0))) (ty := .int) hx hb (hts _ (wM_c wd_237)) rfl hK hP hD hS hA (fun _ => rfl) (by decide) rfl (by decide) (Nat.le_of_ble_eq_true rfl) (Nat.le_of_ble_eq_true rfl) dX3_init_35 (fun q_9 k_10 H hK hP hD hS => ?_)
  obtain ⟨hP, hD⟩ : s3_w (dC, dI) classes A [(gr, .inr (3, [.int 0, .ref q_1, .int 0, .ref q_3, .ref q_5, .int 0, .ref q_7, .null, .null, .int 0, .null, .null, .null])), (q_1, .inl (k_2, 6, .inl (fun _ => 0))), (q_3, .inl (k_4, 3, .inl (fun _ => 0))), (q_5, .inl (k_6, 3, .inl (fun _ => 0))), (q_7, .inl (k_8, 4, .inl (fun _ => 0))), (q_9, .inl (k_10, 4, .inl (fun _ => 0)))] H := ⟨hP, hD⟩
  have hK : va_K (dC, dI) classes [(k_2, .int), (k_4, .int), (k_6, .int), (k_8, .int), (k_10, .int)] s := hK
  refine W.widen (k := 5) (n := 20) (Nat.le_of_ble_eq_true rfl) (Nat.le_of_ble_eq_true rfl) ?_
  refine va_putF (D := (dC, dI)) (ci := 3) (v := .ref q_9) (ty := (.array .int)) (C := RX3) (T := TX3) (N := 13) hx hb hts (fun w h => wM_c (iX3 w h)) tyX3 tyX3_ok nmX3 hown hK hP hD hS 0 rfl rfl 7 (by decide) (hts _ (wM_c wd_186)) (fun _ h9 => h9) rfl hin rfl (by decide +kernel) rfl rfl (Nat.le_of_ble_eq_true rfl) dX3_init_37 (fun H locs hP hD hS => ?_)
  obtain ⟨hP, hD⟩ : s3_w (dC, dI) classes A [(gr, .inr (3, [.int 0, .ref q_1, .int 0, .ref q_3, .ref q_5, .int 0, .ref q_7, .ref q_9, .null, .int 0, .null, .null, .null])), (q_1, .inl (k_2, 6, .inl (fun _ => 0))), (q_3, .inl (k_4, 3, .inl (fun _ => 0))), (q_5, .inl (k_6, 3, .inl (fun _ => 0))), (q_7, .inl (k_8, 4, .inl (fun _ => 0))), (q_9, .inl (k_10, 4, .inl (fun _ => 0)))] H := ⟨hP, hD⟩
  refine lv_aload_n hx hb dX3_init_40 rfl (lv_at hl 0 rfl) ?_
  refine lv_iconst (v := 4) hx hb dX3_init_41 (by decide) ?_
  refine va_newa (atype := .int) (a0 := (4, .inl (fun _ => 0))) (ty := .int) hx hb (hts _ (wM_c wd_237)) rfl hK hP hD hS hA (fun _ => rfl) (by decide) rfl (by decide) (Nat.le_of_ble_eq_true rfl) (Nat.le_of_ble_eq_true rfl) dX3_init_42 (fun q_11 k_12 H hK hP hD hS => ?_)
  obtain ⟨hP, hD⟩ : s3_w (dC, dI) classes A [(gr, .inr (3, [.int 0, .ref q_1, .int 0, .ref q_3, .ref q_5, .int 0, .ref q_7, .ref q_9, .null, .int 0, .null, .null, .null])), (q_1, .inl (k_2, 6, .inl (fun _ => 0))), (q_3, .inl (k_4, 3, .inl (fun _ => 0))), (q_5, .inl (k_6, 3, .inl (fun _ => 0))), (q_7, .inl (k_8, 4, .inl (fun _ => 0))), (q_9, .inl (k_10, 4, .inl (fun _ => 0))), (q_11, .inl (k_12, 4, .inl (fun _ => 0)))] H := ⟨hP, hD⟩
  have hK : va_K (dC, dI) classes [(k_2, .int), (k_4, .int), (k_6, .int), (k_8, .int), (k_10, .int), (k_12, .int)] s := hK
  refine W.widen (k := 6) (n := 24) (Nat.le_of_ble_eq_true rfl) (Nat.le_of_ble_eq_true rfl) ?_
  refine va_putF (D := (dC, dI)) (ci := 3) (v := .ref q_11) (ty := (.array .int)) (C := RX3) (T := TX3) (N := 13) hx hb hts (fun w h => wM_c (iX3 w h)) tyX3 tyX3_ok nmX3 hown hK hP hD hS 0 rfl rfl 8 (by decide) (hts _ (wM_c wd_189)) (fun _ h9 => h9) rfl hin rfl (by decide +kernel) rfl rfl (Nat.le_of_ble_eq_true rfl) dX3_init_44 (fun H locs hP hD hS => ?_)
  obtain ⟨hP, hD⟩ : s3_w (dC, dI) classes A [(gr, .inr (3, [.int 0, .ref q_1, .int 0, .ref q_3, .ref q_5, .int 0, .ref q_7, .ref q_9, .ref q_11, .int 0, .null, .null, .null])), (q_1, .inl (k_2, 6, .inl (fun _ => 0))), (q_3, .inl (k_4, 3, .inl (fun _ => 0))), (q_5, .inl (k_6, 3, .inl (fun _ => 0))), (q_7, .inl (k_8, 4, .inl (fun _ => 0))), (q_9, .inl (k_10, 4, .inl (fun _ => 0))), (q_11, .inl (k_12, 4, .inl (fun _ => 0)))] H := ⟨hP, hD⟩
  refine lv_aload_n hx hb dX3_init_47 rfl (lv_at hl 0 rfl) ?_
  refine lv_iconst (v := 4) hx hb dX3_init_48 (by decide) ?_
  refine va_newa (atype := .int) (a0 := (4, .inl (fun _ => 0))) (ty := .int) hx hb (hts _ (wM_c wd_237)) rfl hK hP hD hS hA (fun _ => rfl) (by decide) rfl (by decide) (Nat.le_of_ble_eq_true rfl) (Nat.le_of_ble_eq_true rfl) dX3_init_49 (fun q_13 k_14 H hK hP hD hS => ?_)
  obtain ⟨hP, hD⟩ : s3_w (dC, dI) classes A [(gr, .inr (3, [.int 0, .ref q_1, .int 0, .ref q_3, .ref q_5, .int 0, .ref q_7, .ref q_9, .ref q_11, .int 0, .null, .null, .null])), (q_1, .inl (k_2, 6, .inl (fun _ => 0))), (q_3, .inl (k_4, 3, .inl (fun _ => 0))), (q_5, .inl (k_6, 3, .inl (fun _ => 0))), (q_7, .inl (k_8, 4, .inl (fun _ => 0))), (q_9, .inl (k_10, 4, .inl (fun _ => 0))), (q_11, .inl (k_12, 4, .inl (fun _ => 0))), (q_13, .inl (k_14, 4, .inl (fun _ => 0)))] H := ⟨hP, hD⟩
  have hK : va_K (dC, dI) classes [(k_2, .int), (k_4, .int), (k_6, .int), (k_8, .int), (k_10, .int), (k_12, .int), (k_14, .int)] s := hK
  refine W.widen (k := 7) (n := 28) (Nat.le_of_ble_eq_true rfl) (Nat.le_of_ble_eq_true rfl) ?_
  refine va_putF (D := (dC, dI)) (ci := 3) (v := .ref q_13) (ty := (.array .int)) (C := RX3) (T := TX3) (N := 13) hx hb hts (fun w h => wM_c (iX3 w h)) tyX3 tyX3_ok nmX3 hown hK hP hD hS 0 rfl rfl 10 (by decide) (hts _ (wM_c wd_198)) (fun _ h9 => h9) rfl hin rfl (by decide +kernel) rfl rfl (Nat.le_of_ble_eq_true rfl) dX3_init_51 (fun H locs hP hD hS => ?_)
  obtain ⟨hP, hD⟩ : s3_w (dC, dI) classes A [(gr, .inr (3, [.int 0, .ref q_1, .int 0, .ref q_3, .ref q_5, .int 0, .ref q_7, .ref q_9, .ref q_11, .int 0, .ref q_13, .null, .null])), (q_1, .inl (k_2, 6, .inl (fun _ => 0))), (q_3, .inl (k_4, 3, .inl (fun _ => 0))), (q_5, .inl (k_6, 3, .inl (fun _ => 0))), (q_7, .inl (k_8, 4, .inl (fun _ => 0))), (q_9, .inl (k_10, 4, .inl (fun _ => 0))), (q_11, .inl (k_12, 4, .inl (fun _ => 0))), (q_13, .inl (k_14, 4, .inl (fun _ => 0)))] H := ⟨hP, hD⟩
  refine lv_aload_n hx hb dX3_init_54 rfl (lv_at hl 0 rfl) ?_
  refine lv_iconst (v := 4) hx hb dX3_init_55 (by decide) ?_
  refine va_newa (atype := .int) (a0 := (4, .inl (fun _ => 0))) (ty := .int) hx hb (hts _ (wM_c wd_237)) rfl hK hP hD hS hA (fun _ => rfl) (by decide) rfl (by decide) (Nat.le_of_ble_eq_true rfl) (Nat.le_of_ble_eq_true rfl) dX3_init_56 (fun q_15 k_16 H hK hP hD hS => ?_)
  obtain ⟨hP, hD⟩ : s3_w (dC, dI) classes A [(gr, .inr (3, [.int 0, .ref q_1, .int 0, .ref q_3, .ref q_5, .int 0, .ref q_7, .ref q_9, .ref q_11, .int 0, .ref q_13, .null, .null])), (q_1, .inl (k_2, 6, .inl (fun _ => 0))), (q_3, .inl (k_4, 3, .inl (fun _ => 0))), (q_5, .inl (k_6, 3, .inl (fun _ => 0))), (q_7, .inl (k_8, 4, .inl (fun _ => 0))), (q_9, .inl (k_10, 4, .inl (fun _ => 0))), (q_11, .inl (k_12, 4, .inl (fun _ => 0))), (q_13, .inl (k_14, 4, .inl (fun _ => 0))), (q_15, .inl (k_16, 4, .inl (fun _ => 0)))] H := ⟨hP, hD⟩
  have hK : va_K (dC, dI) classes [(k_2, .int), (k_4, .int), (k_6, .int), (k_8, .int), (k_10, .int), (k_12, .int), (k_14, .int), (k_16, .int)] s := hK
  refine W.widen (k := 8) (n := 32) (Nat.le_of_ble_eq_true rfl) (Nat.le_of_ble_eq_true rfl) ?_
  refine va_putF (D := (dC, dI)) (ci := 3) (v := .ref q_15) (ty := (.array .int)) (C := RX3) (T := TX3) (N := 13) hx hb hts (fun w h => wM_c (iX3 w h)) tyX3 tyX3_ok nmX3 hown hK hP hD hS 0 rfl rfl 11 (by decide) (hts _ (wM_c wd_202)) (fun _ h9 => h9) rfl hin rfl (by decide +kernel) rfl rfl (Nat.le_of_ble_eq_true rfl) dX3_init_58 (fun H locs hP hD hS => ?_)
  obtain ⟨hP, hD⟩ : s3_w (dC, dI) classes A [(gr, .inr (3, [.int 0, .ref q_1, .int 0, .ref q_3, .ref q_5, .int 0, .ref q_7, .ref q_9, .ref q_11, .int 0, .ref q_13, .ref q_15, .null])), (q_1, .inl (k_2, 6, .inl (fun _ => 0))), (q_3, .inl (k_4, 3, .inl (fun _ => 0))), (q_5, .inl (k_6, 3, .inl (fun _ => 0))), (q_7, .inl (k_8, 4, .inl (fun _ => 0))), (q_9, .inl (k_10, 4, .inl (fun _ => 0))), (q_11, .inl (k_12, 4, .inl (fun _ => 0))), (q_13, .inl (k_14, 4, .inl (fun _ => 0))), (q_15, .inl (k_16, 4, .inl (fun _ => 0)))] H := ⟨hP, hD⟩
  refine lv_aload_n hx hb dX3_init_61 rfl (lv_at hl 0 rfl) ?_
  refine lv_iconst (v := 4) hx hb dX3_init_62 (by decide) ?_
  refine va_newa (atype := .int) (a0 := (4, .inl (fun _ => 0))) (ty := .int) hx hb (hts _ (wM_c wd_237)) rfl hK hP hD hS hA (fun _ => rfl) (by decide) rfl (by decide) (Nat.le_of_ble_eq_true rfl) (Nat.le_of_ble_eq_true rfl) dX3_init_63 (fun q_17 k_18 H hK hP hD hS => ?_)
  obtain ⟨hP, hD⟩ : s3_w (dC, dI) classes A [(gr, .inr (3, [.int 0, .ref q_1, .int 0, .ref q_3, .ref q_5, .int 0, .ref q_7, .ref q_9, .ref q_11, .int 0, .ref q_13, .ref q_15, .null])), (q_1, .inl (k_2, 6, .inl (fun _ => 0))), (q_3, .inl (k_4, 3, .inl (fun _ => 0))), (q_5, .inl (k_6, 3, .inl (fun _ => 0))), (q_7, .inl (k_8, 4, .inl (fun _ => 0))), (q_9, .inl (k_10, 4, .inl (fun _ => 0))), (q_11, .inl (k_12, 4, .inl (fun _ => 0))), (q_13, .inl (k_14, 4, .inl (fun _ => 0))), (q_15, .inl (k_16, 4, .inl (fun _ => 0))), (q_17, .inl (k_18, 4, .inl (fun _ => 0)))] H := ⟨hP, hD⟩
  have hK : va_K (dC, dI) classes [(k_2, .int), (k_4, .int), (k_6, .int), (k_8, .int), (k_10, .int), (k_12, .int), (k_14, .int), (k_16, .int), (k_18, .int)] s := hK
  refine W.widen (k := 9) (n := 36) (Nat.le_of_ble_eq_true rfl) (Nat.le_of_ble_eq_true rfl) ?_
  refine va_putF (D := (dC, dI)) (ci := 3) (v := .ref q_17) (ty := (.array .int)) (C := RX3) (T := TX3) (N := 13) hx hb hts (fun w h => wM_c (iX3 w h)) tyX3 tyX3_ok nmX3 hown hK hP hD hS 0 rfl rfl 12 (by decide) (hts _ (wM_c wd_206)) (fun _ h9 => h9) rfl hin rfl (by decide +kernel) rfl rfl (Nat.le_of_ble_eq_true rfl) dX3_init_65 (fun H locs hP hD hS => ?_)
  obtain ⟨hP, hD⟩ : s3_w (dC, dI) classes A [(gr, .inr (3, [.int 0, .ref q_1, .int 0, .ref q_3, .ref q_5, .int 0, .ref q_7, .ref q_9, .ref q_11, .int 0, .ref q_13, .ref q_15, .ref q_17])), (q_1, .inl (k_2, 6, .inl (fun _ => 0))), (q_3, .inl (k_4, 3, .inl (fun _ => 0))), (q_5, .inl (k_6, 3, .inl (fun _ => 0))), (q_7, .inl (k_8, 4, .inl (fun _ => 0))), (q_9, .inl (k_10, 4, .inl (fun _ => 0))), (q_11, .inl (k_12, 4, .inl (fun _ => 0))), (q_13, .inl (k_14, 4, .inl (fun _ => 0))), (q_15, .inl (k_16, 4, .inl (fun _ => 0))), (q_17, .inl (k_18, 4, .inl (fun _ => 0)))] H := ⟨hP, hD⟩
  have hK9 := hK.sub (tys' := [(k_2, .int), (k_4, .int), (k_6, .int), (k_8, .int), (k_10, .int), (k_12, .int), (k_14, .int), (k_16, .int), (k_18, .int)]) [0, 1, 2, 3, 4, 5, 6, 7, 8] rfl
  exact W.vret hx hb hr (fun t ht hW => ⟨⟨(), rfl, trivial, q_1, q_3, q_5, q_7, q_9, q_11, q_13, q_15, q_17, k_2, k_4, k_6, k_8, k_10, k_12, k_14, k_16, k_18, by rw [ht]; exact hP.sub [0, 1, 2, 3, 4, 5, 6, 7, 8, 9] rfl, va_K.moved hW.alike hK9, hD.sub [0, 1, 2, 3, 4, 5, 6, 7, 8, 9] (by decide) rfl⟩, hS.F ht⟩) hS.2.2 dX3_init_68
set_option maxHeartbeats 4000000 in
set_option maxRecDepth 100000 in
theorem n_Book (l : Launch) (dC : Nat → ClassId) (dI : Nat → Nat → Nat) (n0 : Nat) (atx : Nat → Nat × Nat) (sz : Nat) (bk : Nat) : Met l yX0_init (wM yX0_init cX0_init 1 none) ({ frames := 2, cells := 19, slots := 175, locals := 32 }) (va_Pc [.ref bk] (fun U => U.heap.size = sz ∧ n0 ≤ sz ∧ GW n0 atx U ∧ va_P (dC, dI) classes [(bk, .inr (0, [.int 0, .null, .null, .null, .null, .null, .null, .null, .null, .null, .int 0, .int 0, .null]))] U.heap ∧ va_K (dC, dI) classes [] U ∧ va_D (fun q => n0 ≤ q) [(bk, .inr (0, [.int 0, .null, .null, .null, .null, .null, .null, .null, .null, .null, .int 0, .int 0, .null]))])) (va_Qv (fun _ : Unit => True) (fun (_ : Unit) (t : State) => ∃ (bk_tail : Nat), ∃ (bk_head : Nat), ∃ (bk_hinder : Nat), ∃ (bk_size : Nat), ∃ (bk_walk : Nat), ∃ (bk_draught : Nat), ∃ (bk_doorIn : Nat), ∃ (bk_fanIn : Nat), ∃ (bk_faceIn : Nat), ∃ (gr : Nat), ∃ (gr_doorBy : Nat), ∃ (gr_pairFirst : Nat), ∃ (gr_pairSecond : Nat), ∃ (gr_fanPush : Nat), ∃ (gr_fanFall : Nat), ∃ (gr_fanCost : Nat), ∃ (gr_faceWay : Nat), ∃ (gr_faceGas : Nat), ∃ (gr_faceNeed : Nat), ∃ (k_bk_tail : ClassId), ∃ (k_bk_head : ClassId), ∃ (k_bk_hinder : ClassId), ∃ (k_bk_size : ClassId), ∃ (k_bk_walk : ClassId), ∃ (k_bk_draught : ClassId), ∃ (k_bk_doorIn : ClassId), ∃ (k_bk_fanIn : ClassId), ∃ (k_bk_faceIn : ClassId), ∃ (k_gr_doorBy : ClassId), ∃ (k_gr_pairFirst : ClassId), ∃ (k_gr_pairSecond : ClassId), ∃ (k_gr_fanPush : ClassId), ∃ (k_gr_fanFall : ClassId), ∃ (k_gr_fanCost : ClassId), ∃ (k_gr_faceWay : ClassId), ∃ (k_gr_faceGas : ClassId), ∃ (k_gr_faceNeed : ClassId), va_P (dC, dI) classes [(bk, .inr (0, [.int 0, .ref bk_tail, .ref bk_head, .ref bk_hinder, .ref bk_size, .ref bk_walk, .ref bk_draught, .ref bk_doorIn, .ref bk_fanIn, .ref bk_faceIn, .int 0, .int (-1), .ref gr])), (bk_tail, .inl (k_bk_tail, 14, .inl (fun _ => 0))), (bk_head, .inl (k_bk_head, 14, .inl (fun _ => 0))), (bk_hinder, .inl (k_bk_hinder, 14, .inl (fun _ => 0))), (bk_size, .inl (k_bk_size, 14, .inl (fun _ => 0))), (bk_walk, .inl (k_bk_walk, 14, .inl (fun _ => 0))), (bk_draught, .inl (k_bk_draught, 14, .inl (fun _ => 0))), (bk_doorIn, .inl (k_bk_doorIn, 14, .inl (fun _ => 0))), (bk_fanIn, .inl (k_bk_fanIn, 14, .inl (fun _ => 0))), (bk_faceIn, .inl (k_bk_faceIn, 14, .inl (fun _ => 0))), (gr, .inr (3, [.int 0, .ref gr_doorBy, .int 0, .ref gr_pairFirst, .ref gr_pairSecond, .int 0, .ref gr_fanPush, .ref gr_fanFall, .ref gr_fanCost, .int 0, .ref gr_faceWay, .ref gr_faceGas, .ref gr_faceNeed])), (gr_doorBy, .inl (k_gr_doorBy, 6, .inl (fun _ => 0))), (gr_pairFirst, .inl (k_gr_pairFirst, 3, .inl (fun _ => 0))), (gr_pairSecond, .inl (k_gr_pairSecond, 3, .inl (fun _ => 0))), (gr_fanPush, .inl (k_gr_fanPush, 4, .inl (fun _ => 0))), (gr_fanFall, .inl (k_gr_fanFall, 4, .inl (fun _ => 0))), (gr_fanCost, .inl (k_gr_fanCost, 4, .inl (fun _ => 0))), (gr_faceWay, .inl (k_gr_faceWay, 4, .inl (fun _ => 0))), (gr_faceGas, .inl (k_gr_faceGas, 4, .inl (fun _ => 0))), (gr_faceNeed, .inl (k_gr_faceNeed, 4, .inl (fun _ => 0)))] t.heap ∧ va_K (dC, dI) classes [(k_bk_tail, .int), (k_bk_head, .int), (k_bk_hinder, .int), (k_bk_size, .int), (k_bk_walk, .int), (k_bk_draught, .int), (k_bk_doorIn, .int), (k_bk_fanIn, .int), (k_bk_faceIn, .int), (k_gr_doorBy, .int), (k_gr_pairFirst, .int), (k_gr_pairSecond, .int), (k_gr_fanPush, .int), (k_gr_fanFall, .int), (k_gr_fanCost, .int), (k_gr_faceWay, .int), (k_gr_faceGas, .int), (k_gr_faceNeed, .int)] t ∧ va_D (va_A [(bk, .inr (0, [.int 0, .null, .null, .null, .null, .null, .null, .null, .null, .null, .int 0, .int 0, .null]))] sz) [(bk, .inr (0, [.int 0, .ref bk_tail, .ref bk_head, .ref bk_hinder, .ref bk_size, .ref bk_walk, .ref bk_draught, .ref bk_doorIn, .ref bk_fanIn, .ref bk_faceIn, .int 0, .int (-1), .ref gr])), (bk_tail, .inl (k_bk_tail, 14, .inl (fun _ => 0))), (bk_head, .inl (k_bk_head, 14, .inl (fun _ => 0))), (bk_hinder, .inl (k_bk_hinder, 14, .inl (fun _ => 0))), (bk_size, .inl (k_bk_size, 14, .inl (fun _ => 0))), (bk_walk, .inl (k_bk_walk, 14, .inl (fun _ => 0))), (bk_draught, .inl (k_bk_draught, 14, .inl (fun _ => 0))), (bk_doorIn, .inl (k_bk_doorIn, 14, .inl (fun _ => 0))), (bk_fanIn, .inl (k_bk_fanIn, 14, .inl (fun _ => 0))), (bk_faceIn, .inl (k_bk_faceIn, 14, .inl (fun _ => 0))), (gr, .inr (3, [.int 0, .ref gr_doorBy, .int 0, .ref gr_pairFirst, .ref gr_pairSecond, .int 0, .ref gr_fanPush, .ref gr_fanFall, .ref gr_fanCost, .int 0, .ref gr_faceWay, .ref gr_faceGas, .ref gr_faceNeed])), (gr_doorBy, .inl (k_gr_doorBy, 6, .inl (fun _ => 0))), (gr_pairFirst, .inl (k_gr_pairFirst, 3, .inl (fun _ => 0))), (gr_pairSecond, .inl (k_gr_pairSecond, 3, .inl (fun _ => 0))), (gr_fanPush, .inl (k_gr_fanPush, 4, .inl (fun _ => 0))), (gr_fanFall, .inl (k_gr_fanFall, 4, .inl (fun _ => 0))), (gr_fanCost, .inl (k_gr_fanCost, 4, .inl (fun _ => 0))), (gr_faceWay, .inl (k_gr_faceWay, 4, .inl (fun _ => 0))), (gr_faceGas, .inl (k_gr_faceGas, 4, .inl (fun _ => 0))), (gr_faceNeed, .inl (k_gr_faceNeed, 4, .inl (fun _ => 0)))]) (va_A [(bk, .inr (0, [.int 0, .null, .null, .null, .null, .null, .null, .null, .null, .null, .int 0, .int 0, .null]))] sz)) 19 175 (va_A [(bk, .inr (0, [.int 0, .null, .null, .null, .null, .null, .null, .null, .null, .null, .int 0, .int 0, .null]))] sz) := by
  refine Met.ofW (cc := cX0_init) (maxL := 1) (ret := none) (by decide) rfl ?_
  intro p e s m args below meth c s₁ B hml hv
  obtain ⟨rfl, hsz, hn0, hG, hP, hK, hD0⟩ := hv
  have hx := B.exec
  have hb := B.bytes
  have hr := B.returns
  have hts := atoms_spec (ws := wM yX0_init cX0_init 1 none) B.pre
  have hown : s.vm.findClass RX0 = some m.cls := findClass_of_methodNamed B.named
  have hlocks := B.notSynchronized
  have hin : meth.name = "<init>" := (name_of_methodNamed B.named B.method).1
  subst hsz
  have hD := hD0.self (sz := s.heap.size)
  have hA0 := vA_n0 hD0 hn0
  generalize hAe : va_A [(bk, .inr (0, [.int 0, .null, .null, .null, .null, .null, .null, .null, .null, .null, .int 0, .int 0, .null]))] s.heap.size = A at hD hA0 ⊢
  have hA : ∀ q : Nat, s.heap.size ≤ q → A q := fun q h => by rw [← hAe]; exact Or.inr h
  have hS : va_S A s.heap s.heap [] := va_S.rf
  have hl := lv_entry ([.ref bk]) (n := 1) (Nat.le_of_ble_eq_true rfl)
  rw [lg_entry_eq]
  generalize (lg_sl ([.ref bk]) ++ List.replicate (1 - (lg_sl ([.ref bk])).length) Slot.unset).toArray = ls at hl ⊢
  have hl : lv_has ls 1 [(0, .ref bk)] := hl
  refine lv_aload_n hx hb dX0_init_0 rfl (lv_at hl 0 rfl) ?_
  refine W.objInit hx hb hown (hts _ (wM_c wd_153)) (hts _ (wM_c wd_146)) (hts _ (wM_c wd_objInit)) rfl (by rw [hml]; exact hl.1) rfl dX0_init_1 (Nat.le_of_ble_eq_true rfl) (Nat.le_of_ble_eq_true rfl) ?_
  refine W.eq (g2 := F0 m 4 ls []) rfl ?_
  refine lv_aload_n hx hb dX0_init_4 rfl (lv_at hl 0 rfl) ?_
  refine lv_bipush (v := 14) hx hb dX0_init_5 (by decide) ?_
  refine va_newa (atype := .int) (a0 := (14, .inl (fun _ => 0))) (ty := .int) hx hb (hts _ (wM_c wd_237)) rfl hK hP hD hS hA (fun _ => rfl) (by decide) rfl (by decide) (Nat.le_of_ble_eq_true rfl) (Nat.le_of_ble_eq_true rfl) dX0_init_7 (fun q_1 k_2 H hK hP hD hS => ?_)
  obtain ⟨hP, hD⟩ : s3_w (dC, dI) classes A [(bk, .inr (0, [.int 0, .null, .null, .null, .null, .null, .null, .null, .null, .null, .int 0, .int 0, .null])), (q_1, .inl (k_2, 14, .inl (fun _ => 0)))] H := ⟨hP, hD⟩
  have hK : va_K (dC, dI) classes [(k_2, .int)] s := hK
  refine W.widen (k := 1) (n := 14) (Nat.le_of_ble_eq_true rfl) (Nat.le_of_ble_eq_true rfl) ?_
  refine va_putF (D := (dC, dI)) (ci := 0) (v := .ref q_1) (ty := (.array .int)) (C := RX0) (T := TX0) (N := 13) hx hb hts (fun w h => wM_c (iX0 w h)) tyX0 tyX0_ok nmX0 hown hK hP hD hS 0 rfl rfl 1 (by decide) (hts _ (wM_c wd_246)) (fun _ h9 => h9) rfl hin rfl (by decide +kernel) rfl rfl (Nat.le_of_ble_eq_true rfl) dX0_init_9 (fun H locs hP hD hS => ?_)
  obtain ⟨hP, hD⟩ : s3_w (dC, dI) classes A [(bk, .inr (0, [.int 0, .ref q_1, .null, .null, .null, .null, .null, .null, .null, .null, .int 0, .int 0, .null])), (q_1, .inl (k_2, 14, .inl (fun _ => 0)))] H := ⟨hP, hD⟩
  refine lv_aload_n hx hb dX0_init_12 rfl (lv_at hl 0 rfl) ?_
  refine lv_bipush (v := 14) hx hb dX0_init_13 (by decide) ?_
  refine va_newa (atype := .int) (a0 := (14, .inl (fun _ => 0))) (ty := .int) hx hb (hts _ (wM_c wd_237)) rfl hK hP hD hS hA (fun _ => rfl) (by decide) rfl (by decide) (Nat.le_of_ble_eq_true rfl) (Nat.le_of_ble_eq_true rfl) dX0_init_15 (fun q_3 k_4 H hK hP hD hS => ?_)
  obtain ⟨hP, hD⟩ : s3_w (dC, dI) classes A [(bk, .inr (0, [.int 0, .ref q_1, .null, .null, .null, .null, .null, .null, .null, .null, .int 0, .int 0, .null])), (q_1, .inl (k_2, 14, .inl (fun _ => 0))), (q_3, .inl (k_4, 14, .inl (fun _ => 0)))] H := ⟨hP, hD⟩
  have hK : va_K (dC, dI) classes [(k_2, .int), (k_4, .int)] s := hK
  refine W.widen (k := 2) (n := 28) (Nat.le_of_ble_eq_true rfl) (Nat.le_of_ble_eq_true rfl) ?_
  refine va_putF (D := (dC, dI)) (ci := 0) (v := .ref q_3) (ty := (.array .int)) (C := RX0) (T := TX0) (N := 13) hx hb hts (fun w h => wM_c (iX0 w h)) tyX0 tyX0_ok nmX0 hown hK hP hD hS 0 rfl rfl 2 (by decide) (hts _ (wM_c wd_251)) (fun _ h9 => h9) rfl hin rfl (by decide +kernel) rfl rfl (Nat.le_of_ble_eq_true rfl) dX0_init_17 (fun H locs hP hD hS => ?_)
  obtain ⟨hP, hD⟩ : s3_w (dC, dI) classes A [(bk, .inr (0, [.int 0, .ref q_1, .ref q_3, .null, .null, .null, .null, .null, .null, .null, .int 0, .int 0, .null])), (q_1, .inl (k_2, 14, .inl (fun _ => 0))), (q_3, .inl (k_4, 14, .inl (fun _ => 0)))] H := ⟨hP, hD⟩
  refine lv_aload_n hx hb dX0_init_20 rfl (lv_at hl 0 rfl) ?_
  refine lv_bipush (v := 14) hx hb dX0_init_21 (by decide) ?_
  refine va_newa (atype := .int) (a0 := (14, .inl (fun _ => 0))) (ty := .int) hx hb (hts _ (wM_c wd_237)) rfl hK hP hD hS hA (fun _ => rfl) (by decide) rfl (by decide) (Nat.le_of_ble_eq_true rfl) (Nat.le_of_ble_eq_true rfl) dX0_init_23 (fun q_5 k_6 H hK hP hD hS => ?_)
  obtain ⟨hP, hD⟩ : s3_w (dC, dI) classes A [(bk, .inr (0, [.int 0, .ref q_1, .ref q_3, .null, .null, .null, .null, .null, .null, .null, .int 0, .int 0, .null])), (q_1, .inl (k_2, 14, .inl (fun _ => 0))), (q_3, .inl (k_4, 14, .inl (fun _ => 0))), (q_5, .inl (k_6, 14, .inl (fun _ => 0)))] H := ⟨hP, hD⟩
  have hK : va_K (dC, dI) classes [(k_2, .int), (k_4, .int), (k_6, .int)] s := hK
  refine W.widen (k := 3) (n := 42) (Nat.le_of_ble_eq_true rfl) (Nat.le_of_ble_eq_true rfl) ?_
  refine va_putF (D := (dC, dI)) (ci := 0) (v := .ref q_5) (ty := (.array .int)) (C := RX0) (T := TX0) (N := 13) hx hb hts (fun w h => wM_c (iX0 w h)) tyX0 tyX0_ok nmX0 hown hK hP hD hS 0 rfl rfl 3 (by decide) (hts _ (wM_c wd_256)) (fun _ h9 => h9) rfl hin rfl (by decide +kernel) rfl rfl (Nat.le_of_ble_eq_true rfl) dX0_init_25 (fun H locs hP hD hS => ?_)
  obtain ⟨hP, hD⟩ : s3_w (dC, dI) classes A [(bk, .inr (0, [.int 0, .ref q_1, .ref q_3, .ref q_5, .null, .null, .null, .null, .null, .null, .int 0, .int 0, .null])), (q_1, .inl (k_2, 14, .inl (fun _ => 0))), (q_3, .inl (k_4, 14, .inl (fun _ => 0))), (q_5, .inl (k_6, 14, .inl (fun _ => 0)))] H := ⟨hP, hD⟩
  refine lv_aload_n hx hb dX0_init_28 rfl (lv_at hl 0 rfl) ?_
  refine lv_bipush (v := 14) hx hb dX0_init_29 (by decide) ?_
  refine va_newa (atype := .int) (a0 := (14, .inl (fun _ => 0))) (ty := .int) hx hb (hts _ (wM_c wd_237)) rfl hK hP hD hS hA (fun _ => rfl) (by decide) rfl (by decide) (Nat.le_of_ble_eq_true rfl) (Nat.le_of_ble_eq_true rfl) dX0_init_31 (fun q_7 k_8 H hK hP hD hS => ?_)
  obtain ⟨hP, hD⟩ : s3_w (dC, dI) classes A [(bk, .inr (0, [.int 0, .ref q_1, .ref q_3, .ref q_5, .null, .null, .null, .null, .null, .null, .int 0, .int 0, .null])), (q_1, .inl (k_2, 14, .inl (fun _ => 0))), (q_3, .inl (k_4, 14, .inl (fun _ => 0))), (q_5, .inl (k_6, 14, .inl (fun _ => 0))), (q_7, .inl (k_8, 14, .inl (fun _ => 0)))] H := ⟨hP, hD⟩
  have hK : va_K (dC, dI) classes [(k_2, .int), (k_4, .int), (k_6, .int), (k_8, .int)] s := hK
  refine W.widen (k := 4) (n := 56) (Nat.le_of_ble_eq_true rfl) (Nat.le_of_ble_eq_true rfl) ?_
  refine va_putF (D := (dC, dI)) (ci := 0) (v := .ref q_7) (ty := (.array .int)) (C := RX0) (T := TX0) (N := 13) hx hb hts (fun w h => wM_c (iX0 w h)) tyX0 tyX0_ok nmX0 hown hK hP hD hS 0 rfl rfl 4 (by decide) (hts _ (wM_c wd_259)) (fun _ h9 => h9) rfl hin rfl (by decide +kernel) rfl rfl (Nat.le_of_ble_eq_true rfl) dX0_init_33 (fun H locs hP hD hS => ?_)
  obtain ⟨hP, hD⟩ : s3_w (dC, dI) classes A [(bk, .inr (0, [.int 0, .ref q_1, .ref q_3, .ref q_5, .ref q_7, .null, .null, .null, .null, .null, .int 0, .int 0, .null])), (q_1, .inl (k_2, 14, .inl (fun _ => 0))), (q_3, .inl (k_4, 14, .inl (fun _ => 0))), (q_5, .inl (k_6, 14, .inl (fun _ => 0))), (q_7, .inl (k_8, 14, .inl (fun _ => 0)))] H := ⟨hP, hD⟩
  refine lv_aload_n hx hb dX0_init_36 rfl (lv_at hl 0 rfl) ?_
  refine lv_bipush (v := 14) hx hb dX0_init_37 (by decide) ?_
  refine va_newa (atype := .int) (a0 := (14, .inl (fun _ => 0))) (ty := .int) hx hb (hts _ (wM_c wd_237)) rfl hK hP hD hS hA (fun _ => rfl) (by decide) rfl (by decide) (Nat.le_of_ble_eq_true rfl) (Nat.le_of_ble_eq_true rfl) dX0_init_39 (fun q_9 k_10 H hK hP hD hS => ?_)
  obtain ⟨hP, hD⟩ : s3_w (dC, dI) classes A [(bk, .inr (0, [.int 0, .ref q_1, .ref q_3, .ref q_5, .ref q_7, .null, .null, .null, .null, .null, .int 0, .int 0, .null])), (q_1, .inl (k_2, 14, .inl (fun _ => 0))), (q_3, .inl (k_4, 14, .inl (fun _ => 0))), (q_5, .inl (k_6, 14, .inl (fun _ => 0))), (q_7, .inl (k_8, 14, .inl (fun _ => 0))), (q_9, .inl (k_10, 14, .inl (fun _ => 0)))] H := ⟨hP, hD⟩
  have hK : va_K (dC, dI) classes [(k_2, .int), (k_4, .int), (k_6, .int), (k_8, .int), (k_10, .int)] s := hK
  refine W.widen (k := 5) (n := 70) (Nat.le_of_ble_eq_true rfl) (Nat.le_of_ble_eq_true rfl) ?_
  refine va_putF (D := (dC, dI)) (ci := 0) (v := .ref q_9) (ty := (.array .int)) (C := RX0) (T := TX0) (N := 13) hx hb hts (fun w h => wM_c (iX0 w h)) tyX0 tyX0_ok nmX0 hown hK hP hD hS 0 rfl rfl 5 (by decide) (hts _ (wM_c wd_263)) (fun _ h9 => h9) rfl hin rfl (by decide +kernel) rfl rfl (Nat.le_of_ble_eq_true rfl) dX0_init_41 (fun H locs hP hD hS => ?_)
  obtain ⟨hP, hD⟩ : s3_w (dC, dI) classes A [(bk, .inr (0, [.int 0, .ref q_1, .ref q_3, .ref q_5, .ref q_7, .ref q_9, .null, .null, .null, .null, .int 0, .int 0, .null])), (q_1, .inl (k_2, 14, .inl (fun _ => 0))), (q_3, .inl (k_4, 14, .inl (fun _ => 0))), (q_5, .inl (k_6, 14, .inl (fun _ => 0))), (q_7, .inl (k_8, 14, .inl (fun _ => 0))), (q_9, .inl (k_10, 14, .inl (fun _ => 0)))] H := ⟨hP, hD⟩
  refine lv_aload_n hx hb dX0_init_44 rfl (lv_at hl 0 rfl) ?_
  refine lv_bipush (v := 14) hx hb dX0_init_45 (by decide) ?_
  refine va_newa (atype := .int) (a0 := (14, .inl (fun _ => 0))) (ty := .int) hx hb (hts _ (wM_c wd_237)) rfl hK hP hD hS hA (fun _ => rfl) (by decide) rfl (by decide) (Nat.le_of_ble_eq_true rfl) (Nat.le_of_ble_eq_true rfl) dX0_init_47 (fun q_11 k_12 H hK hP hD hS => ?_)
  obtain ⟨hP, hD⟩ : s3_w (dC, dI) classes A [(bk, .inr (0, [.int 0, .ref q_1, .ref q_3, .ref q_5, .ref q_7, .ref q_9, .null, .null, .null, .null, .int 0, .int 0, .null])), (q_1, .inl (k_2, 14, .inl (fun _ => 0))), (q_3, .inl (k_4, 14, .inl (fun _ => 0))), (q_5, .inl (k_6, 14, .inl (fun _ => 0))), (q_7, .inl (k_8, 14, .inl (fun _ => 0))), (q_9, .inl (k_10, 14, .inl (fun _ => 0))), (q_11, .inl (k_12, 14, .inl (fun _ => 0)))] H := ⟨hP, hD⟩
  have hK : va_K (dC, dI) classes [(k_2, .int), (k_4, .int), (k_6, .int), (k_8, .int), (k_10, .int), (k_12, .int)] s := hK
  refine W.widen (k := 6) (n := 84) (Nat.le_of_ble_eq_true rfl) (Nat.le_of_ble_eq_true rfl) ?_
  refine va_putF (D := (dC, dI)) (ci := 0) (v := .ref q_11) (ty := (.array .int)) (C := RX0) (T := TX0) (N := 13) hx hb hts (fun w h => wM_c (iX0 w h)) tyX0 tyX0_ok nmX0 hown hK hP hD hS 0 rfl rfl 6 (by decide) (hts _ (wM_c wd_267)) (fun _ h9 => h9) rfl hin rfl (by decide +kernel) rfl rfl (Nat.le_of_ble_eq_true rfl) dX0_init_49 (fun H locs hP hD hS => ?_)
  obtain ⟨hP, hD⟩ : s3_w (dC, dI) classes A [(bk, .inr (0, [.int 0, .ref q_1, .ref q_3, .ref q_5, .ref q_7, .ref q_9, .ref q_11, .null, .null, .null, .int 0, .int 0, .null])), (q_1, .inl (k_2, 14, .inl (fun _ => 0))), (q_3, .inl (k_4, 14, .inl (fun _ => 0))), (q_5, .inl (k_6, 14, .inl (fun _ => 0))), (q_7, .inl (k_8, 14, .inl (fun _ => 0))), (q_9, .inl (k_10, 14, .inl (fun _ => 0))), (q_11, .inl (k_12, 14, .inl (fun _ => 0)))] H := ⟨hP, hD⟩
  refine lv_aload_n hx hb dX0_init_52 rfl (lv_at hl 0 rfl) ?_
  refine lv_bipush (v := 14) hx hb dX0_init_53 (by decide) ?_
  refine va_newa (atype := .int) (a0 := (14, .inl (fun _ => 0))) (ty := .int) hx hb (hts _ (wM_c wd_237)) rfl hK hP hD hS hA (fun _ => rfl) (by decide) rfl (by decide) (Nat.le_of_ble_eq_true rfl) (Nat.le_of_ble_eq_true rfl) dX0_init_55 (fun q_13 k_14 H hK hP hD hS => ?_)
  obtain ⟨hP, hD⟩ : s3_w (dC, dI) classes A [(bk, .inr (0, [.int 0, .ref q_1, .ref q_3, .ref q_5, .ref q_7, .ref q_9, .ref q_11, .null, .null, .null, .int 0, .int 0, .null])), (q_1, .inl (k_2, 14, .inl (fun _ => 0))), (q_3, .inl (k_4, 14, .inl (fun _ => 0))), (q_5, .inl (k_6, 14, .inl (fun _ => 0))), (q_7, .inl (k_8, 14, .inl (fun _ => 0))), (q_9, .inl (k_10, 14, .inl (fun _ => 0))), (q_11, .inl (k_12, 14, .inl (fun _ => 0))), (q_13, .inl (k_14, 14, .inl (fun _ => 0)))] H := ⟨hP, hD⟩
  have hK : va_K (dC, dI) classes [(k_2, .int), (k_4, .int), (k_6, .int), (k_8, .int), (k_10, .int), (k_12, .int), (k_14, .int)] s := hK
  refine W.widen (k := 7) (n := 98) (Nat.le_of_ble_eq_true rfl) (Nat.le_of_ble_eq_true rfl) ?_
  refine va_putF (D := (dC, dI)) (ci := 0) (v := .ref q_13) (ty := (.array .int)) (C := RX0) (T := TX0) (N := 13) hx hb hts (fun w h => wM_c (iX0 w h)) tyX0 tyX0_ok nmX0 hown hK hP hD hS 0 rfl rfl 7 (by decide) (hts _ (wM_c wd_271)) (fun _ h9 => h9) rfl hin rfl (by decide +kernel) rfl rfl (Nat.le_of_ble_eq_true rfl) dX0_init_57 (fun H locs hP hD hS => ?_)
  obtain ⟨hP, hD⟩ : s3_w (dC, dI) classes A [(bk, .inr (0, [.int 0, .ref q_1, .ref q_3, .ref q_5, .ref q_7, .ref q_9, .ref q_11, .ref q_13, .null, .null, .int 0, .int 0, .null])), (q_1, .inl (k_2, 14, .inl (fun _ => 0))), (q_3, .inl (k_4, 14, .inl (fun _ => 0))), (q_5, .inl (k_6, 14, .inl (fun _ => 0))), (q_7, .inl (k_8, 14, .inl (fun _ => 0))), (q_9, .inl (k_10, 14, .inl (fun _ => 0))), (q_11, .inl (k_12, 14, .inl (fun _ => 0))), (q_13, .inl (k_14, 14, .inl (fun _ => 0)))] H := ⟨hP, hD⟩
  refine lv_aload_n hx hb dX0_init_60 rfl (lv_at hl 0 rfl) ?_
  refine lv_bipush (v := 14) hx hb dX0_init_61 (by decide) ?_
  refine va_newa (atype := .int) (a0 := (14, .inl (fun _ => 0))) (ty := .int) hx hb (hts _ (wM_c wd_237)) rfl hK hP hD hS hA (fun _ => rfl) (by decide) rfl (by decide) (Nat.le_of_ble_eq_true rfl) (Nat.le_of_ble_eq_true rfl) dX0_init_63 (fun q_15 k_16 H hK hP hD hS => ?_)
  obtain ⟨hP, hD⟩ : s3_w (dC, dI) classes A [(bk, .inr (0, [.int 0, .ref q_1, .ref q_3, .ref q_5, .ref q_7, .ref q_9, .ref q_11, .ref q_13, .null, .null, .int 0, .int 0, .null])), (q_1, .inl (k_2, 14, .inl (fun _ => 0))), (q_3, .inl (k_4, 14, .inl (fun _ => 0))), (q_5, .inl (k_6, 14, .inl (fun _ => 0))), (q_7, .inl (k_8, 14, .inl (fun _ => 0))), (q_9, .inl (k_10, 14, .inl (fun _ => 0))), (q_11, .inl (k_12, 14, .inl (fun _ => 0))), (q_13, .inl (k_14, 14, .inl (fun _ => 0))), (q_15, .inl (k_16, 14, .inl (fun _ => 0)))] H := ⟨hP, hD⟩
  have hK : va_K (dC, dI) classes [(k_2, .int), (k_4, .int), (k_6, .int), (k_8, .int), (k_10, .int), (k_12, .int), (k_14, .int), (k_16, .int)] s := hK
  refine W.widen (k := 8) (n := 112) (Nat.le_of_ble_eq_true rfl) (Nat.le_of_ble_eq_true rfl) ?_
  refine va_putF (D := (dC, dI)) (ci := 0) (v := .ref q_15) (ty := (.array .int)) (C := RX0) (T := TX0) (N := 13) hx hb hts (fun w h => wM_c (iX0 w h)) tyX0 tyX0_ok nmX0 hown hK hP hD hS 0 rfl rfl 8 (by decide) (hts _ (wM_c wd_275)) (fun _ h9 => h9) rfl hin rfl (by decide +kernel) rfl rfl (Nat.le_of_ble_eq_true rfl) dX0_init_65 (fun H locs hP hD hS => ?_)
  obtain ⟨hP, hD⟩ : s3_w (dC, dI) classes A [(bk, .inr (0, [.int 0, .ref q_1, .ref q_3, .ref q_5, .ref q_7, .ref q_9, .ref q_11, .ref q_13, .ref q_15, .null, .int 0, .int 0, .null])), (q_1, .inl (k_2, 14, .inl (fun _ => 0))), (q_3, .inl (k_4, 14, .inl (fun _ => 0))), (q_5, .inl (k_6, 14, .inl (fun _ => 0))), (q_7, .inl (k_8, 14, .inl (fun _ => 0))), (q_9, .inl (k_10, 14, .inl (fun _ => 0))), (q_11, .inl (k_12, 14, .inl (fun _ => 0))), (q_13, .inl (k_14, 14, .inl (fun _ => 0))), (q_15, .inl (k_16, 14, .inl (fun _ => 0)))] H := ⟨hP, hD⟩
  refine lv_aload_n hx hb dX0_init_68 rfl (lv_at hl 0 rfl) ?_
  refine lv_bipush (v := 14) hx hb dX0_init_69 (by decide) ?_
  refine va_newa (atype := .int) (a0 := (14, .inl (fun _ => 0))) (ty := .int) hx hb (hts _ (wM_c wd_237)) rfl hK hP hD hS hA (fun _ => rfl) (by decide) rfl (by decide) (Nat.le_of_ble_eq_true rfl) (Nat.le_of_ble_eq_true rfl) dX0_init_71 (fun q_17 k_18 H hK hP hD hS => ?_)
  obtain ⟨hP, hD⟩ : s3_w (dC, dI) classes A [(bk, .inr (0, [.int 0, .ref q_1, .ref q_3, .ref q_5, .ref q_7, .ref q_9, .ref q_11, .ref q_13, .ref q_15, .null, .int 0, .int 0, .null])), (q_1, .inl (k_2, 14, .inl (fun _ => 0))), (q_3, .inl (k_4, 14, .inl (fun _ => 0))), (q_5, .inl (k_6, 14, .inl (fun _ => 0))), (q_7, .inl (k_8, 14, .inl (fun _ => 0))), (q_9, .inl (k_10, 14, .inl (fun _ => 0))), (q_11, .inl (k_12, 14, .inl (fun _ => 0))), (q_13, .inl (k_14, 14, .inl (fun _ => 0))), (q_15, .inl (k_16, 14, .inl (fun _ => 0))), (q_17, .inl (k_18, 14, .inl (fun _ => 0)))] H := ⟨hP, hD⟩
  have hK : va_K (dC, dI) classes [(k_2, .int), (k_4, .int), (k_6, .int), (k_8, .int), (k_10, .int), (k_12, .int), (k_14, .int), (k_16, .int), (k_18, .int)] s := hK
  refine W.widen (k := 9) (n := 126) (Nat.le_of_ble_eq_true rfl) (Nat.le_of_ble_eq_true rfl) ?_
  refine va_putF (D := (dC, dI)) (ci := 0) (v := .ref q_17) (ty := (.array .int)) (C := RX0) (T := TX0) (N := 13) hx hb hts (fun w h => wM_c (iX0 w h)) tyX0 tyX0_ok nmX0 hown hK hP hD hS 0 rfl rfl 9 (by decide) (hts _ (wM_c wd_280)) (fun _ h9 => h9) rfl hin rfl (by decide +kernel) rfl rfl (Nat.le_of_ble_eq_true rfl) dX0_init_73 (fun H locs hP hD hS => ?_)
  obtain ⟨hP, hD⟩ : s3_w (dC, dI) classes A [(bk, .inr (0, [.int 0, .ref q_1, .ref q_3, .ref q_5, .ref q_7, .ref q_9, .ref q_11, .ref q_13, .ref q_15, .ref q_17, .int 0, .int 0, .null])), (q_1, .inl (k_2, 14, .inl (fun _ => 0))), (q_3, .inl (k_4, 14, .inl (fun _ => 0))), (q_5, .inl (k_6, 14, .inl (fun _ => 0))), (q_7, .inl (k_8, 14, .inl (fun _ => 0))), (q_9, .inl (k_10, 14, .inl (fun _ => 0))), (q_11, .inl (k_12, 14, .inl (fun _ => 0))), (q_13, .inl (k_14, 14, .inl (fun _ => 0))), (q_15, .inl (k_16, 14, .inl (fun _ => 0))), (q_17, .inl (k_18, 14, .inl (fun _ => 0)))] H := ⟨hP, hD⟩
  refine lv_aload_n hx hb dX0_init_76 rfl (lv_at hl 0 rfl) ?_
  refine lv_iconst (v := (-1)) hx hb dX0_init_77 (by decide) ?_
  refine va_put (D := (dC, dI)) (ci := 0) (v := .int (-1)) (ty := .int) (C := RX0) (T := TX0) (N := 13) hx hb hts (fun w h => wM_c (iX0 w h)) tyX0 tyX0_ok nmX0 hown hK hP hD hS 0 rfl rfl 11 (by decide) (hts _ (wM_c wd_288)) (fun _ h9 => h9) rfl (by decide +kernel) rfl rfl (Nat.le_of_ble_eq_true rfl) dX0_init_78 (fun H locs hP hD hS => ?_)
  obtain ⟨hP, hD⟩ : s3_w (dC, dI) classes A [(bk, .inr (0, [.int 0, .ref q_1, .ref q_3, .ref q_5, .ref q_7, .ref q_9, .ref q_11, .ref q_13, .ref q_15, .ref q_17, .int 0, .int (-1), .null])), (q_1, .inl (k_2, 14, .inl (fun _ => 0))), (q_3, .inl (k_4, 14, .inl (fun _ => 0))), (q_5, .inl (k_6, 14, .inl (fun _ => 0))), (q_7, .inl (k_8, 14, .inl (fun _ => 0))), (q_9, .inl (k_10, 14, .inl (fun _ => 0))), (q_11, .inl (k_12, 14, .inl (fun _ => 0))), (q_13, .inl (k_14, 14, .inl (fun _ => 0))), (q_15, .inl (k_16, 14, .inl (fun _ => 0))), (q_17, .inl (k_18, 14, .inl (fun _ => 0)))] H := ⟨hP, hD⟩
  refine lv_aload_n hx hb dX0_init_81 rfl (lv_at hl 0 rfl) ?_
  refine va_new (ci := 3) (fs := [.int 0, .null, .int 0, .null, .null, .int 0, .null, .null, .null, .int 0, .null, .null, .null]) (C := RX3) (T := TX3) (N := 13) hx hb hts (fun w h => wM_c (iX3 w h)) tyX3 tyX3_ok hown (hts _ (wM_c wd_154)) (hts _ (wM_c wd_155)) (hts _ (wM_c wd_116)) hK hP hD hS hA rfl dfX3 (Nat.le_of_ble_eq_true rfl) (Nat.le_of_ble_eq_true rfl) dX0_init_82 (fun q_19 H hP hD hS => ?_)
  obtain ⟨hP, hD⟩ : s3_w (dC, dI) classes A [(bk, .inr (0, [.int 0, .ref q_1, .ref q_3, .ref q_5, .ref q_7, .ref q_9, .ref q_11, .ref q_13, .ref q_15, .ref q_17, .int 0, .int (-1), .null])), (q_1, .inl (k_2, 14, .inl (fun _ => 0))), (q_3, .inl (k_4, 14, .inl (fun _ => 0))), (q_5, .inl (k_6, 14, .inl (fun _ => 0))), (q_7, .inl (k_8, 14, .inl (fun _ => 0))), (q_9, .inl (k_10, 14, .inl (fun _ => 0))), (q_11, .inl (k_12, 14, .inl (fun _ => 0))), (q_13, .inl (k_14, 14, .inl (fun _ => 0))), (q_15, .inl (k_16, 14, .inl (fun _ => 0))), (q_17, .inl (k_18, 14, .inl (fun _ => 0))), (q_19, .inr (3, [.int 0, .null, .int 0, .null, .null, .int 0, .null, .null, .null, .int 0, .null, .null, .null]))] H := ⟨hP, hD⟩
  refine W.widen (k := 10) (n := 139) (Nat.le_of_ble_eq_true rfl) (Nat.le_of_ble_eq_true rfl) ?_
  refine lv_dup hx hb dX0_init_85 rfl ?_
  obtain ⟨hPc, hDc, hFc⟩ := s3_c (ws' := [(q_19, .inr (3, [.int 0, .null, .int 0, .null, .null, .int 0, .null, .null, .null, .int 0, .null, .null, .null]))]) [10] hP hD hS hA rfl (by decide)
  have hKc := hK.sub (tys' := []) [] rfl
  refine va_callv (va_runIN (As := []) (rest := [.ref q_19, .ref bk]) ⟨hx, hb, hml, hown, hts⟩ (n_Gear l dC dI n0 atx H.size q_19 ) ⟨va_cnB 0 hts (gI (fun w h => wM_c h) wd_158) rfl rfl rfl (hG.1 _ wd_156) (hts _ (wM_c wd_116)) (by decide +kernel) ⟨Nat.le_of_ble_eq_true rfl, Nat.le_of_ble_eq_true rfl⟩, rfl, (hts _ (wM_c wd_157))⟩ ⟨fun a U g mk q => by obtain ⟨q0, q1, q2, qG, qP, qK, qD⟩ := q; exact ⟨q0, q1, q2, GW.blind qG, qP, va_K.moved (u := U) (U := U.calling g mk a) (Vm.Alike.refl U.vm) qK, qD⟩, fun U hU hW => ⟨rfl, by rw [hU], Nat.le_trans hn0 hS.1, GW.go hW hU hG (fun q hq hA9 => hS.2.1 q hq (fun h => hA9 (hA0 q h))), by rw [hU]; exact hPc, va_K.moved hW.alike hKc, hDc.weaken (fun _ _ _ h => hA0 _ h)⟩⟩ rfl rfl hl.1 rfl (lv_room (Nat.le_of_ble_eq_true rfl)) dX0_init_86 ⟨Nat.le_of_ble_eq_true rfl, Nat.le_of_ble_eq_true rfl⟩) hS (fun q _ h => hFc q h) hFc (fun u t H1 locs ht hvm hw_23 hB hz1 hk1 hS => ?_)
  obtain ⟨gr_24, gr_25, gr_26, gr_27, gr_28, gr_29, gr_30, gr_31, gr_32, k_33, k_34, k_35, k_36, k_37, k_38, k_39, k_40, k_41, hP1, hK1, hD1⟩ := hB
  rw [ht] at hP1
  obtain ⟨hP, hD⟩ := s3_j (L := [(bk, .inr (0, [.int 0, .ref q_1, .ref q_3, .ref q_5, .ref q_7, .ref q_9, .ref q_11, .ref q_13, .ref q_15, .ref q_17, .int 0, .int (-1), .null])), (q_1, .inl (k_2, 14, .inl (fun _ => 0))), (q_3, .inl (k_4, 14, .inl (fun _ => 0))), (q_5, .inl (k_6, 14, .inl (fun _ => 0))), (q_7, .inl (k_8, 14, .inl (fun _ => 0))), (q_9, .inl (k_10, 14, .inl (fun _ => 0))), (q_11, .inl (k_12, 14, .inl (fun _ => 0))), (q_13, .inl (k_14, 14, .inl (fun _ => 0))), (q_15, .inl (k_16, 14, .inl (fun _ => 0))), (q_17, .inl (k_18, 14, .inl (fun _ => 0))), (q_19, .inr (3, [.int 0, .ref gr_24, .int 0, .ref gr_25, .ref gr_26, .int 0, .ref gr_27, .ref gr_28, .ref gr_29, .int 0, .ref gr_30, .ref gr_31, .ref gr_32])), (gr_24, .inl (k_33, 6, .inl (fun _ => 0))), (gr_25, .inl (k_34, 3, .inl (fun _ => 0))), (gr_26, .inl (k_35, 3, .inl (fun _ => 0))), (gr_27, .inl (k_36, 4, .inl (fun _ => 0))), (gr_28, .inl (k_37, 4, .inl (fun _ => 0))), (gr_29, .inl (k_38, 4, .inl (fun _ => 0))), (gr_30, .inl (k_39, 4, .inl (fun _ => 0))), (gr_31, .inl (k_40, 4, .inl (fun _ => 0))), (gr_32, .inl (k_41, 4, .inl (fun _ => 0)))]) 10 hP hD [10] [0, 1, 2, 3, 4, 5, 6, 7, 8, 9] hk1 hFc hP1 hD1 rfl rfl rfl (by decide) (by decide)
  have hK := hK.app (va_K.moved hvm.symm hK1)
  have hK : va_K (dC, dI) classes [(k_2, .int), (k_4, .int), (k_6, .int), (k_8, .int), (k_10, .int), (k_12, .int), (k_14, .int), (k_16, .int), (k_18, .int), (k_33, .int), (k_34, .int), (k_35, .int), (k_36, .int), (k_37, .int), (k_38, .int), (k_39, .int), (k_40, .int), (k_41, .int)] s := hK
  generalize H1 = H at hP hS ⊢
  refine W.widen (k := 19) (n := 175) (Nat.le_of_ble_eq_true rfl) (Nat.le_of_ble_eq_true rfl) ?_
  refine va_putF (D := (dC, dI)) (ci := 0) (v := .ref q_19) (ty := (.object "MineAir$Gear")) (C := RX0) (T := TX0) (N := 13) hx hb hts (fun w h => wM_c (iX0 w h)) tyX0 tyX0_ok nmX0 hown hK hP hD hS 0 rfl rfl 12 (by decide) (hts _ (wM_c wd_293)) (fun _ h9 => h9) rfl hin rfl (by decide +kernel) rfl rfl (Nat.le_of_ble_eq_true rfl) dX0_init_89 (fun H locs hP hD hS => ?_)
  obtain ⟨hP, hD⟩ : s3_w (dC, dI) classes A [(bk, .inr (0, [.int 0, .ref q_1, .ref q_3, .ref q_5, .ref q_7, .ref q_9, .ref q_11, .ref q_13, .ref q_15, .ref q_17, .int 0, .int (-1), .ref q_19])), (q_1, .inl (k_2, 14, .inl (fun _ => 0))), (q_3, .inl (k_4, 14, .inl (fun _ => 0))), (q_5, .inl (k_6, 14, .inl (fun _ => 0))), (q_7, .inl (k_8, 14, .inl (fun _ => 0))), (q_9, .inl (k_10, 14, .inl (fun _ => 0))), (q_11, .inl (k_12, 14, .inl (fun _ => 0))), (q_13, .inl (k_14, 14, .inl (fun _ => 0))), (q_15, .inl (k_16, 14, .inl (fun _ => 0))), (q_17, .inl (k_18, 14, .inl (fun _ => 0))), (q_19, .inr (3, [.int 0, .ref gr_24, .int 0, .ref gr_25, .ref gr_26, .int 0, .ref gr_27, .ref gr_28, .ref gr_29, .int 0, .ref gr_30, .ref gr_31, .ref gr_32])), (gr_24, .inl (k_33, 6, .inl (fun _ => 0))), (gr_25, .inl (k_34, 3, .inl (fun _ => 0))), (gr_26, .inl (k_35, 3, .inl (fun _ => 0))), (gr_27, .inl (k_36, 4, .inl (fun _ => 0))), (gr_28, .inl (k_37, 4, .inl (fun _ => 0))), (gr_29, .inl (k_38, 4, .inl (fun _ => 0))), (gr_30, .inl (k_39, 4, .inl (fun _ => 0))), (gr_31, .inl (k_40, 4, .inl (fun _ => 0))), (gr_32, .inl (k_41, 4, .inl (fun _ => 0)))] H := ⟨hP, hD⟩
  have hK9 := hK.sub (tys' := [(k_2, .int), (k_4, .int), (k_6, .int), (k_8, .int), (k_10, .int), (k_12, .int), (k_14, .int), (k_16, .int), (k_18, .int), (k_33, .int), (k_34, .int), (k_35, .int), (k_36, .int), (k_37, .int), (k_38, .int), (k_39, .int), (k_40, .int), (k_41, .int)]) [0, 1, 2, 3, 4, 5, 6, 7, 8, 9, 10, 11, 12, 13, 14, 15, 16, 17] rfl
  exact W.vret hx hb hr (fun t ht hW => ⟨⟨(), rfl, trivial, q_1, q_3, q_5, q_7, q_9, q_11, q_13, q_15, q_17, q_19, gr_24, gr_25, gr_26, gr_27, gr_28, gr_29, gr_30, gr_31, gr_32, k_2, k_4, k_6, k_8, k_10, k_12, k_14, k_16, k_18, k_33, k_34, k_35, k_36, k_37, k_38, k_39, k_40, k_41, by rw [ht]; exact hP.sub [0, 1, 2, 3, 4, 5, 6, 7, 8, 9, 10, 11, 12, 13, 14, 15, 16, 17, 18, 19] rfl, va_K.moved hW.alike hK9, hD.sub [0, 1, 2, 3, 4, 5, 6, 7, 8, 9, 10, 11, 12, 13, 14, 15, 16, 17, 18, 19] (by decide) rfl⟩, hS.F ht⟩) hS.2.2 dX0_init_92
set_option maxHeartbeats 4000000 in
set_option maxRecDepth 100000 in
theorem n_Reader (l : Launch) (dC : Nat → ClassId) (dI : Nat → Nat → Nat) (n0 : Nat) (atx : Nat → Nat × Nat) (sz : Nat) (rd : Nat) (dr : Nat) : Met l yX7_init (wM yX7_init cX7_init 2 none) ({ frames := 1, cells := 5, slots := 694, locals := 12 }) (va_Pc [.ref rd, .ref dr] (fun U => U.heap.size = sz ∧ n0 ≤ sz ∧ GW n0 atx U ∧ va_P (dC, dI) classes [(rd, .inr (7, [.null, .int 0, .int 0, .int 0, .null, .null, .null, .null, .int 0, .null, .int 0, .int 0, .int 0, .int 0, .long 0]))] U.heap ∧ va_K (dC, dI) classes [] U ∧ va_D (fun q => n0 ≤ q) [(rd, .inr (7, [.null, .int 0, .int 0, .int 0, .null, .null, .null, .null, .int 0, .null, .int 0, .int 0, .int 0, .int 0, .long 0]))])) (va_Qv (fun _ : Unit => True) (fun (_ : Unit) (t : State) => ∃ (rd_tape : Nat), ∃ (rd_names : Nat), ∃ (rd_nameKind : Nat), ∃ (rd_nameNumber : Nat), ∃ (rd_knotNames : Nat), ∃ (k_rd_tape : ClassId), ∃ (k_rd_names : ClassId), ∃ (k_rd_nameKind : ClassId), ∃ (k_rd_nameNumber : ClassId), ∃ (k_rd_knotNames : ClassId), va_P (dC, dI) classes [(rd, .inr (7, [.ref rd_tape, .int 0, .int 0, .int 0, .ref dr, .ref rd_names, .ref rd_nameKind, .ref rd_nameNumber, .int 0, .ref rd_knotNames, .int 0, .int 0, .int 0, .int 0, .long 0])), (rd_tape, .inl (k_rd_tape, 600, .inl (fun _ => 0))), (rd_names, .inl (k_rd_names, 28, .inr (.inl (fun _ => 0)))), (rd_nameKind, .inl (k_rd_nameKind, 28, .inl (fun _ => 0))), (rd_nameNumber, .inl (k_rd_nameNumber, 28, .inl (fun _ => 0))), (rd_knotNames, .inl (k_rd_knotNames, 10, .inr (.inl (fun _ => 0))))] t.heap ∧ va_K (dC, dI) classes [(k_rd_tape, .int), (k_rd_names, .long), (k_rd_nameKind, .int), (k_rd_nameNumber, .int), (k_rd_knotNames, .long)] t ∧ va_D (va_A [(rd, .inr (7, [.null, .int 0, .int 0, .int 0, .null, .null, .null, .null, .int 0, .null, .int 0, .int 0, .int 0, .int 0, .long 0]))] sz) [(rd, .inr (7, [.ref rd_tape, .int 0, .int 0, .int 0, .ref dr, .ref rd_names, .ref rd_nameKind, .ref rd_nameNumber, .int 0, .ref rd_knotNames, .int 0, .int 0, .int 0, .int 0, .long 0])), (rd_tape, .inl (k_rd_tape, 600, .inl (fun _ => 0))), (rd_names, .inl (k_rd_names, 28, .inr (.inl (fun _ => 0)))), (rd_nameKind, .inl (k_rd_nameKind, 28, .inl (fun _ => 0))), (rd_nameNumber, .inl (k_rd_nameNumber, 28, .inl (fun _ => 0))), (rd_knotNames, .inl (k_rd_knotNames, 10, .inr (.inl (fun _ => 0))))]) (va_A [(rd, .inr (7, [.null, .int 0, .int 0, .int 0, .null, .null, .null, .null, .int 0, .null, .int 0, .int 0, .int 0, .int 0, .long 0]))] sz)) 5 694 (va_A [(rd, .inr (7, [.null, .int 0, .int 0, .int 0, .null, .null, .null, .null, .int 0, .null, .int 0, .int 0, .int 0, .int 0, .long 0]))] sz) := by
  refine Met.ofW (cc := cX7_init) (maxL := 2) (ret := none) (by decide) rfl ?_
  intro p e s m args below meth c s₁ B hml hv
  obtain ⟨rfl, hsz, hn0, hG, hP, hK, hD0⟩ := hv
  have hx := B.exec
  have hb := B.bytes
  have hr := B.returns
  have hts := atoms_spec (ws := wM yX7_init cX7_init 2 none) B.pre
  have hown : s.vm.findClass RX7 = some m.cls := findClass_of_methodNamed B.named
  have hlocks := B.notSynchronized
  have hin : meth.name = "<init>" := (name_of_methodNamed B.named B.method).1
  subst hsz
  have hD := hD0.self (sz := s.heap.size)
  have hA0 := vA_n0 hD0 hn0
  generalize hAe : va_A [(rd, .inr (7, [.null, .int 0, .int 0, .int 0, .null, .null, .null, .null, .int 0, .null, .int 0, .int 0, .int 0, .int 0, .long 0]))] s.heap.size = A at hD hA0 ⊢
  have hA : ∀ q : Nat, s.heap.size ≤ q → A q := fun q h => by rw [← hAe]; exact Or.inr h
  have hS : va_S A s.heap s.heap [] := va_S.rf
  have hl := lv_entry ([.ref rd, .ref dr]) (n := 2) (Nat.le_of_ble_eq_true rfl)
  rw [lg_entry_eq]
  generalize (lg_sl ([.ref rd, .ref dr]) ++ List.replicate (2 - (lg_sl ([.ref rd, .ref dr])).length) Slot.unset).toArray = ls at hl ⊢
  have hl : lv_has ls 2 [(0, .ref rd), (1, .ref dr)] := hl
  refine lv_aload_n hx hb dX7_init_0 rfl (lv_at hl 0 rfl) ?_
  refine W.objInit hx hb hown (hts _ (wM_c wd_332)) (hts _ (wM_c wd_146)) (hts _ (wM_c wd_objInit)) rfl (by rw [hml]; exact hl.1) rfl dX7_init_1 (Nat.le_of_ble_eq_true rfl) (Nat.le_of_ble_eq_true rfl) ?_
  refine W.eq (g2 := F0 m 4 ls []) rfl ?_
  refine lv_aload_n hx hb dX7_init_4 rfl (lv_at hl 0 rfl) ?_
  refine lv_sipush (v := 600) hx hb dX7_init_5 (by decide) ?_
  refine va_newa (atype := .int) (a0 := (600, .inl (fun _ => 0))) (ty := .int) hx hb (hts _ (wM_c wd_237)) rfl hK hP hD hS hA (fun _ => rfl) (by decide) rfl (by decide) (Nat.le_of_ble_eq_true rfl) (Nat.le_of_ble_eq_true rfl) dX7_init_8 (fun q_1 k_2 H hK hP hD hS => ?_)
  obtain ⟨hP, hD⟩ : s3_w (dC, dI) classes A [(rd, .inr (7, [.null, .int 0, .int 0, .int 0, .null, .null, .null, .null, .int 0, .null, .int 0, .int 0, .int 0, .int 0, .long 0])), (q_1, .inl (k_2, 600, .inl (fun _ => 0)))] H := ⟨hP, hD⟩
  have hK : va_K (dC, dI) classes [(k_2, .int)] s := hK
  refine W.widen (k := 1) (n := 600) (Nat.le_of_ble_eq_true rfl) (Nat.le_of_ble_eq_true rfl) ?_
  refine va_putF (D := (dC, dI)) (ci := 7) (v := .ref q_1) (ty := (.array .int)) (C := RX7) (T := TX7) (N := 15) hx hb hts (fun w h => wM_c (iX7 w h)) tyX7 tyX7_ok nmX7 hown hK hP hD hS 0 rfl rfl 0 (by decide) (hts _ (wM_c wd_333)) (fun _ h9 => h9) rfl hin rfl (by decide +kernel) rfl rfl (Nat.le_of_ble_eq_true rfl) dX7_init_10 (fun H locs hP hD hS => ?_)
  obtain ⟨hP, hD⟩ : s3_w (dC, dI) classes A [(rd, .inr (7, [.ref q_1, .int 0, .int 0, .int 0, .null, .null, .null, .null, .int 0, .null, .int 0, .int 0, .int 0, .int 0, .long 0])), (q_1, .inl (k_2, 600, .inl (fun _ => 0)))] H := ⟨hP, hD⟩
  refine lv_aload_n hx hb dX7_init_13 rfl (lv_at hl 0 rfl) ?_
  refine lv_bipush (v := 28) hx hb dX7_init_14 (by decide) ?_
  refine va_newa (atype := .long) (a0 := (28, .inr (.inl (fun _ => 0)))) (ty := .long) hx hb (hts _ (wM_c wd_382)) rfl hK hP hD hS hA (fun _ => rfl) (by decide) rfl (by decide) (Nat.le_of_ble_eq_true rfl) (Nat.le_of_ble_eq_true rfl) dX7_init_16 (fun q_3 k_4 H hK hP hD hS => ?_)
  obtain ⟨hP, hD⟩ : s3_w (dC, dI) classes A [(rd, .inr (7, [.ref q_1, .int 0, .int 0, .int 0, .null, .null, .null, .null, .int 0, .null, .int 0, .int 0, .int 0, .int 0, .long 0])), (q_1, .inl (k_2, 600, .inl (fun _ => 0))), (q_3, .inl (k_4, 28, .inr (.inl (fun _ => 0))))] H := ⟨hP, hD⟩
  have hK : va_K (dC, dI) classes [(k_2, .int), (k_4, .long)] s := hK
  refine W.widen (k := 2) (n := 628) (Nat.le_of_ble_eq_true rfl) (Nat.le_of_ble_eq_true rfl) ?_
  refine va_putF (D := (dC, dI)) (ci := 7) (v := .ref q_3) (ty := (.array .long)) (C := RX7) (T := TX7) (N := 15) hx hb hts (fun w h => wM_c (iX7 w h)) tyX7 tyX7_ok nmX7 hown hK hP hD hS 0 rfl rfl 5 (by decide) (hts _ (wM_c wd_341)) (fun _ h9 => h9) rfl hin rfl (by decide +kernel) rfl rfl (Nat.le_of_ble_eq_true rfl) dX7_init_18 (fun H locs hP hD hS => ?_)
  obtain ⟨hP, hD⟩ : s3_w (dC, dI) classes A [(rd, .inr (7, [.ref q_1, .int 0, .int 0, .int 0, .null, .ref q_3, .null, .null, .int 0, .null, .int 0, .int 0, .int 0, .int 0, .long 0])), (q_1, .inl (k_2, 600, .inl (fun _ => 0))), (q_3, .inl (k_4, 28, .inr (.inl (fun _ => 0))))] H := ⟨hP, hD⟩
  refine lv_aload_n hx hb dX7_init_21 rfl (lv_at hl 0 rfl) ?_
  refine lv_bipush (v := 28) hx hb dX7_init_22 (by decide) ?_
  refine va_newa (atype := .int) (a0 := (28, .inl (fun _ => 0))) (ty := .int) hx hb (hts _ (wM_c wd_237)) rfl hK hP hD hS hA (fun _ => rfl) (by decide) rfl (by decide) (Nat.le_of_ble_eq_true rfl) (Nat.le_of_ble_eq_true rfl) dX7_init_24 (fun q_5 k_6 H hK hP hD hS => ?_)
  obtain ⟨hP, hD⟩ : s3_w (dC, dI) classes A [(rd, .inr (7, [.ref q_1, .int 0, .int 0, .int 0, .null, .ref q_3, .null, .null, .int 0, .null, .int 0, .int 0, .int 0, .int 0, .long 0])), (q_1, .inl (k_2, 600, .inl (fun _ => 0))), (q_3, .inl (k_4, 28, .inr (.inl (fun _ => 0)))), (q_5, .inl (k_6, 28, .inl (fun _ => 0)))] H := ⟨hP, hD⟩
  have hK : va_K (dC, dI) classes [(k_2, .int), (k_4, .long), (k_6, .int)] s := hK
  refine W.widen (k := 3) (n := 656) (Nat.le_of_ble_eq_true rfl) (Nat.le_of_ble_eq_true rfl) ?_
  refine va_putF (D := (dC, dI)) (ci := 7) (v := .ref q_5) (ty := (.array .int)) (C := RX7) (T := TX7) (N := 15) hx hb hts (fun w h => wM_c (iX7 w h)) tyX7 tyX7_ok nmX7 hown hK hP hD hS 0 rfl rfl 6 (by decide) (hts _ (wM_c wd_342)) (fun _ h9 => h9) rfl hin rfl (by decide +kernel) rfl rfl (Nat.le_of_ble_eq_true rfl) dX7_init_26 (fun H locs hP hD hS => ?_)
  obtain ⟨hP, hD⟩ : s3_w (dC, dI) classes A [(rd, .inr (7, [.ref q_1, .int 0, .int 0, .int 0, .null, .ref q_3, .ref q_5, .null, .int 0, .null, .int 0, .int 0, .int 0, .int 0, .long 0])), (q_1, .inl (k_2, 600, .inl (fun _ => 0))), (q_3, .inl (k_4, 28, .inr (.inl (fun _ => 0)))), (q_5, .inl (k_6, 28, .inl (fun _ => 0)))] H := ⟨hP, hD⟩
  refine lv_aload_n hx hb dX7_init_29 rfl (lv_at hl 0 rfl) ?_
  refine lv_bipush (v := 28) hx hb dX7_init_30 (by decide) ?_
  refine va_newa (atype := .int) (a0 := (28, .inl (fun _ => 0))) (ty := .int) hx hb (hts _ (wM_c wd_237)) rfl hK hP hD hS hA (fun _ => rfl) (by decide) rfl (by decide) (Nat.le_of_ble_eq_true rfl) (Nat.le_of_ble_eq_true rfl) dX7_init_32 (fun q_7 k_8 H hK hP hD hS => ?_)
  obtain ⟨hP, hD⟩ : s3_w (dC, dI) classes A [(rd, .inr (7, [.ref q_1, .int 0, .int 0, .int 0, .null, .ref q_3, .ref q_5, .null, .int 0, .null, .int 0, .int 0, .int 0, .int 0, .long 0])), (q_1, .inl (k_2, 600, .inl (fun _ => 0))), (q_3, .inl (k_4, 28, .inr (.inl (fun _ => 0)))), (q_5, .inl (k_6, 28, .inl (fun _ => 0))), (q_7, .inl (k_8, 28, .inl (fun _ => 0)))] H := ⟨hP, hD⟩
  have hK : va_K (dC, dI) classes [(k_2, .int), (k_4, .long), (k_6, .int), (k_8, .int)] s := hK
  refine W.widen (k := 4) (n := 684) (Nat.le_of_ble_eq_true rfl) (Nat.le_of_ble_eq_true rfl) ?_
  refine va_putF (D := (dC, dI)) (ci := 7) (v := .ref q_7) (ty := (.array .int)) (C := RX7) (T := TX7) (N := 15) hx hb hts (fun w h => wM_c (iX7 w h)) tyX7 tyX7_ok nmX7 hown hK hP hD hS 0 rfl rfl 7 (by decide) (hts _ (wM_c wd_343)) (fun _ h9 => h9) rfl hin rfl (by decide +kernel) rfl rfl (Nat.le_of_ble_eq_true rfl) dX7_init_34 (fun H locs hP hD hS => ?_)
  obtain ⟨hP, hD⟩ : s3_w (dC, dI) classes A [(rd, .inr (7, [.ref q_1, .int 0, .int 0, .int 0, .null, .ref q_3, .ref q_5, .ref q_7, .int 0, .null, .int 0, .int 0, .int 0, .int 0, .long 0])), (q_1, .inl (k_2, 600, .inl (fun _ => 0))), (q_3, .inl (k_4, 28, .inr (.inl (fun _ => 0)))), (q_5, .inl (k_6, 28, .inl (fun _ => 0))), (q_7, .inl (k_8, 28, .inl (fun _ => 0)))] H := ⟨hP, hD⟩
  refine lv_aload_n hx hb dX7_init_37 rfl (lv_at hl 0 rfl) ?_
  refine lv_bipush (v := 10) hx hb dX7_init_38 (by decide) ?_
  refine va_newa (atype := .long) (a0 := (10, .inr (.inl (fun _ => 0)))) (ty := .long) hx hb (hts _ (wM_c wd_382)) rfl hK hP hD hS hA (fun _ => rfl) (by decide) rfl (by decide) (Nat.le_of_ble_eq_true rfl) (Nat.le_of_ble_eq_true rfl) dX7_init_40 (fun q_9 k_10 H hK hP hD hS => ?_)
  obtain ⟨hP, hD⟩ : s3_w (dC, dI) classes A [(rd, .inr (7, [.ref q_1, .int 0, .int 0, .int 0, .null, .ref q_3, .ref q_5, .ref q_7, .int 0, .null, .int 0, .int 0, .int 0, .int 0, .long 0])), (q_1, .inl (k_2, 600, .inl (fun _ => 0))), (q_3, .inl (k_4, 28, .inr (.inl (fun _ => 0)))), (q_5, .inl (k_6, 28, .inl (fun _ => 0))), (q_7, .inl (k_8, 28, .inl (fun _ => 0))), (q_9, .inl (k_10, 10, .inr (.inl (fun _ => 0))))] H := ⟨hP, hD⟩
  have hK : va_K (dC, dI) classes [(k_2, .int), (k_4, .long), (k_6, .int), (k_8, .int), (k_10, .long)] s := hK
  refine W.widen (k := 5) (n := 694) (Nat.le_of_ble_eq_true rfl) (Nat.le_of_ble_eq_true rfl) ?_
  refine va_putF (D := (dC, dI)) (ci := 7) (v := .ref q_9) (ty := (.array .long)) (C := RX7) (T := TX7) (N := 15) hx hb hts (fun w h => wM_c (iX7 w h)) tyX7 tyX7_ok nmX7 hown hK hP hD hS 0 rfl rfl 9 (by decide) (hts _ (wM_c wd_345)) (fun _ h9 => h9) rfl hin rfl (by decide +kernel) rfl rfl (Nat.le_of_ble_eq_true rfl) dX7_init_42 (fun H locs hP hD hS => ?_)
  obtain ⟨hP, hD⟩ : s3_w (dC, dI) classes A [(rd, .inr (7, [.ref q_1, .int 0, .int 0, .int 0, .null, .ref q_3, .ref q_5, .ref q_7, .int 0, .ref q_9, .int 0, .int 0, .int 0, .int 0, .long 0])), (q_1, .inl (k_2, 600, .inl (fun _ => 0))), (q_3, .inl (k_4, 28, .inr (.inl (fun _ => 0)))), (q_5, .inl (k_6, 28, .inl (fun _ => 0))), (q_7, .inl (k_8, 28, .inl (fun _ => 0))), (q_9, .inl (k_10, 10, .inr (.inl (fun _ => 0))))] H := ⟨hP, hD⟩
  refine lv_aload_n hx hb dX7_init_45 rfl (lv_at hl 0 rfl) ?_
  refine lv_aload_n hx hb dX7_init_46 rfl (lv_at hl 1 rfl) ?_
  refine va_putF (D := (dC, dI)) (ci := 7) (v := .ref dr) (ty := (.object "MineAir$Book")) (C := RX7) (T := TX7) (N := 15) hx hb hts (fun w h => wM_c (iX7 w h)) tyX7 tyX7_ok nmX7 hown hK hP hD hS 0 rfl rfl 4 (by decide) (hts _ (wM_c wd_340)) (fun _ h9 => h9) rfl hin rfl (by decide +kernel) rfl rfl (Nat.le_of_ble_eq_true rfl) dX7_init_47 (fun H locs hP hD hS => ?_)
  obtain ⟨hP, hD⟩ : s3_w (dC, dI) classes A [(rd, .inr (7, [.ref q_1, .int 0, .int 0, .int 0, .ref dr, .ref q_3, .ref q_5, .ref q_7, .int 0, .ref q_9, .int 0, .int 0, .int 0, .int 0, .long 0])), (q_1, .inl (k_2, 600, .inl (fun _ => 0))), (q_3, .inl (k_4, 28, .inr (.inl (fun _ => 0)))), (q_5, .inl (k_6, 28, .inl (fun _ => 0))), (q_7, .inl (k_8, 28, .inl (fun _ => 0))), (q_9, .inl (k_10, 10, .inr (.inl (fun _ => 0))))] H := ⟨hP, hD⟩
  have hK9 := hK.sub (tys' := [(k_2, .int), (k_4, .long), (k_6, .int), (k_8, .int), (k_10, .long)]) [0, 1, 2, 3, 4] rfl
  exact W.vret hx hb hr (fun t ht hW => ⟨⟨(), rfl, trivial, q_1, q_3, q_5, q_7, q_9, k_2, k_4, k_6, k_8, k_10, by rw [ht]; exact hP.sub [0, 1, 2, 3, 4, 5] rfl, va_K.moved hW.alike hK9, hD.sub [0, 1, 2, 3, 4, 5] (by decide) rfl⟩, hS.F ht⟩) hS.2.2 dX7_init_50
set_option maxHeartbeats 4000000 in
set_option maxRecDepth 100000 in
theorem n_State (l : Launch) (dC : Nat → ClassId) (dI : Nat → Nat → Nat) (n0 : Nat) (atx : Nat → Nat × Nat) (sz : Nat) (st : Nat) (bk : Nat) : Met l yX9_init (wM yX9_init cX9_init 2 none) ({ frames := 1, cells := 4, slots := 38, locals := 12 }) (va_Pc [.ref st, .ref bk] (fun U => U.heap.size = sz ∧ n0 ≤ sz ∧ GW n0 atx U ∧ va_P (dC, dI) classes [(st, .inr (9, [.null, .null, .null, .null, .int 0, .int 0, .int 0, .null]))] U.heap ∧ va_K (dC, dI) classes [] U ∧ va_D (fun q => n0 ≤ q) [(st, .inr (9, [.null, .null, .null, .null, .int 0, .int 0, .int 0, .null]))])) (va_Qv (fun _ : Unit => True) (fun (_ : Unit) (t : State) => ∃ (st_open : Nat), ∃ (st_speed : Nat), ∃ (st_fallen : Nat), ∃ (st_fire : Nat), ∃ (k_st_open : ClassId), ∃ (k_st_speed : ClassId), ∃ (k_st_fallen : ClassId), ∃ (k_st_fire : ClassId), va_P (dC, dI) classes [(st, .inr (9, [.ref st_open, .ref st_speed, .ref st_fallen, .ref st_fire, .int 0, .int 0, .int 0, .ref bk])), (st_open, .inl (k_st_open, 6, .inl (fun _ => 0))), (st_speed, .inl (k_st_speed, 4, .inl (fun _ => 0))), (st_fallen, .inl (k_st_fallen, 14, .inl (fun _ => 0))), (st_fire, .inl (k_st_fire, 14, .inl (fun _ => 0)))] t.heap ∧ va_K (dC, dI) classes [(k_st_open, .boolean), (k_st_speed, .int), (k_st_fallen, .boolean), (k_st_fire, .int)] t ∧ va_D (va_A [(st, .inr (9, [.null, .null, .null, .null, .int 0, .int 0, .int 0, .null]))] sz) [(st, .inr (9, [.ref st_open, .ref st_speed, .ref st_fallen, .ref st_fire, .int 0, .int 0, .int 0, .ref bk])), (st_open, .inl (k_st_open, 6, .inl (fun _ => 0))), (st_speed, .inl (k_st_speed, 4, .inl (fun _ => 0))), (st_fallen, .inl (k_st_fallen, 14, .inl (fun _ => 0))), (st_fire, .inl (k_st_fire, 14, .inl (fun _ => 0)))]) (va_A [(st, .inr (9, [.null, .null, .null, .null, .int 0, .int 0, .int 0, .null]))] sz)) 4 38 (va_A [(st, .inr (9, [.null, .null, .null, .null, .int 0, .int 0, .int 0, .null]))] sz) := by
  refine Met.ofW (cc := cX9_init) (maxL := 2) (ret := none) (by decide) rfl ?_
  intro p e s m args below meth c s₁ B hml hv
  obtain ⟨rfl, hsz, hn0, hG, hP, hK, hD0⟩ := hv
  have hx := B.exec
  have hb := B.bytes
  have hr := B.returns
  have hts := atoms_spec (ws := wM yX9_init cX9_init 2 none) B.pre
  have hown : s.vm.findClass RX9 = some m.cls := findClass_of_methodNamed B.named
  have hlocks := B.notSynchronized
  have hin : meth.name = "<init>" := (name_of_methodNamed B.named B.method).1
  subst hsz
  have hD := hD0.self (sz := s.heap.size)
  have hA0 := vA_n0 hD0 hn0
  generalize hAe : va_A [(st, .inr (9, [.null, .null, .null, .null, .int 0, .int 0, .int 0, .null]))] s.heap.size = A at hD hA0 ⊢
  have hA : ∀ q : Nat, s.heap.size ≤ q → A q := fun q h => by rw [← hAe]; exact Or.inr h
  have hS : va_S A s.heap s.heap [] := va_S.rf
  have hl := lv_entry ([.ref st, .ref bk]) (n := 2) (Nat.le_of_ble_eq_true rfl)
  rw [lg_entry_eq]
  generalize (lg_sl ([.ref st, .ref bk]) ++ List.replicate (2 - (lg_sl ([.ref st, .ref bk])).length) Slot.unset).toArray = ls at hl ⊢
  have hl : lv_has ls 2 [(0, .ref st), (1, .ref bk)] := hl
  refine lv_aload_n hx hb dX9_init_0 rfl (lv_at hl 0 rfl) ?_
  refine W.objInit hx hb hown (hts _ (wM_c wd_388)) (hts _ (wM_c wd_146)) (hts _ (wM_c wd_objInit)) rfl (by rw [hml]; exact hl.1) rfl dX9_init_1 (Nat.le_of_ble_eq_true rfl) (Nat.le_of_ble_eq_true rfl) ?_
  refine W.eq (g2 := F0 m 4 ls []) rfl ?_
  refine lv_aload_n hx hb dX9_init_4 rfl (lv_at hl 0 rfl) ?_
  refine lv_bipush (v := 6) hx hb dX9_init_5 (by decide) ?_
  refine va_newa (atype := .boolean) (a0 := (6, .inl (fun _ => 0))) (ty := .boolean) hx hb (hts _ (wM_c wd_430)) rfl hK hP hD hS hA (fun _ => rfl) (by decide) rfl (by decide) (Nat.le_of_ble_eq_true rfl) (Nat.le_of_ble_eq_true rfl) dX9_init_7 (fun q_1 k_2 H hK hP hD hS => ?_)
  obtain ⟨hP, hD⟩ : s3_w (dC, dI) classes A [(st, .inr (9, [.null, .null, .null, .null, .int 0, .int 0, .int 0, .null])), (q_1, .inl (k_2, 6, .inl (fun _ => 0)))] H := ⟨hP, hD⟩
  have hK : va_K (dC, dI) classes [(k_2, .boolean)] s := hK
  refine W.widen (k := 1) (n := 6) (Nat.le_of_ble_eq_true rfl) (Nat.le_of_ble_eq_true rfl) ?_
  refine va_putF (D := (dC, dI)) (ci := 9) (v := .ref q_1) (ty := (.array .boolean)) (C := RX9) (T := TX9) (N := 8) hx hb hts (fun w h => wM_c (iX9 w h)) tyX9 tyX9_ok nmX9 hown hK hP hD hS 0 rfl rfl 0 (by decide) (hts _ (wM_c wd_389)) (fun _ h9 => h9) rfl hin rfl (by decide +kernel) rfl rfl (Nat.le_of_ble_eq_true rfl) dX9_init_9 (fun H locs hP hD hS => ?_)
  obtain ⟨hP, hD⟩ : s3_w (dC, dI) classes A [(st, .inr (9, [.ref q_1, .null, .null, .null, .int 0, .int 0, .int 0, .null])), (q_1, .inl (k_2, 6, .inl (fun _ => 0)))] H := ⟨hP, hD⟩
  refine lv_aload_n hx hb dX9_init_12 rfl (lv_at hl 0 rfl) ?_
  refine lv_iconst (v := 4) hx hb dX9_init_13 (by decide) ?_
  refine va_newa (atype := .int) (a0 := (4, .inl (fun _ => 0))) (ty := .int) hx hb (hts _ (wM_c wd_237)) rfl hK hP hD hS hA (fun _ => rfl) (by decide) rfl (by decide) (Nat.le_of_ble_eq_true rfl) (Nat.le_of_ble_eq_true rfl) dX9_init_14 (fun q_3 k_4 H hK hP hD hS => ?_)
  obtain ⟨hP, hD⟩ : s3_w (dC, dI) classes A [(st, .inr (9, [.ref q_1, .null, .null, .null, .int 0, .int 0, .int 0, .null])), (q_1, .inl (k_2, 6, .inl (fun _ => 0))), (q_3, .inl (k_4, 4, .inl (fun _ => 0)))] H := ⟨hP, hD⟩
  have hK : va_K (dC, dI) classes [(k_2, .boolean), (k_4, .int)] s := hK
  refine W.widen (k := 2) (n := 10) (Nat.le_of_ble_eq_true rfl) (Nat.le_of_ble_eq_true rfl) ?_
  refine va_putF (D := (dC, dI)) (ci := 9) (v := .ref q_3) (ty := (.array .int)) (C := RX9) (T := TX9) (N := 8) hx hb hts (fun w h => wM_c (iX9 w h)) tyX9 tyX9_ok nmX9 hown hK hP hD hS 0 rfl rfl 1 (by decide) (hts _ (wM_c wd_392)) (fun _ h9 => h9) rfl hin rfl (by decide +kernel) rfl rfl (Nat.le_of_ble_eq_true rfl) dX9_init_16 (fun H locs hP hD hS => ?_)
  obtain ⟨hP, hD⟩ : s3_w (dC, dI) classes A [(st, .inr (9, [.ref q_1, .ref q_3, .null, .null, .int 0, .int 0, .int 0, .null])), (q_1, .inl (k_2, 6, .inl (fun _ => 0))), (q_3, .inl (k_4, 4, .inl (fun _ => 0)))] H := ⟨hP, hD⟩
  refine lv_aload_n hx hb dX9_init_19 rfl (lv_at hl 0 rfl) ?_
  refine lv_bipush (v := 14) hx hb dX9_init_20 (by decide) ?_
  refine va_newa (atype := .boolean) (a0 := (14, .inl (fun _ => 0))) (ty := .boolean) hx hb (hts _ (wM_c wd_430)) rfl hK hP hD hS hA (fun _ => rfl) (by decide) rfl (by decide) (Nat.le_of_ble_eq_true rfl) (Nat.le_of_ble_eq_true rfl) dX9_init_22 (fun q_5 k_6 H hK hP hD hS => ?_)
  obtain ⟨hP, hD⟩ : s3_w (dC, dI) classes A [(st, .inr (9, [.ref q_1, .ref q_3, .null, .null, .int 0, .int 0, .int 0, .null])), (q_1, .inl (k_2, 6, .inl (fun _ => 0))), (q_3, .inl (k_4, 4, .inl (fun _ => 0))), (q_5, .inl (k_6, 14, .inl (fun _ => 0)))] H := ⟨hP, hD⟩
  have hK : va_K (dC, dI) classes [(k_2, .boolean), (k_4, .int), (k_6, .boolean)] s := hK
  refine W.widen (k := 3) (n := 24) (Nat.le_of_ble_eq_true rfl) (Nat.le_of_ble_eq_true rfl) ?_
  refine va_putF (D := (dC, dI)) (ci := 9) (v := .ref q_5) (ty := (.array .boolean)) (C := RX9) (T := TX9) (N := 8) hx hb hts (fun w h => wM_c (iX9 w h)) tyX9 tyX9_ok nmX9 hown hK hP hD hS 0 rfl rfl 2 (by decide) (hts _ (wM_c wd_396)) (fun _ h9 => h9) rfl hin rfl (by decide +kernel) rfl rfl (Nat.le_of_ble_eq_true rfl) dX9_init_24 (fun H locs hP hD hS => ?_)
  obtain ⟨hP, hD⟩ : s3_w (dC, dI) classes A [(st, .inr (9, [.ref q_1, .ref q_3, .ref q_5, .null, .int 0, .int 0, .int 0, .null])), (q_1, .inl (k_2, 6, .inl (fun _ => 0))), (q_3, .inl (k_4, 4, .inl (fun _ => 0))), (q_5, .inl (k_6, 14, .inl (fun _ => 0)))] H := ⟨hP, hD⟩
  refine lv_aload_n hx hb dX9_init_27 rfl (lv_at hl 0 rfl) ?_
  refine lv_bipush (v := 14) hx hb dX9_init_28 (by decide) ?_
  refine va_newa (atype := .int) (a0 := (14, .inl (fun _ => 0))) (ty := .int) hx hb (hts _ (wM_c wd_237)) rfl hK hP hD hS hA (fun _ => rfl) (by decide) rfl (by decide) (Nat.le_of_ble_eq_true rfl) (Nat.le_of_ble_eq_true rfl) dX9_init_30 (fun q_7 k_8 H hK hP hD hS => ?_)
  obtain ⟨hP, hD⟩ : s3_w (dC, dI) classes A [(st, .inr (9, [.ref q_1, .ref q_3, .ref q_5, .null, .int 0, .int 0, .int 0, .null])), (q_1, .inl (k_2, 6, .inl (fun _ => 0))), (q_3, .inl (k_4, 4, .inl (fun _ => 0))), (q_5, .inl (k_6, 14, .inl (fun _ => 0))), (q_7, .inl (k_8, 14, .inl (fun _ => 0)))] H := ⟨hP, hD⟩
  have hK : va_K (dC, dI) classes [(k_2, .boolean), (k_4, .int), (k_6, .boolean), (k_8, .int)] s := hK
  refine W.widen (k := 4) (n := 38) (Nat.le_of_ble_eq_true rfl) (Nat.le_of_ble_eq_true rfl) ?_
  refine va_putF (D := (dC, dI)) (ci := 9) (v := .ref q_7) (ty := (.array .int)) (C := RX9) (T := TX9) (N := 8) hx hb hts (fun w h => wM_c (iX9 w h)) tyX9 tyX9_ok nmX9 hown hK hP hD hS 0 rfl rfl 3 (by decide) (hts _ (wM_c wd_402)) (fun _ h9 => h9) rfl hin rfl (by decide +kernel) rfl rfl (Nat.le_of_ble_eq_true rfl) dX9_init_32 (fun H locs hP hD hS => ?_)
  obtain ⟨hP, hD⟩ : s3_w (dC, dI) classes A [(st, .inr (9, [.ref q_1, .ref q_3, .ref q_5, .ref q_7, .int 0, .int 0, .int 0, .null])), (q_1, .inl (k_2, 6, .inl (fun _ => 0))), (q_3, .inl (k_4, 4, .inl (fun _ => 0))), (q_5, .inl (k_6, 14, .inl (fun _ => 0))), (q_7, .inl (k_8, 14, .inl (fun _ => 0)))] H := ⟨hP, hD⟩
  refine lv_aload_n hx hb dX9_init_35 rfl (lv_at hl 0 rfl) ?_
  refine lv_aload_n hx hb dX9_init_36 rfl (lv_at hl 1 rfl) ?_
  refine va_putF (D := (dC, dI)) (ci := 9) (v := .ref bk) (ty := (.object "MineAir$Book")) (C := RX9) (T := TX9) (N := 8) hx hb hts (fun w h => wM_c (iX9 w h)) tyX9 tyX9_ok nmX9 hown hK hP hD hS 0 rfl rfl 7 (by decide) (hts _ (wM_c wd_412)) (fun _ h9 => h9) rfl hin rfl (by decide +kernel) rfl rfl (Nat.le_of_ble_eq_true rfl) dX9_init_37 (fun H locs hP hD hS => ?_)
  obtain ⟨hP, hD⟩ : s3_w (dC, dI) classes A [(st, .inr (9, [.ref q_1, .ref q_3, .ref q_5, .ref q_7, .int 0, .int 0, .int 0, .ref bk])), (q_1, .inl (k_2, 6, .inl (fun _ => 0))), (q_3, .inl (k_4, 4, .inl (fun _ => 0))), (q_5, .inl (k_6, 14, .inl (fun _ => 0))), (q_7, .inl (k_8, 14, .inl (fun _ => 0)))] H := ⟨hP, hD⟩
  have hK9 := hK.sub (tys' := [(k_2, .boolean), (k_4, .int), (k_6, .boolean), (k_8, .int)]) [0, 1, 2, 3] rfl
  exact W.vret hx hb hr (fun t ht hW => ⟨⟨(), rfl, trivial, q_1, q_3, q_5, q_7, k_2, k_4, k_6, k_8, by rw [ht]; exact hP.sub [0, 1, 2, 3, 4] rfl, va_K.moved hW.alike hK9, hD.sub [0, 1, 2, 3, 4] (by decide) rfl⟩, hS.F ht⟩) hS.2.2 dX9_init_40
set_option maxHeartbeats 4000000 in
set_option maxRecDepth 100000 in
theorem n_Flow (l : Launch) (dC : Nat → ClassId) (dI : Nat → Nat → Nat) (n0 : Nat) (atx : Nat → Nat × Nat) (sz : Nat) (fw : Nat) (bk : Nat) (st : Nat) : Met l yX2_init (wM yX2_init cX2_init 3 none) ({ frames := 1, cells := 10, slots := 124, locals := 12 }) (va_Pc [.ref fw, .ref bk, .ref st] (fun U => U.heap.size = sz ∧ n0 ≤ sz ∧ GW n0 atx U ∧ va_P (dC, dI) classes [(fw, .inr (2, [.null, .null, .null, .null, .null, .null, .null, .null, .null, .null, .null, .null]))] U.heap ∧ va_K (dC, dI) classes [] U ∧ va_D (fun q => n0 ≤ q) [(fw, .inr (2, [.null, .null, .null, .null, .null, .null, .null, .null, .null, .null, .null, .null]))])) (va_Qv (fun _ : Unit => True) (fun (_ : Unit) (t : State) => ∃ (fw_air : Nat), ∃ (fw_hindrance : Nat), ∃ (fw_pull : Nat), ∃ (fw_droop : Nat), ∃ (fw_forth : Nat), ∃ (fw_back : Nat), ∃ (fw_label : Nat), ∃ (fw_cause : Nat), ∃ (fw_seen : Nat), ∃ (fw_round : Nat), ∃ (k_fw_air : ClassId), ∃ (k_fw_hindrance : ClassId), ∃ (k_fw_pull : ClassId), ∃ (k_fw_droop : ClassId), ∃ (k_fw_forth : ClassId), ∃ (k_fw_back : ClassId), ∃ (k_fw_label : ClassId), ∃ (k_fw_cause : ClassId), ∃ (k_fw_seen : ClassId), ∃ (k_fw_round : ClassId), va_P (dC, dI) classes [(fw, .inr (2, [.ref fw_air, .ref bk, .ref st, .ref fw_hindrance, .ref fw_pull, .ref fw_droop, .ref fw_forth, .ref fw_back, .ref fw_label, .ref fw_cause, .ref fw_seen, .ref fw_round])), (fw_air, .inl (k_fw_air, 14, .inl (fun _ => 0))), (fw_hindrance, .inl (k_fw_hindrance, 14, .inr (.inl (fun _ => 0)))), (fw_pull, .inl (k_fw_pull, 14, .inr (.inl (fun _ => 0)))), (fw_droop, .inl (k_fw_droop, 14, .inr (.inl (fun _ => 0)))), (fw_forth, .inl (k_fw_forth, 14, .inr (.inl (fun _ => 0)))), (fw_back, .inl (k_fw_back, 14, .inr (.inl (fun _ => 0)))), (fw_label, .inl (k_fw_label, 10, .inr (.inl (fun _ => 0)))), (fw_cause, .inl (k_fw_cause, 10, .inl (fun _ => 0))), (fw_seen, .inl (k_fw_seen, 10, .inl (fun _ => 0))), (fw_round, .inl (k_fw_round, 10, .inl (fun _ => 0)))] t.heap ∧ va_K (dC, dI) classes [(k_fw_air, .int), (k_fw_hindrance, .long), (k_fw_pull, .long), (k_fw_droop, .long), (k_fw_forth, .long), (k_fw_back, .long), (k_fw_label, .long), (k_fw_cause, .int), (k_fw_seen, .int), (k_fw_round, .int)] t ∧ va_D (va_A [(fw, .inr (2, [.null, .null, .null, .null, .null, .null, .null, .null, .null, .null, .null, .null]))] sz) [(fw, .inr (2, [.ref fw_air, .ref bk, .ref st, .ref fw_hindrance, .ref fw_pull, .ref fw_droop, .ref fw_forth, .ref fw_back, .ref fw_label, .ref fw_cause, .ref fw_seen, .ref fw_round])), (fw_air, .inl (k_fw_air, 14, .inl (fun _ => 0))), (fw_hindrance, .inl (k_fw_hindrance, 14, .inr (.inl (fun _ => 0)))), (fw_pull, .inl (k_fw_pull, 14, .inr (.inl (fun _ => 0)))), (fw_droop, .inl (k_fw_droop, 14, .inr (.inl (fun _ => 0)))), (fw_forth, .inl (k_fw_forth, 14, .inr (.inl (fun _ => 0)))), (fw_back, .inl (k_fw_back, 14, .inr (.inl (fun _ => 0)))), (fw_label, .inl (k_fw_label, 10, .inr (.inl (fun _ => 0)))), (fw_cause, .inl (k_fw_cause, 10, .inl (fun _ => 0))), (fw_seen, .inl (k_fw_seen, 10, .inl (fun _ => 0))), (fw_round, .inl (k_fw_round, 10, .inl (fun _ => 0)))]) (va_A [(fw, .inr (2, [.null, .null, .null, .null, .null, .null, .null, .null, .null, .null, .null, .null]))] sz)) 10 124 (va_A [(fw, .inr (2, [.null, .null, .null, .null, .null, .null, .null, .null, .null, .null, .null, .null]))] sz) := by
  refine Met.ofW (cc := cX2_init) (maxL := 3) (ret := none) (by decide) rfl ?_
  intro p e s m args below meth c s₁ B hml hv
  obtain ⟨rfl, hsz, hn0, hG, hP, hK, hD0⟩ := hv
  have hx := B.exec
  have hb := B.bytes
  have hr := B.returns
  have hts := atoms_spec (ws := wM yX2_init cX2_init 3 none) B.pre
  have hown : s.vm.findClass RX2 = some m.cls := findClass_of_methodNamed B.named
  have hlocks := B.notSynchronized
  have hin : meth.name = "<init>" := (name_of_methodNamed B.named B.method).1
  subst hsz
  have hD := hD0.self (sz := s.heap.size)
  have hA0 := vA_n0 hD0 hn0
  generalize hAe : va_A [(fw, .inr (2, [.null, .null, .null, .null, .null, .null, .null, .null, .null, .null, .null, .null]))] s.heap.size = A at hD hA0 ⊢
  have hA : ∀ q : Nat, s.heap.size ≤ q → A q := fun q h => by rw [← hAe]; exact Or.inr h
  have hS : va_S A s.heap s.heap [] := va_S.rf
  have hl := lv_entry ([.ref fw, .ref bk, .ref st]) (n := 3) (Nat.le_of_ble_eq_true rfl)
  rw [lg_entry_eq]
  generalize (lg_sl ([.ref fw, .ref bk, .ref st]) ++ List.replicate (3 - (lg_sl ([.ref fw, .ref bk, .ref st])).length) Slot.unset).toArray = ls at hl ⊢
  have hl : lv_has ls 3 [(0, .ref fw), (1, .ref bk), (2, .ref st)] := hl
  refine lv_aload_n hx hb dX2_init_0 rfl (lv_at hl 0 rfl) ?_
  refine W.objInit hx hb hown (hts _ (wM_c wd_442)) (hts _ (wM_c wd_146)) (hts _ (wM_c wd_objInit)) rfl (by rw [hml]; exact hl.1) rfl dX2_init_1 (Nat.le_of_ble_eq_true rfl) (Nat.le_of_ble_eq_true rfl) ?_
  refine W.eq (g2 := F0 m 4 ls []) rfl ?_
  refine lv_aload_n hx hb dX2_init_4 rfl (lv_at hl 0 rfl) ?_
  refine lv_bipush (v := 14) hx hb dX2_init_5 (by decide) ?_
  refine va_newa (atype := .int) (a0 := (14, .inl (fun _ => 0))) (ty := .int) hx hb (hts _ (wM_c wd_237)) rfl hK hP hD hS hA (fun _ => rfl) (by decide) rfl (by decide) (Nat.le_of_ble_eq_true rfl) (Nat.le_of_ble_eq_true rfl) dX2_init_7 (fun q_1 k_2 H hK hP hD hS => ?_)
  obtain ⟨hP, hD⟩ : s3_w (dC, dI) classes A [(fw, .inr (2, [.null, .null, .null, .null, .null, .null, .null, .null, .null, .null, .null, .null])), (q_1, .inl (k_2, 14, .inl (fun _ => 0)))] H := ⟨hP, hD⟩
  have hK : va_K (dC, dI) classes [(k_2, .int)] s := hK
  refine W.widen (k := 1) (n := 14) (Nat.le_of_ble_eq_true rfl) (Nat.le_of_ble_eq_true rfl) ?_
  refine va_putF (D := (dC, dI)) (ci := 2) (v := .ref q_1) (ty := (.array .int)) (C := RX2) (T := TX2) (N := 12) hx hb hts (fun w h => wM_c (iX2 w h)) tyX2 tyX2_ok nmX2 hown hK hP hD hS 0 rfl rfl 0 (by decide) (hts _ (wM_c wd_443)) (fun _ h9 => h9) rfl hin rfl (by decide +kernel) rfl rfl (Nat.le_of_ble_eq_true rfl) dX2_init_9 (fun H locs hP hD hS => ?_)
  obtain ⟨hP, hD⟩ : s3_w (dC, dI) classes A [(fw, .inr (2, [.ref q_1, .null, .null, .null, .null, .null, .null, .null, .null, .null, .null, .null])), (q_1, .inl (k_2, 14, .inl (fun _ => 0)))] H := ⟨hP, hD⟩
  refine lv_aload_n hx hb dX2_init_12 rfl (lv_at hl 0 rfl) ?_
  refine lv_bipush (v := 14) hx hb dX2_init_13 (by decide) ?_
  refine va_newa (atype := .long) (a0 := (14, .inr (.inl (fun _ => 0)))) (ty := .long) hx hb (hts _ (wM_c wd_382)) rfl hK hP hD hS hA (fun _ => rfl) (by decide) rfl (by decide) (Nat.le_of_ble_eq_true rfl) (Nat.le_of_ble_eq_true rfl) dX2_init_15 (fun q_3 k_4 H hK hP hD hS => ?_)
  obtain ⟨hP, hD⟩ : s3_w (dC, dI) classes A [(fw, .inr (2, [.ref q_1, .null, .null, .null, .null, .null, .null, .null, .null, .null, .null, .null])), (q_1, .inl (k_2, 14, .inl (fun _ => 0))), (q_3, .inl (k_4, 14, .inr (.inl (fun _ => 0))))] H := ⟨hP, hD⟩
  have hK : va_K (dC, dI) classes [(k_2, .int), (k_4, .long)] s := hK
  refine W.widen (k := 2) (n := 28) (Nat.le_of_ble_eq_true rfl) (Nat.le_of_ble_eq_true rfl) ?_
  refine va_putF (D := (dC, dI)) (ci := 2) (v := .ref q_3) (ty := (.array .long)) (C := RX2) (T := TX2) (N := 12) hx hb hts (fun w h => wM_c (iX2 w h)) tyX2 tyX2_ok nmX2 hown hK hP hD hS 0 rfl rfl 3 (by decide) (hts _ (wM_c wd_449)) (fun _ h9 => h9) rfl hin rfl (by decide +kernel) rfl rfl (Nat.le_of_ble_eq_true rfl) dX2_init_17 (fun H locs hP hD hS => ?_)
  obtain ⟨hP, hD⟩ : s3_w (dC, dI) classes A [(fw, .inr (2, [.ref q_1, .null, .null, .ref q_3, .null, .null, .null, .null, .null, .null, .null, .null])), (q_1, .inl (k_2, 14, .inl (fun _ => 0))), (q_3, .inl (k_4, 14, .inr (.inl (fun _ => 0))))] H := ⟨hP, hD⟩
  refine lv_aload_n hx hb dX2_init_20 rfl (lv_at hl 0 rfl) ?_
  refine lv_bipush (v := 14) hx hb dX2_init_21 (by decide) ?_
  refine va_newa (atype := .long) (a0 := (14, .inr (.inl (fun _ => 0)))) (ty := .long) hx hb (hts _ (wM_c wd_382)) rfl hK hP hD hS hA (fun _ => rfl) (by decide) rfl (by decide) (Nat.le_of_ble_eq_true rfl) (Nat.le_of_ble_eq_true rfl) dX2_init_23 (fun q_5 k_6 H hK hP hD hS => ?_)
  obtain ⟨hP, hD⟩ : s3_w (dC, dI) classes A [(fw, .inr (2, [.ref q_1, .null, .null, .ref q_3, .null, .null, .null, .null, .null, .null, .null, .null])), (q_1, .inl (k_2, 14, .inl (fun _ => 0))), (q_3, .inl (k_4, 14, .inr (.inl (fun _ => 0)))), (q_5, .inl (k_6, 14, .inr (.inl (fun _ => 0))))] H := ⟨hP, hD⟩
  have hK : va_K (dC, dI) classes [(k_2, .int), (k_4, .long), (k_6, .long)] s := hK
  refine W.widen (k := 3) (n := 42) (Nat.le_of_ble_eq_true rfl) (Nat.le_of_ble_eq_true rfl) ?_
  refine va_putF (D := (dC, dI)) (ci := 2) (v := .ref q_5) (ty := (.array .long)) (C := RX2) (T := TX2) (N := 12) hx hb hts (fun w h => wM_c (iX2 w h)) tyX2 tyX2_ok nmX2 hown hK hP hD hS 0 rfl rfl 4 (by decide) (hts _ (wM_c wd_450)) (fun _ h9 => h9) rfl hin rfl (by decide +kernel) rfl rfl (Nat.le_of_ble_eq_true rfl) dX2_init_25 (fun H locs hP hD hS => ?_)
  obtain ⟨hP, hD⟩ : s3_w (dC, dI) classes A [(fw, .inr (2, [.ref q_1, .null, .null, .ref q_3, .ref q_5, .null, .null, .null, .null, .null, .null, .null])), (q_1, .inl (k_2, 14, .inl (fun _ => 0))), (q_3, .inl (k_4, 14, .inr (.inl (fun _ => 0)))), (q_5, .inl (k_6, 14, .inr (.inl (fun _ => 0))))] H := ⟨hP, hD⟩
  refine lv_aload_n hx hb dX2_init_28 rfl (lv_at hl 0 rfl) ?_
  refine lv_bipush (v := 14) hx hb dX2_init_29 (by decide) ?_
  refine va_newa (atype := .long) (a0 := (14, .inr (.inl (fun _ => 0)))) (ty := .long) hx hb (hts _ (wM_c wd_382)) rfl hK hP hD hS hA (fun _ => rfl) (by decide) rfl (by decide) (Nat.le_of_ble_eq_true rfl) (Nat.le_of_ble_eq_true rfl) dX2_init_31 (fun q_7 k_8 H hK hP hD hS => ?_)
  obtain ⟨hP, hD⟩ : s3_w (dC, dI) classes A [(fw, .inr (2, [.ref q_1, .null, .null, .ref q_3, .ref q_5, .null, .null, .null, .null, .null, .null, .null])), (q_1, .inl (k_2, 14, .inl (fun _ => 0))), (q_3, .inl (k_4, 14, .inr (.inl (fun _ => 0)))), (q_5, .inl (k_6, 14, .inr (.inl (fun _ => 0)))), (q_7, .inl (k_8, 14, .inr (.inl (fun _ => 0))))] H := ⟨hP, hD⟩
  have hK : va_K (dC, dI) classes [(k_2, .int), (k_4, .long), (k_6, .long), (k_8, .long)] s := hK
  refine W.widen (k := 4) (n := 56) (Nat.le_of_ble_eq_true rfl) (Nat.le_of_ble_eq_true rfl) ?_
  refine va_putF (D := (dC, dI)) (ci := 2) (v := .ref q_7) (ty := (.array .long)) (C := RX2) (T := TX2) (N := 12) hx hb hts (fun w h => wM_c (iX2 w h)) tyX2 tyX2_ok nmX2 hown hK hP hD hS 0 rfl rfl 5 (by decide) (hts _ (wM_c wd_451)) (fun _ h9 => h9) rfl hin rfl (by decide +kernel) rfl rfl (Nat.le_of_ble_eq_true rfl) dX2_init_33 (fun H locs hP hD hS => ?_)
  obtain ⟨hP, hD⟩ : s3_w (dC, dI) classes A [(fw, .inr (2, [.ref q_1, .null, .null, .ref q_3, .ref q_5, .ref q_7, .null, .null, .null, .null, .null, .null])), (q_1, .inl (k_2, 14, .inl (fun _ => 0))), (q_3, .inl (k_4, 14, .inr (.inl (fun _ => 0)))), (q_5, .inl (k_6, 14, .inr (.inl (fun _ => 0)))), (q_7, .inl (k_8, 14, .inr (.inl (fun _ => 0))))] H := ⟨hP, hD⟩
  refine lv_aload_n hx hb dX2_init_36 rfl (lv_at hl 0 rfl) ?_
  refine lv_bipush (v := 14) hx hb dX2_init_37 (by decide) ?_
  refine va_newa (atype := .long) (a0 := (14, .inr (.inl (fun _ => 0)))) (ty := .long) hx hb (hts _ (wM_c wd_382)) rfl hK hP hD hS hA (fun _ => rfl) (by decide) rfl (by decide) (Nat.le_of_ble_eq_true rfl) (Nat.le_of_ble_eq_true rfl) dX2_init_39 (fun q_9 k_10 H hK hP hD hS => ?_)
  obtain ⟨hP, hD⟩ : s3_w (dC, dI) classes A [(fw, .inr (2, [.ref q_1, .null, .null, .ref q_3, .ref q_5, .ref q_7, .null, .null, .null, .null, .null, .null])), (q_1, .inl (k_2, 14, .inl (fun _ => 0))), (q_3, .inl (k_4, 14, .inr (.inl (fun _ => 0)))), (q_5, .inl (k_6, 14, .inr (.inl (fun _ => 0)))), (q_7, .inl (k_8, 14, .inr (.inl (fun _ => 0)))), (q_9, .inl (k_10, 14, .inr (.inl (fun _ => 0))))] H := ⟨hP, hD⟩
  have hK : va_K (dC, dI) classes [(k_2, .int), (k_4, .long), (k_6, .long), (k_8, .long), (k_10, .long)] s := hK
  refine W.widen (k := 5) (n := 70) (Nat.le_of_ble_eq_true rfl) (Nat.le_of_ble_eq_true rfl) ?_
  refine va_putF (D := (dC, dI)) (ci := 2) (v := .ref q_9) (ty := (.array .long)) (C := RX2) (T := TX2) (N := 12) hx hb hts (fun w h => wM_c (iX2 w h)) tyX2 tyX2_ok nmX2 hown hK hP hD hS 0 rfl rfl 6 (by decide) (hts _ (wM_c wd_452)) (fun _ h9 => h9) rfl hin rfl (by decide +kernel) rfl rfl (Nat.le_of_ble_eq_true rfl) dX2_init_41 (fun H locs hP hD hS => ?_)
  obtain ⟨hP, hD⟩ : s3_w (dC, dI) classes A [(fw, .inr (2, [.ref q_1, .null, .null, .ref q_3, .ref q_5, .ref q_7, .ref q_9, .null, .null, .null, .null, .null])), (q_1, .inl (k_2, 14, .inl (fun _ => 0))), (q_3, .inl (k_4, 14, .inr (.inl (fun _ => 0)))), (q_5, .inl (k_6, 14, .inr (.inl (fun _ => 0)))), (q_7, .inl (k_8, 14, .inr (.inl (fun _ => 0)))), (q_9, .inl (k_10, 14, .inr (.inl (fun _ => 0))))] H := ⟨hP, hD⟩
  refine lv_aload_n hx hb dX2_init_44 rfl (lv_at hl 0 rfl) ?_
  refine lv_bipush (v := 14) hx hb dX2_init_45 (by decide) ?_
  refine va_newa (atype := .long) (a0 := (14, .inr (.inl (fun _ => 0)))) (ty := .long) hx hb (hts _ (wM_c wd_382)) rfl hK hP hD hS hA (fun _ => rfl) (by decide) rfl (by decide) (Nat.le_of_ble_eq_true rfl) (Nat.le_of_ble_eq_true rfl) dX2_init_47 (fun q_11 k_12 H hK hP hD hS => ?_)
  obtain ⟨hP, hD⟩ : s3_w (dC, dI) classes A [(fw, .inr (2, [.ref q_1, .null, .null, .ref q_3, .ref q_5, .ref q_7, .ref q_9, .null, .null, .null, .null, .null])), (q_1, .inl (k_2, 14, .inl (fun _ => 0))), (q_3, .inl (k_4, 14, .inr (.inl (fun _ => 0)))), (q_5, .inl (k_6, 14, .inr (.inl (fun _ => 0)))), (q_7, .inl (k_8, 14, .inr (.inl (fun _ => 0)))), (q_9, .inl (k_10, 14, .inr (.inl (fun _ => 0)))), (q_11, .inl (k_12, 14, .inr (.inl (fun _ => 0))))] H := ⟨hP, hD⟩
  have hK : va_K (dC, dI) classes [(k_2, .int), (k_4, .long), (k_6, .long), (k_8, .long), (k_10, .long), (k_12, .long)] s := hK
  refine W.widen (k := 6) (n := 84) (Nat.le_of_ble_eq_true rfl) (Nat.le_of_ble_eq_true rfl) ?_
  refine va_putF (D := (dC, dI)) (ci := 2) (v := .ref q_11) (ty := (.array .long)) (C := RX2) (T := TX2) (N := 12) hx hb hts (fun w h => wM_c (iX2 w h)) tyX2 tyX2_ok nmX2 hown hK hP hD hS 0 rfl rfl 7 (by decide) (hts _ (wM_c wd_453)) (fun _ h9 => h9) rfl hin rfl (by decide +kernel) rfl rfl (Nat.le_of_ble_eq_true rfl) dX2_init_49 (fun H locs hP hD hS => ?_)
  obtain ⟨hP, hD⟩ : s3_w (dC, dI) classes A [(fw, .inr (2, [.ref q_1, .null, .null, .ref q_3, .ref q_5, .ref q_7, .ref q_9, .ref q_11, .null, .null, .null, .null])), (q_1, .inl (k_2, 14, .inl (fun _ => 0))), (q_3, .inl (k_4, 14, .inr (.inl (fun _ => 0)))), (q_5, .inl (k_6, 14, .inr (.inl (fun _ => 0)))), (q_7, .inl (k_8, 14, .inr (.inl (fun _ => 0)))), (q_9, .inl (k_10, 14, .inr (.inl (fun _ => 0)))), (q_11, .inl (k_12, 14, .inr (.inl (fun _ => 0))))] H := ⟨hP, hD⟩
  refine lv_aload_n hx hb dX2_init_52 rfl (lv_at hl 0 rfl) ?_
  refine lv_bipush (v := 10) hx hb dX2_init_53 (by decide) ?_
  refine va_newa (atype := .long) (a0 := (10, .inr (.inl (fun _ => 0)))) (ty := .long) hx hb (hts _ (wM_c wd_382)) rfl hK hP hD hS hA (fun _ => rfl) (by decide) rfl (by decide) (Nat.le_of_ble_eq_true rfl) (Nat.le_of_ble_eq_true rfl) dX2_init_55 (fun q_13 k_14 H hK hP hD hS => ?_)
  obtain ⟨hP, hD⟩ : s3_w (dC, dI) classes A [(fw, .inr (2, [.ref q_1, .null, .null, .ref q_3, .ref q_5, .ref q_7, .ref q_9, .ref q_11, .null, .null, .null, .null])), (q_1, .inl (k_2, 14, .inl (fun _ => 0))), (q_3, .inl (k_4, 14, .inr (.inl (fun _ => 0)))), (q_5, .inl (k_6, 14, .inr (.inl (fun _ => 0)))), (q_7, .inl (k_8, 14, .inr (.inl (fun _ => 0)))), (q_9, .inl (k_10, 14, .inr (.inl (fun _ => 0)))), (q_11, .inl (k_12, 14, .inr (.inl (fun _ => 0)))), (q_13, .inl (k_14, 10, .inr (.inl (fun _ => 0))))] H := ⟨hP, hD⟩
  have hK : va_K (dC, dI) classes [(k_2, .int), (k_4, .long), (k_6, .long), (k_8, .long), (k_10, .long), (k_12, .long), (k_14, .long)] s := hK
  refine W.widen (k := 7) (n := 94) (Nat.le_of_ble_eq_true rfl) (Nat.le_of_ble_eq_true rfl) ?_
  refine va_putF (D := (dC, dI)) (ci := 2) (v := .ref q_13) (ty := (.array .long)) (C := RX2) (T := TX2) (N := 12) hx hb hts (fun w h => wM_c (iX2 w h)) tyX2 tyX2_ok nmX2 hown hK hP hD hS 0 rfl rfl 8 (by decide) (hts _ (wM_c wd_454)) (fun _ h9 => h9) rfl hin rfl (by decide +kernel) rfl rfl (Nat.le_of_ble_eq_true rfl) dX2_init_57 (fun H locs hP hD hS => ?_)
  obtain ⟨hP, hD⟩ : s3_w (dC, dI) classes A [(fw, .inr (2, [.ref q_1, .null, .null, .ref q_3, .ref q_5, .ref q_7, .ref q_9, .ref q_11, .ref q_13, .null, .null, .null])), (q_1, .inl (k_2, 14, .inl (fun _ => 0))), (q_3, .inl (k_4, 14, .inr (.inl (fun _ => 0)))), (q_5, .inl (k_6, 14, .inr (.inl (fun _ => 0)))), (q_7, .inl (k_8, 14, .inr (.inl (fun _ => 0)))), (q_9, .inl (k_10, 14, .inr (.inl (fun _ => 0)))), (q_11, .inl (k_12, 14, .inr (.inl (fun _ => 0)))), (q_13, .inl (k_14, 10, .inr (.inl (fun _ => 0))))] H := ⟨hP, hD⟩
  refine lv_aload_n hx hb dX2_init_60 rfl (lv_at hl 0 rfl) ?_
  refine lv_bipush (v := 10) hx hb dX2_init_61 (by decide) ?_
  refine va_newa (atype := .int) (a0 := (10, .inl (fun _ => 0))) (ty := .int) hx hb (hts _ (wM_c wd_237)) rfl hK hP hD hS hA (fun _ => rfl) (by decide) rfl (by decide) (Nat.le_of_ble_eq_true rfl) (Nat.le_of_ble_eq_true rfl) dX2_init_63 (fun q_15 k_16 H hK hP hD hS => ?_)
  obtain ⟨hP, hD⟩ : s3_w (dC, dI) classes A [(fw, .inr (2, [.ref q_1, .null, .null, .ref q_3, .ref q_5, .ref q_7, .ref q_9, .ref q_11, .ref q_13, .null, .null, .null])), (q_1, .inl (k_2, 14, .inl (fun _ => 0))), (q_3, .inl (k_4, 14, .inr (.inl (fun _ => 0)))), (q_5, .inl (k_6, 14, .inr (.inl (fun _ => 0)))), (q_7, .inl (k_8, 14, .inr (.inl (fun _ => 0)))), (q_9, .inl (k_10, 14, .inr (.inl (fun _ => 0)))), (q_11, .inl (k_12, 14, .inr (.inl (fun _ => 0)))), (q_13, .inl (k_14, 10, .inr (.inl (fun _ => 0)))), (q_15, .inl (k_16, 10, .inl (fun _ => 0)))] H := ⟨hP, hD⟩
  have hK : va_K (dC, dI) classes [(k_2, .int), (k_4, .long), (k_6, .long), (k_8, .long), (k_10, .long), (k_12, .long), (k_14, .long), (k_16, .int)] s := hK
  refine W.widen (k := 8) (n := 104) (Nat.le_of_ble_eq_true rfl) (Nat.le_of_ble_eq_true rfl) ?_
  refine va_putF (D := (dC, dI)) (ci := 2) (v := .ref q_15) (ty := (.array .int)) (C := RX2) (T := TX2) (N := 12) hx hb hts (fun w h => wM_c (iX2 w h)) tyX2 tyX2_ok nmX2 hown hK hP hD hS 0 rfl rfl 9 (by decide) (hts _ (wM_c wd_455)) (fun _ h9 => h9) rfl hin rfl (by decide +kernel) rfl rfl (Nat.le_of_ble_eq_true rfl) dX2_init_65 (fun H locs hP hD hS => ?_)
  obtain ⟨hP, hD⟩ : s3_w (dC, dI) classes A [(fw, .inr (2, [.ref q_1, .null, .null, .ref q_3, .ref q_5, .ref q_7, .ref q_9, .ref q_11, .ref q_13, .ref q_15, .null, .null])), (q_1, .inl (k_2, 14, .inl (fun _ => 0))), (q_3, .inl (k_4, 14, .inr (.inl (fun _ => 0)))), (q_5, .inl (k_6, 14, .inr (.inl (fun _ => 0)))), (q_7, .inl (k_8, 14, .inr (.inl (fun _ => 0)))), (q_9, .inl (k_10, 14, .inr (.inl (fun _ => 0)))), (q_11, .inl (k_12, 14, .inr (.inl (fun _ => 0)))), (q_13, .inl (k_14, 10, .inr (.inl (fun _ => 0)))), (q_15, .inl (k_16, 10, .inl (fun _ => 0)))] H := ⟨hP, hD⟩
  refine lv_aload_n hx hb dX2_init_68 rfl (lv_at hl 0 rfl) ?_
  refine lv_bipush (v := 10) hx hb dX2_init_69 (by decide) ?_
  refine va_newa (atype := .int) (a0 := (10, .inl (fun _ => 0))) (ty := .int) hx hb (hts _ (wM_c wd_237)) rfl hK hP hD hS hA (fun _ => rfl) (by decide) rfl (by decide) (Nat.le_of_ble_eq_true rfl) (Nat.le_of_ble_eq_true rfl) dX2_init_71 (fun q_17 k_18 H hK hP hD hS => ?_)
  obtain ⟨hP, hD⟩ : s3_w (dC, dI) classes A [(fw, .inr (2, [.ref q_1, .null, .null, .ref q_3, .ref q_5, .ref q_7, .ref q_9, .ref q_11, .ref q_13, .ref q_15, .null, .null])), (q_1, .inl (k_2, 14, .inl (fun _ => 0))), (q_3, .inl (k_4, 14, .inr (.inl (fun _ => 0)))), (q_5, .inl (k_6, 14, .inr (.inl (fun _ => 0)))), (q_7, .inl (k_8, 14, .inr (.inl (fun _ => 0)))), (q_9, .inl (k_10, 14, .inr (.inl (fun _ => 0)))), (q_11, .inl (k_12, 14, .inr (.inl (fun _ => 0)))), (q_13, .inl (k_14, 10, .inr (.inl (fun _ => 0)))), (q_15, .inl (k_16, 10, .inl (fun _ => 0))), (q_17, .inl (k_18, 10, .inl (fun _ => 0)))] H := ⟨hP, hD⟩
  have hK : va_K (dC, dI) classes [(k_2, .int), (k_4, .long), (k_6, .long), (k_8, .long), (k_10, .long), (k_12, .long), (k_14, .long), (k_16, .int), (k_18, .int)] s := hK
  refine W.widen (k := 9) (n := 114) (Nat.le_of_ble_eq_true rfl) (Nat.le_of_ble_eq_true rfl) ?_
  refine va_putF (D := (dC, dI)) (ci := 2) (v := .ref q_17) (ty := (.array .int)) (C := RX2) (T := TX2) (N := 12) hx hb hts (fun w h => wM_c (iX2 w h)) tyX2 tyX2_ok nmX2 hown hK hP hD hS 0 rfl rfl 10 (by decide) (hts _ (wM_c wd_456)) (fun _ h9 => h9) rfl hin rfl (by decide +kernel) rfl rfl (Nat.le_of_ble_eq_true rfl) dX2_init_73 (fun H locs hP hD hS => ?_)
  obtain ⟨hP, hD⟩ : s3_w (dC, dI) classes A [(fw, .inr (2, [.ref q_1, .null, .null, .ref q_3, .ref q_5, .ref q_7, .ref q_9, .ref q_11, .ref q_13, .ref q_15, .ref q_17, .null])), (q_1, .inl (k_2, 14, .inl (fun _ => 0))), (q_3, .inl (k_4, 14, .inr (.inl (fun _ => 0)))), (q_5, .inl (k_6, 14, .inr (.inl (fun _ => 0)))), (q_7, .inl (k_8, 14, .inr (.inl (fun _ => 0)))), (q_9, .inl (k_10, 14, .inr (.inl (fun _ => 0)))), (q_11, .inl (k_12, 14, .inr (.inl (fun _ => 0)))), (q_13, .inl (k_14, 10, .inr (.inl (fun _ => 0)))), (q_15, .inl (k_16, 10, .inl (fun _ => 0))), (q_17, .inl (k_18, 10, .inl (fun _ => 0)))] H := ⟨hP, hD⟩
  refine lv_aload_n hx hb dX2_init_76 rfl (lv_at hl 0 rfl) ?_
  refine lv_bipush (v := 10) hx hb dX2_init_77 (by decide) ?_
  refine va_newa (atype := .int) (a0 := (10, .inl (fun _ => 0))) (ty := .int) hx hb (hts _ (wM_c wd_237)) rfl hK hP hD hS hA (fun _ => rfl) (by decide) rfl (by decide) (Nat.le_of_ble_eq_true rfl) (Nat.le_of_ble_eq_true rfl) dX2_init_79 (fun q_19 k_20 H hK hP hD hS => ?_)
  obtain ⟨hP, hD⟩ : s3_w (dC, dI) classes A [(fw, .inr (2, [.ref q_1, .null, .null, .ref q_3, .ref q_5, .ref q_7, .ref q_9, .ref q_11, .ref q_13, .ref q_15, .ref q_17, .null])), (q_1, .inl (k_2, 14, .inl (fun _ => 0))), (q_3, .inl (k_4, 14, .inr (.inl (fun _ => 0)))), (q_5, .inl (k_6, 14, .inr (.inl (fun _ => 0)))), (q_7, .inl (k_8, 14, .inr (.inl (fun _ => 0)))), (q_9, .inl (k_10, 14, .inr (.inl (fun _ => 0)))), (q_11, .inl (k_12, 14, .inr (.inl (fun _ => 0)))), (q_13, .inl (k_14, 10, .inr (.inl (fun _ => 0)))), (q_15, .inl (k_16, 10, .inl (fun _ => 0))), (q_17, .inl (k_18, 10, .inl (fun _ => 0))), (q_19, .inl (k_20, 10, .inl (fun _ => 0)))] H := ⟨hP, hD⟩
  have hK : va_K (dC, dI) classes [(k_2, .int), (k_4, .long), (k_6, .long), (k_8, .long), (k_10, .long), (k_12, .long), (k_14, .long), (k_16, .int), (k_18, .int), (k_20, .int)] s := hK
  refine W.widen (k := 10) (n := 124) (Nat.le_of_ble_eq_true rfl) (Nat.le_of_ble_eq_true rfl) ?_
  refine va_putF (D := (dC, dI)) (ci := 2) (v := .ref q_19) (ty := (.array .int)) (C := RX2) (T := TX2) (N := 12) hx hb hts (fun w h => wM_c (iX2 w h)) tyX2 tyX2_ok nmX2 hown hK hP hD hS 0 rfl rfl 11 (by decide) (hts _ (wM_c wd_457)) (fun _ h9 => h9) rfl hin rfl (by decide +kernel) rfl rfl (Nat.le_of_ble_eq_true rfl) dX2_init_81 (fun H locs hP hD hS => ?_)
  obtain ⟨hP, hD⟩ : s3_w (dC, dI) classes A [(fw, .inr (2, [.ref q_1, .null, .null, .ref q_3, .ref q_5, .ref q_7, .ref q_9, .ref q_11, .ref q_13, .ref q_15, .ref q_17, .ref q_19])), (q_1, .inl (k_2, 14, .inl (fun _ => 0))), (q_3, .inl (k_4, 14, .inr (.inl (fun _ => 0)))), (q_5, .inl (k_6, 14, .inr (.inl (fun _ => 0)))), (q_7, .inl (k_8, 14, .inr (.inl (fun _ => 0)))), (q_9, .inl (k_10, 14, .inr (.inl (fun _ => 0)))), (q_11, .inl (k_12, 14, .inr (.inl (fun _ => 0)))), (q_13, .inl (k_14, 10, .inr (.inl (fun _ => 0)))), (q_15, .inl (k_16, 10, .inl (fun _ => 0))), (q_17, .inl (k_18, 10, .inl (fun _ => 0))), (q_19, .inl (k_20, 10, .inl (fun _ => 0)))] H := ⟨hP, hD⟩
  refine lv_aload_n hx hb dX2_init_84 rfl (lv_at hl 0 rfl) ?_
  refine lv_aload_n hx hb dX2_init_85 rfl (lv_at hl 1 rfl) ?_
  refine va_putF (D := (dC, dI)) (ci := 2) (v := .ref bk) (ty := (.object "MineAir$Book")) (C := RX2) (T := TX2) (N := 12) hx hb hts (fun w h => wM_c (iX2 w h)) tyX2 tyX2_ok nmX2 hown hK hP hD hS 0 rfl rfl 1 (by decide) (hts _ (wM_c wd_447)) (fun _ h9 => h9) rfl hin rfl (by decide +kernel) rfl rfl (Nat.le_of_ble_eq_true rfl) dX2_init_86 (fun H locs hP hD hS => ?_)
  obtain ⟨hP, hD⟩ : s3_w (dC, dI) classes A [(fw, .inr (2, [.ref q_1, .ref bk, .null, .ref q_3, .ref q_5, .ref q_7, .ref q_9, .ref q_11, .ref q_13, .ref q_15, .ref q_17, .ref q_19])), (q_1, .inl (k_2, 14, .inl (fun _ => 0))), (q_3, .inl (k_4, 14, .inr (.inl (fun _ => 0)))), (q_5, .inl (k_6, 14, .inr (.inl (fun _ => 0)))), (q_7, .inl (k_8, 14, .inr (.inl (fun _ => 0)))), (q_9, .inl (k_10, 14, .inr (.inl (fun _ => 0)))), (q_11, .inl (k_12, 14, .inr (.inl (fun _ => 0)))), (q_13, .inl (k_14, 10, .inr (.inl (fun _ => 0)))), (q_15, .inl (k_16, 10, .inl (fun _ => 0))), (q_17, .inl (k_18, 10, .inl (fun _ => 0))), (q_19, .inl (k_20, 10, .inl (fun _ => 0)))] H := ⟨hP, hD⟩
  refine lv_aload_n hx hb dX2_init_89 rfl (lv_at hl 0 rfl) ?_
  refine lv_aload_n hx hb dX2_init_90 rfl (lv_at hl 2 rfl) ?_
  refine va_putF (D := (dC, dI)) (ci := 2) (v := .ref st) (ty := (.object "MineAir$State")) (C := RX2) (T := TX2) (N := 12) hx hb hts (fun w h => wM_c (iX2 w h)) tyX2 tyX2_ok nmX2 hown hK hP hD hS 0 rfl rfl 2 (by decide) (hts _ (wM_c wd_448)) (fun _ h9 => h9) rfl hin rfl (by decide +kernel) rfl rfl (Nat.le_of_ble_eq_true rfl) dX2_init_91 (fun H locs hP hD hS => ?_)
  obtain ⟨hP, hD⟩ : s3_w (dC, dI) classes A [(fw, .inr (2, [.ref q_1, .ref bk, .ref st, .ref q_3, .ref q_5, .ref q_7, .ref q_9, .ref q_11, .ref q_13, .ref q_15, .ref q_17, .ref q_19])), (q_1, .inl (k_2, 14, .inl (fun _ => 0))), (q_3, .inl (k_4, 14, .inr (.inl (fun _ => 0)))), (q_5, .inl (k_6, 14, .inr (.inl (fun _ => 0)))), (q_7, .inl (k_8, 14, .inr (.inl (fun _ => 0)))), (q_9, .inl (k_10, 14, .inr (.inl (fun _ => 0)))), (q_11, .inl (k_12, 14, .inr (.inl (fun _ => 0)))), (q_13, .inl (k_14, 10, .inr (.inl (fun _ => 0)))), (q_15, .inl (k_16, 10, .inl (fun _ => 0))), (q_17, .inl (k_18, 10, .inl (fun _ => 0))), (q_19, .inl (k_20, 10, .inl (fun _ => 0)))] H := ⟨hP, hD⟩
  have hK9 := hK.sub (tys' := [(k_2, .int), (k_4, .long), (k_6, .long), (k_8, .long), (k_10, .long), (k_12, .long), (k_14, .long), (k_16, .int), (k_18, .int), (k_20, .int)]) [0, 1, 2, 3, 4, 5, 6, 7, 8, 9] rfl
  exact W.vret hx hb hr (fun t ht hW => ⟨⟨(), rfl, trivial, q_1, q_3, q_5, q_7, q_9, q_11, q_13, q_15, q_17, q_19, k_2, k_4, k_6, k_8, k_10, k_12, k_14, k_16, k_18, k_20, by rw [ht]; exact hP.sub [0, 1, 2, 3, 4, 5, 6, 7, 8, 9, 10] rfl, va_K.moved hW.alike hK9, hD.sub [0, 1, 2, 3, 4, 5, 6, 7, 8, 9, 10] (by decide) rfl⟩, hS.F ht⟩) hS.2.2 dX2_init_94
set_option maxHeartbeats 4000000 in
set_option maxRecDepth 100000 in
theorem n_Load (l : Launch) (dC : Nat → ClassId) (dI : Nat → Nat → Nat) (n0 : Nat) (atx : Nat → Nat × Nat) (sz : Nat) (ld : Nat) (bk : Nat) : Met l yX5_init (wM yX5_init cX5_init 2 none) ({ frames := 1, cells := 4, slots := 48, locals := 12 }) (va_Pc [.ref ld, .ref bk] (fun U => U.heap.size = sz ∧ n0 ≤ sz ∧ GW n0 atx U ∧ va_P (dC, dI) classes [(ld, .inr (5, [.null, .int 0, .null, .null, .null, .null]))] U.heap ∧ va_K (dC, dI) classes [] U ∧ va_D (fun q => n0 ≤ q) [(ld, .inr (5, [.null, .int 0, .null, .null, .null, .null]))])) (va_Qv (fun _ : Unit => True) (fun (_ : Unit) (t : State) => ∃ (ld_gas : Nat), ∃ (ld_coming : Nat), ∃ (ld_waiting : Nat), ∃ (ld_rest : Nat), ∃ (k_ld_gas : ClassId), ∃ (k_ld_coming : ClassId), ∃ (k_ld_waiting : ClassId), ∃ (k_ld_rest : ClassId), va_P (dC, dI) classes [(ld, .inr (5, [.ref ld_gas, .int 0, .ref bk, .ref ld_coming, .ref ld_waiting, .ref ld_rest])), (ld_gas, .inl (k_ld_gas, 14, .inl (fun _ => 0))), (ld_coming, .inl (k_ld_coming, 10, .inl (fun _ => 0))), (ld_waiting, .inl (k_ld_waiting, 10, .inl (fun _ => 0))), (ld_rest, .inl (k_ld_rest, 14, .inl (fun _ => 0)))] t.heap ∧ va_K (dC, dI) classes [(k_ld_gas, .int), (k_ld_coming, .int), (k_ld_waiting, .int), (k_ld_rest, .int)] t ∧ va_D (va_A [(ld, .inr (5, [.null, .int 0, .null, .null, .null, .null]))] sz) [(ld, .inr (5, [.ref ld_gas, .int 0, .ref bk, .ref ld_coming, .ref ld_waiting, .ref ld_rest])), (ld_gas, .inl (k_ld_gas, 14, .inl (fun _ => 0))), (ld_coming, .inl (k_ld_coming, 10, .inl (fun _ => 0))), (ld_waiting, .inl (k_ld_waiting, 10, .inl (fun _ => 0))), (ld_rest, .inl (k_ld_rest, 14, .inl (fun _ => 0)))]) (va_A [(ld, .inr (5, [.null, .int 0, .null, .null, .null, .null]))] sz)) 4 48 (va_A [(ld, .inr (5, [.null, .int 0, .null, .null, .null, .null]))] sz) := by
  refine Met.ofW (cc := cX5_init) (maxL := 2) (ret := none) (by decide) rfl ?_
  intro p e s m args below meth c s₁ B hml hv
  obtain ⟨rfl, hsz, hn0, hG, hP, hK, hD0⟩ := hv
  have hx := B.exec
  have hb := B.bytes
  have hr := B.returns
  have hts := atoms_spec (ws := wM yX5_init cX5_init 2 none) B.pre
  have hown : s.vm.findClass RX5 = some m.cls := findClass_of_methodNamed B.named
  have hlocks := B.notSynchronized
  have hin : meth.name = "<init>" := (name_of_methodNamed B.named B.method).1
  subst hsz
  have hD := hD0.self (sz := s.heap.size)
  have hA0 := vA_n0 hD0 hn0
  generalize hAe : va_A [(ld, .inr (5, [.null, .int 0, .null, .null, .null, .null]))] s.heap.size = A at hD hA0 ⊢
  have hA : ∀ q : Nat, s.heap.size ≤ q → A q := fun q h => by rw [← hAe]; exact Or.inr h
  have hS : va_S A s.heap s.heap [] := va_S.rf
  have hl := lv_entry ([.ref ld, .ref bk]) (n := 2) (Nat.le_of_ble_eq_true rfl)
  rw [lg_entry_eq]
  generalize (lg_sl ([.ref ld, .ref bk]) ++ List.replicate (2 - (lg_sl ([.ref ld, .ref bk])).length) Slot.unset).toArray = ls at hl ⊢
  have hl : lv_has ls 2 [(0, .ref ld), (1, .ref bk)] := hl
  refine lv_aload_n hx hb dX5_init_0 rfl (lv_at hl 0 rfl) ?_
  refine W.objInit hx hb hown (hts _ (wM_c wd_488)) (hts _ (wM_c wd_146)) (hts _ (wM_c wd_objInit)) rfl (by rw [hml]; exact hl.1) rfl dX5_init_1 (Nat.le_of_ble_eq_true rfl) (Nat.le_of_ble_eq_true rfl) ?_
  refine W.eq (g2 := F0 m 4 ls []) rfl ?_
  refine lv_aload_n hx hb dX5_init_4 rfl (lv_at hl 0 rfl) ?_
  refine lv_bipush (v := 14) hx hb dX5_init_5 (by decide) ?_
  refine va_newa (atype := .int) (a0 := (14, .inl (fun _ => 0))) (ty := .int) hx hb (hts _ (wM_c wd_237)) rfl hK hP hD hS hA (fun _ => rfl) (by decide) rfl (by decide) (Nat.le_of_ble_eq_true rfl) (Nat.le_of_ble_eq_true rfl) dX5_init_7 (fun q_1 k_2 H hK hP hD hS => ?_)
  obtain ⟨hP, hD⟩ : s3_w (dC, dI) classes A [(ld, .inr (5, [.null, .int 0, .null, .null, .null, .null])), (q_1, .inl (k_2, 14, .inl (fun _ => 0)))] H := ⟨hP, hD⟩
  have hK : va_K (dC, dI) classes [(k_2, .int)] s := hK
  refine W.widen (k := 1) (n := 14) (Nat.le_of_ble_eq_true rfl) (Nat.le_of_ble_eq_true rfl) ?_
  refine va_putF (D := (dC, dI)) (ci := 5) (v := .ref q_1) (ty := (.array .int)) (C := RX5) (T := TX5) (N := 6) hx hb hts (fun w h => wM_c (iX5 w h)) tyX5 tyX5_ok nmX5 hown hK hP hD hS 0 rfl rfl 0 (by decide) (hts _ (wM_c wd_489)) (fun _ h9 => h9) rfl hin rfl (by decide +kernel) rfl rfl (Nat.le_of_ble_eq_true rfl) dX5_init_9 (fun H locs hP hD hS => ?_)
  obtain ⟨hP, hD⟩ : s3_w (dC, dI) classes A [(ld, .inr (5, [.ref q_1, .int 0, .null, .null, .null, .null])), (q_1, .inl (k_2, 14, .inl (fun _ => 0)))] H := ⟨hP, hD⟩
  refine lv_aload_n hx hb dX5_init_12 rfl (lv_at hl 0 rfl) ?_
  refine lv_bipush (v := 10) hx hb dX5_init_13 (by decide) ?_
  refine va_newa (atype := .int) (a0 := (10, .inl (fun _ => 0))) (ty := .int) hx hb (hts _ (wM_c wd_237)) rfl hK hP hD hS hA (fun _ => rfl) (by decide) rfl (by decide) (Nat.le_of_ble_eq_true rfl) (Nat.le_of_ble_eq_true rfl) dX5_init_15 (fun q_3 k_4 H hK hP hD hS => ?_)
  obtain ⟨hP, hD⟩ : s3_w (dC, dI) classes A [(ld, .inr (5, [.ref q_1, .int 0, .null, .null, .null, .null])), (q_1, .inl (k_2, 14, .inl (fun _ => 0))), (q_3, .inl (k_4, 10, .inl (fun _ => 0)))] H := ⟨hP, hD⟩
  have hK : va_K (dC, dI) classes [(k_2, .int), (k_4, .int)] s := hK
  refine W.widen (k := 2) (n := 24) (Nat.le_of_ble_eq_true rfl) (Nat.le_of_ble_eq_true rfl) ?_
  refine va_putF (D := (dC, dI)) (ci := 5) (v := .ref q_3) (ty := (.array .int)) (C := RX5) (T := TX5) (N := 6) hx hb hts (fun w h => wM_c (iX5 w h)) tyX5 tyX5_ok nmX5 hown hK hP hD hS 0 rfl rfl 3 (by decide) (hts _ (wM_c wd_496)) (fun _ h9 => h9) rfl hin rfl (by decide +kernel) rfl rfl (Nat.le_of_ble_eq_true rfl) dX5_init_17 (fun H locs hP hD hS => ?_)
  obtain ⟨hP, hD⟩ : s3_w (dC, dI) classes A [(ld, .inr (5, [.ref q_1, .int 0, .null, .ref q_3, .null, .null])), (q_1, .inl (k_2, 14, .inl (fun _ => 0))), (q_3, .inl (k_4, 10, .inl (fun _ => 0)))] H := ⟨hP, hD⟩
  refine lv_aload_n hx hb dX5_init_20 rfl (lv_at hl 0 rfl) ?_
  refine lv_bipush (v := 10) hx hb dX5_init_21 (by decide) ?_
  refine va_newa (atype := .int) (a0 := (10, .inl (fun _ => 0))) (ty := .int) hx hb (hts _ (wM_c wd_237)) rfl hK hP hD hS hA (fun _ => rfl) (by decide) rfl (by decide) (Nat.le_of_ble_eq_true rfl) (Nat.le_of_ble_eq_true rfl) dX5_init_23 (fun q_5 k_6 H hK hP hD hS => ?_)
  obtain ⟨hP, hD⟩ : s3_w (dC, dI) classes A [(ld, .inr (5, [.ref q_1, .int 0, .null, .ref q_3, .null, .null])), (q_1, .inl (k_2, 14, .inl (fun _ => 0))), (q_3, .inl (k_4, 10, .inl (fun _ => 0))), (q_5, .inl (k_6, 10, .inl (fun _ => 0)))] H := ⟨hP, hD⟩
  have hK : va_K (dC, dI) classes [(k_2, .int), (k_4, .int), (k_6, .int)] s := hK
  refine W.widen (k := 3) (n := 34) (Nat.le_of_ble_eq_true rfl) (Nat.le_of_ble_eq_true rfl) ?_
  refine va_putF (D := (dC, dI)) (ci := 5) (v := .ref q_5) (ty := (.array .int)) (C := RX5) (T := TX5) (N := 6) hx hb hts (fun w h => wM_c (iX5 w h)) tyX5 tyX5_ok nmX5 hown hK hP hD hS 0 rfl rfl 4 (by decide) (hts _ (wM_c wd_497)) (fun _ h9 => h9) rfl hin rfl (by decide +kernel) rfl rfl (Nat.le_of_ble_eq_true rfl) dX5_init_25 (fun H locs hP hD hS => ?_)
  obtain ⟨hP, hD⟩ : s3_w (dC, dI) classes A [(ld, .inr (5, [.ref q_1, .int 0, .null, .ref q_3, .ref q_5, .null])), (q_1, .inl (k_2, 14, .inl (fun _ => 0))), (q_3, .inl (k_4, 10, .inl (fun _ => 0))), (q_5, .inl (k_6, 10, .inl (fun _ => 0)))] H := ⟨hP, hD⟩
  refine lv_aload_n hx hb dX5_init_28 rfl (lv_at hl 0 rfl) ?_
  refine lv_bipush (v := 14) hx hb dX5_init_29 (by decide) ?_
  refine va_newa (atype := .int) (a0 := (14, .inl (fun _ => 0))) (ty := .int) hx hb (hts _ (wM_c wd_237)) rfl hK hP hD hS hA (fun _ => rfl) (by decide) rfl (by decide) (Nat.le_of_ble_eq_true rfl) (Nat.le_of_ble_eq_true rfl) dX5_init_31 (fun q_7 k_8 H hK hP hD hS => ?_)
  obtain ⟨hP, hD⟩ : s3_w (dC, dI) classes A [(ld, .inr (5, [.ref q_1, .int 0, .null, .ref q_3, .ref q_5, .null])), (q_1, .inl (k_2, 14, .inl (fun _ => 0))), (q_3, .inl (k_4, 10, .inl (fun _ => 0))), (q_5, .inl (k_6, 10, .inl (fun _ => 0))), (q_7, .inl (k_8, 14, .inl (fun _ => 0)))] H := ⟨hP, hD⟩
  have hK : va_K (dC, dI) classes [(k_2, .int), (k_4, .int), (k_6, .int), (k_8, .int)] s := hK
  refine W.widen (k := 4) (n := 48) (Nat.le_of_ble_eq_true rfl) (Nat.le_of_ble_eq_true rfl) ?_
  refine va_putF (D := (dC, dI)) (ci := 5) (v := .ref q_7) (ty := (.array .int)) (C := RX5) (T := TX5) (N := 6) hx hb hts (fun w h => wM_c (iX5 w h)) tyX5 tyX5_ok nmX5 hown hK hP hD hS 0 rfl rfl 5 (by decide) (hts _ (wM_c wd_498)) (fun _ h9 => h9) rfl hin rfl (by decide +kernel) rfl rfl (Nat.le_of_ble_eq_true rfl) dX5_init_33 (fun H locs hP hD hS => ?_)
  obtain ⟨hP, hD⟩ : s3_w (dC, dI) classes A [(ld, .inr (5, [.ref q_1, .int 0, .null, .ref q_3, .ref q_5, .ref q_7])), (q_1, .inl (k_2, 14, .inl (fun _ => 0))), (q_3, .inl (k_4, 10, .inl (fun _ => 0))), (q_5, .inl (k_6, 10, .inl (fun _ => 0))), (q_7, .inl (k_8, 14, .inl (fun _ => 0)))] H := ⟨hP, hD⟩
  refine lv_aload_n hx hb dX5_init_36 rfl (lv_at hl 0 rfl) ?_
  refine lv_aload_n hx hb dX5_init_37 rfl (lv_at hl 1 rfl) ?_
  refine va_putF (D := (dC, dI)) (ci := 5) (v := .ref bk) (ty := (.object "MineAir$Book")) (C := RX5) (T := TX5) (N := 6) hx hb hts (fun w h => wM_c (iX5 w h)) tyX5 tyX5_ok nmX5 hown hK hP hD hS 0 rfl rfl 2 (by decide) (hts _ (wM_c wd_495)) (fun _ h9 => h9) rfl hin rfl (by decide +kernel) rfl rfl (Nat.le_of_ble_eq_true rfl) dX5_init_38 (fun H locs hP hD hS => ?_)
  obtain ⟨hP, hD⟩ : s3_w (dC, dI) classes A [(ld, .inr (5, [.ref q_1, .int 0, .ref bk, .ref q_3, .ref q_5, .ref q_7])), (q_1, .inl (k_2, 14, .inl (fun _ => 0))), (q_3, .inl (k_4, 10, .inl (fun _ => 0))), (q_5, .inl (k_6, 10, .inl (fun _ => 0))), (q_7, .inl (k_8, 14, .inl (fun _ => 0)))] H := ⟨hP, hD⟩
  have hK9 := hK.sub (tys' := [(k_2, .int), (k_4, .int), (k_6, .int), (k_8, .int)]) [0, 1, 2, 3] rfl
  exact W.vret hx hb hr (fun t ht hW => ⟨⟨(), rfl, trivial, q_1, q_3, q_5, q_7, k_2, k_4, k_6, k_8, by rw [ht]; exact hP.sub [0, 1, 2, 3, 4] rfl, va_K.moved hW.alike hK9, hD.sub [0, 1, 2, 3, 4] (by decide) rfl⟩, hS.F ht⟩) hS.2.2 dX5_init_41
set_option maxHeartbeats 4000000 in
set_option maxRecDepth 100000 in
theorem n_Judge (l : Launch) (dC : Nat → ClassId) (dI : Nat → Nat → Nat) (n0 : Nat) (atx : Nat → Nat × Nat) (sz : Nat) (jd : Nat) (bk : Nat) (st : Nat) : Met l yX4_init (wM yX4_init cX4_init 3 none) ({ frames := 2, cells := 16, slots := 190, locals := 34 }) (va_Pc [.ref jd, .ref bk, .ref st] (fun U => U.heap.size = sz ∧ n0 ≤ sz ∧ GW n0 atx U ∧ va_P (dC, dI) classes [(jd, .inr (4, [.null, .null, .null, .null, .int 0, .int 0]))] U.heap ∧ va_K (dC, dI) classes [] U ∧ va_D (fun q => n0 ≤ q) [(jd, .inr (4, [.null, .null, .null, .null, .int 0, .int 0]))])) (va_Qv (fun _ : Unit => True) (fun (_ : Unit) (t : State) => ∃ (fw : Nat), ∃ (ld : Nat), ∃ (fw_air : Nat), ∃ (fw_hindrance : Nat), ∃ (fw_pull : Nat), ∃ (fw_droop : Nat), ∃ (fw_forth : Nat), ∃ (fw_back : Nat), ∃ (fw_label : Nat), ∃ (fw_cause : Nat), ∃ (fw_seen : Nat), ∃ (fw_round : Nat), ∃ (ld_gas : Nat), ∃ (ld_coming : Nat), ∃ (ld_waiting : Nat), ∃ (ld_rest : Nat), ∃ (k_fw_air : ClassId), ∃ (k_fw_hindrance : ClassId), ∃ (k_fw_pull : ClassId), ∃ (k_fw_droop : ClassId), ∃ (k_fw_forth : ClassId), ∃ (k_fw_back : ClassId), ∃ (k_fw_label : ClassId), ∃ (k_fw_cause : ClassId), ∃ (k_fw_seen : ClassId), ∃ (k_fw_round : ClassId), ∃ (k_ld_gas : ClassId), ∃ (k_ld_coming : ClassId), ∃ (k_ld_waiting : ClassId), ∃ (k_ld_rest : ClassId), va_P (dC, dI) classes [(jd, .inr (4, [.ref fw, .ref ld, .ref bk, .ref st, .int 0, .int 0])), (fw, .inr (2, [.ref fw_air, .ref bk, .ref st, .ref fw_hindrance, .ref fw_pull, .ref fw_droop, .ref fw_forth, .ref fw_back, .ref fw_label, .ref fw_cause, .ref fw_seen, .ref fw_round])), (fw_air, .inl (k_fw_air, 14, .inl (fun _ => 0))), (fw_hindrance, .inl (k_fw_hindrance, 14, .inr (.inl (fun _ => 0)))), (fw_pull, .inl (k_fw_pull, 14, .inr (.inl (fun _ => 0)))), (fw_droop, .inl (k_fw_droop, 14, .inr (.inl (fun _ => 0)))), (fw_forth, .inl (k_fw_forth, 14, .inr (.inl (fun _ => 0)))), (fw_back, .inl (k_fw_back, 14, .inr (.inl (fun _ => 0)))), (fw_label, .inl (k_fw_label, 10, .inr (.inl (fun _ => 0)))), (fw_cause, .inl (k_fw_cause, 10, .inl (fun _ => 0))), (fw_seen, .inl (k_fw_seen, 10, .inl (fun _ => 0))), (fw_round, .inl (k_fw_round, 10, .inl (fun _ => 0))), (ld, .inr (5, [.ref ld_gas, .int 0, .ref bk, .ref ld_coming, .ref ld_waiting, .ref ld_rest])), (ld_gas, .inl (k_ld_gas, 14, .inl (fun _ => 0))), (ld_coming, .inl (k_ld_coming, 10, .inl (fun _ => 0))), (ld_waiting, .inl (k_ld_waiting, 10, .inl (fun _ => 0))), (ld_rest, .inl (k_ld_rest, 14, .inl (fun _ => 0)))] t.heap ∧ va_K (dC, dI) classes [(k_fw_air, .int), (k_fw_hindrance, .long), (k_fw_pull, .long), (k_fw_droop, .long), (k_fw_forth, .long), (k_fw_back, .long), (k_fw_label, .long), (k_fw_cause, .int), (k_fw_seen, .int), (k_fw_round, .int), (k_ld_gas, .int), (k_ld_coming, .int), (k_ld_waiting, .int), (k_ld_rest, .int)] t ∧ va_D (va_A [(jd, .inr (4, [.null, .null, .null, .null, .int 0, .int 0]))] sz) [(jd, .inr (4, [.ref fw, .ref ld, .ref bk, .ref st, .int 0, .int 0])), (fw, .inr (2, [.ref fw_air, .ref bk, .ref st, .ref fw_hindrance, .ref fw_pull, .ref fw_droop, .ref fw_forth, .ref fw_back, .ref fw_label, .ref fw_cause, .ref fw_seen, .ref fw_round])), (fw_air, .inl (k_fw_air, 14, .inl (fun _ => 0))), (fw_hindrance, .inl (k_fw_hindrance, 14, .inr (.inl (fun _ => 0)))), (fw_pull, .inl (k_fw_pull, 14, .inr (.inl (fun _ => 0)))), (fw_droop, .inl (k_fw_droop, 14, .inr (.inl (fun _ => 0)))), (fw_forth, .inl (k_fw_forth, 14, .inr (.inl (fun _ => 0)))), (fw_back, .inl (k_fw_back, 14, .inr (.inl (fun _ => 0)))), (fw_label, .inl (k_fw_label, 10, .inr (.inl (fun _ => 0)))), (fw_cause, .inl (k_fw_cause, 10, .inl (fun _ => 0))), (fw_seen, .inl (k_fw_seen, 10, .inl (fun _ => 0))), (fw_round, .inl (k_fw_round, 10, .inl (fun _ => 0))), (ld, .inr (5, [.ref ld_gas, .int 0, .ref bk, .ref ld_coming, .ref ld_waiting, .ref ld_rest])), (ld_gas, .inl (k_ld_gas, 14, .inl (fun _ => 0))), (ld_coming, .inl (k_ld_coming, 10, .inl (fun _ => 0))), (ld_waiting, .inl (k_ld_waiting, 10, .inl (fun _ => 0))), (ld_rest, .inl (k_ld_rest, 14, .inl (fun _ => 0)))]) (va_A [(jd, .inr (4, [.null, .null, .null, .null, .int 0, .int 0]))] sz)) 16 190 (va_A [(jd, .inr (4, [.null, .null, .null, .null, .int 0, .int 0]))] sz) := by
  refine Met.ofW (cc := cX4_init) (maxL := 3) (ret := none) (by decide) rfl ?_
  intro p e s m args below meth c s₁ B hml hv
  obtain ⟨rfl, hsz, hn0, hG, hP, hK, hD0⟩ := hv
  have hx := B.exec
  have hb := B.bytes
  have hr := B.returns
  have hts := atoms_spec (ws := wM yX4_init cX4_init 3 none) B.pre
  have hown : s.vm.findClass RX4 = some m.cls := findClass_of_methodNamed B.named
  have hlocks := B.notSynchronized
  have hin : meth.name = "<init>" := (name_of_methodNamed B.named B.method).1
  subst hsz
  have hD := hD0.self (sz := s.heap.size)
  have hA0 := vA_n0 hD0 hn0
  generalize hAe : va_A [(jd, .inr (4, [.null, .null, .null, .null, .int 0, .int 0]))] s.heap.size = A at hD hA0 ⊢
  have hA : ∀ q : Nat, s.heap.size ≤ q → A q := fun q h => by rw [← hAe]; exact Or.inr h
  have hS : va_S A s.heap s.heap [] := va_S.rf
  have hl := lv_entry ([.ref jd, .ref bk, .ref st]) (n := 3) (Nat.le_of_ble_eq_true rfl)
  rw [lg_entry_eq]
  generalize (lg_sl ([.ref jd, .ref bk, .ref st]) ++ List.replicate (3 - (lg_sl ([.ref jd, .ref bk, .ref st])).length) Slot.unset).toArray = ls at hl ⊢
  have hl : lv_has ls 3 [(0, .ref jd), (1, .ref bk), (2, .ref st)] := hl
  refine lv_aload_n hx hb dX4_init_0 rfl (lv_at hl 0 rfl) ?_
  refine W.objInit hx hb hown (hts _ (wM_c wd_436)) (hts _ (wM_c wd_146)) (hts _ (wM_c wd_objInit)) rfl (by rw [hml]; exact hl.1) rfl dX4_init_1 (Nat.le_of_ble_eq_true rfl) (Nat.le_of_ble_eq_true rfl) ?_
  refine W.eq (g2 := F0 m 4 ls []) rfl ?_
  refine lv_aload_n hx hb dX4_init_4 rfl (lv_at hl 0 rfl) ?_
  refine lv_aload_n hx hb dX4_init_5 rfl (lv_at hl 1 rfl) ?_
  refine va_putF (D := (dC, dI)) (ci := 4) (v := .ref bk) (ty := (.object "MineAir$Book")) (C := RX4) (T := TX4) (N := 6) hx hb hts (fun w h => wM_c (iX4 w h)) tyX4 tyX4_ok nmX4 hown hK hP hD hS 0 rfl rfl 2 (by decide) (hts _ (wM_c wd_517)) (fun _ h9 => h9) rfl hin rfl (by decide +kernel) rfl rfl (Nat.le_of_ble_eq_true rfl) dX4_init_6 (fun H locs hP hD hS => ?_)
  obtain ⟨hP, hD⟩ : s3_w (dC, dI) classes A [(jd, .inr (4, [.null, .null, .ref bk, .null, .int 0, .int 0]))] H := ⟨hP, hD⟩
  refine lv_aload_n hx hb dX4_init_9 rfl (lv_at hl 0 rfl) ?_
  refine lv_aload_n hx hb dX4_init_10 rfl (lv_at hl 2 rfl) ?_
  refine va_putF (D := (dC, dI)) (ci := 4) (v := .ref st) (ty := (.object "MineAir$State")) (C := RX4) (T := TX4) (N := 6) hx hb hts (fun w h => wM_c (iX4 w h)) tyX4 tyX4_ok nmX4 hown hK hP hD hS 0 rfl rfl 3 (by decide) (hts _ (wM_c wd_518)) (fun _ h9 => h9) rfl hin rfl (by decide +kernel) rfl rfl (Nat.le_of_ble_eq_true rfl) dX4_init_11 (fun H locs hP hD hS => ?_)
  obtain ⟨hP, hD⟩ : s3_w (dC, dI) classes A [(jd, .inr (4, [.null, .null, .ref bk, .ref st, .int 0, .int 0]))] H := ⟨hP, hD⟩
  refine lv_aload_n hx hb dX4_init_14 rfl (lv_at hl 0 rfl) ?_
  refine va_new (ci := 2) (fs := [.null, .null, .null, .null, .null, .null, .null, .null, .null, .null, .null, .null]) (C := RX2) (T := TX2) (N := 12) hx hb hts (fun w h => wM_c (iX2 w h)) tyX2 tyX2_ok hown (hts _ (wM_c wd_437)) (hts _ (wM_c wd_438)) (hts _ (wM_c wd_120)) hK hP hD hS hA rfl dfX2 (Nat.le_of_ble_eq_true rfl) (Nat.le_of_ble_eq_true rfl) dX4_init_15 (fun q_1 H hP hD hS => ?_)
  obtain ⟨hP, hD⟩ : s3_w (dC, dI) classes A [(jd, .inr (4, [.null, .null, .ref bk, .ref st, .int 0, .int 0])), (q_1, .inr (2, [.null, .null, .null, .null, .null, .null, .null, .null, .null, .null, .null, .null]))] H := ⟨hP, hD⟩
  refine W.widen (k := 1) (n := 12) (Nat.le_of_ble_eq_true rfl) (Nat.le_of_ble_eq_true rfl) ?_
  refine lv_dup hx hb dX4_init_18 rfl ?_
  refine lv_aload_n hx hb dX4_init_19 rfl (lv_at hl 1 rfl) ?_
  refine lv_aload_n hx hb dX4_init_20 rfl (lv_at hl 2 rfl) ?_
  obtain ⟨hPc, hDc, hFc⟩ := s3_c (ws' := [(q_1, .inr (2, [.null, .null, .null, .null, .null, .null, .null, .null, .null, .null, .null, .null]))]) [1] hP hD hS hA rfl (by decide)
  have hKc := hK.sub (tys' := []) [] rfl
  refine va_callv (va_runI (As := [.ref bk, .ref st]) (rest := [.ref q_1, .ref jd]) ⟨hx, hb, hml, hown, hts⟩ (n_Flow l dC dI n0 atx H.size q_1 bk st ) (cwI 2 hts (gI (fun w h => wM_c h) wd_441) rfl rfl rfl (hts _ (wM_c wd_120)) (hts _ (wM_c wd_439)) (hts _ (wM_c wd_440)) rfl (by decide +kernel) ⟨Nat.le_of_ble_eq_true rfl, Nat.le_of_ble_eq_true rfl⟩) ⟨fun a U g mk q => by obtain ⟨q0, q1, q2, qG, qP, qK, qD⟩ := q; exact ⟨q0, q1, q2, GW.blind qG, qP, va_K.moved (u := U) (U := U.calling g mk a) (Vm.Alike.refl U.vm) qK, qD⟩, fun U hU hW => ⟨rfl, by rw [hU], Nat.le_trans hn0 hS.1, GW.go hW hU hG (fun q hq hA9 => hS.2.1 q hq (fun h => hA9 (hA0 q h))), by rw [hU]; exact hPc, va_K.moved hW.alike hKc, hDc.weaken (fun _ _ _ h => hA0 _ h)⟩⟩ rfl rfl hl.1 rfl (lv_room (Nat.le_of_ble_eq_true rfl)) dX4_init_21 ⟨Nat.le_of_ble_eq_true rfl, Nat.le_of_ble_eq_true rfl⟩) hS (fun q _ h => hFc q h) hFc (fun u t H1 locs ht hvm hw_5 hB hz1 hk1 hS => ?_)
  obtain ⟨fw_6, fw_7, fw_8, fw_9, fw_10, fw_11, fw_12, fw_13, fw_14, fw_15, k_16, k_17, k_18, k_19, k_20, k_21, k_22, k_23, k_24, k_25, hP1, hK1, hD1⟩ := hB
  rw [ht] at hP1
  obtain ⟨hP, hD⟩ := s3_j (L := [(jd, .inr (4, [.null, .null, .ref bk, .ref st, .int 0, .int 0])), (q_1, .inr (2, [.ref fw_6, .ref bk, .ref st, .ref fw_7, .ref fw_8, .ref fw_9, .ref fw_10, .ref fw_11, .ref fw_12, .ref fw_13, .ref fw_14, .ref fw_15])), (fw_6, .inl (k_16, 14, .inl (fun _ => 0))), (fw_7, .inl (k_17, 14, .inr (.inl (fun _ => 0)))), (fw_8, .inl (k_18, 14, .inr (.inl (fun _ => 0)))), (fw_9, .inl (k_19, 14, .inr (.inl (fun _ => 0)))), (fw_10, .inl (k_20, 14, .inr (.inl (fun _ => 0)))), (fw_11, .inl (k_21, 14, .inr (.inl (fun _ => 0)))), (fw_12, .inl (k_22, 10, .inr (.inl (fun _ => 0)))), (fw_13, .inl (k_23, 10, .inl (fun _ => 0))), (fw_14, .inl (k_24, 10, .inl (fun _ => 0))), (fw_15, .inl (k_25, 10, .inl (fun _ => 0)))]) 1 hP hD [1] [0] hk1 hFc hP1 hD1 rfl rfl rfl (by decide) (by decide)
  have hK := hK.app (va_K.moved hvm.symm hK1)
  have hK : va_K (dC, dI) classes [(k_16, .int), (k_17, .long), (k_18, .long), (k_19, .long), (k_20, .long), (k_21, .long), (k_22, .long), (k_23, .int), (k_24, .int), (k_25, .int)] s := hK
  generalize H1 = H at hP hS ⊢
  refine W.widen (k := 11) (n := 136) (Nat.le_of_ble_eq_true rfl) (Nat.le_of_ble_eq_true rfl) ?_
  refine va_putF (D := (dC, dI)) (ci := 4) (v := .ref q_1) (ty := (.object "MineAir$Flow")) (C := RX4) (T := TX4) (N := 6) hx hb hts (fun w h => wM_c (iX4 w h)) tyX4 tyX4_ok nmX4 hown hK hP hD hS 0 rfl rfl 0 (by decide) (hts _ (wM_c wd_512)) (fun _ h9 => h9) rfl hin rfl (by decide +kernel) rfl rfl (Nat.le_of_ble_eq_true rfl) dX4_init_24 (fun H locs hP hD hS => ?_)
  obtain ⟨hP, hD⟩ : s3_w (dC, dI) classes A [(jd, .inr (4, [.ref q_1, .null, .ref bk, .ref st, .int 0, .int 0])), (q_1, .inr (2, [.ref fw_6, .ref bk, .ref st, .ref fw_7, .ref fw_8, .ref fw_9, .ref fw_10, .ref fw_11, .ref fw_12, .ref fw_13, .ref fw_14, .ref fw_15])), (fw_6, .inl (k_16, 14, .inl (fun _ => 0))), (fw_7, .inl (k_17, 14, .inr (.inl (fun _ => 0)))), (fw_8, .inl (k_18, 14, .inr (.inl (fun _ => 0)))), (fw_9, .inl (k_19, 14, .inr (.inl (fun _ => 0)))), (fw_10, .inl (k_20, 14, .inr (.inl (fun _ => 0)))), (fw_11, .inl (k_21, 14, .inr (.inl (fun _ => 0)))), (fw_12, .inl (k_22, 10, .inr (.inl (fun _ => 0)))), (fw_13, .inl (k_23, 10, .inl (fun _ => 0))), (fw_14, .inl (k_24, 10, .inl (fun _ => 0))), (fw_15, .inl (k_25, 10, .inl (fun _ => 0)))] H := ⟨hP, hD⟩
  refine lv_aload_n hx hb dX4_init_27 rfl (lv_at hl 0 rfl) ?_
  refine va_new (ci := 5) (fs := [.null, .int 0, .null, .null, .null, .null]) (C := RX5) (T := TX5) (N := 6) hx hb hts (fun w h => wM_c (iX5 w h)) tyX5 tyX5_ok hown (hts _ (wM_c wd_483)) (hts _ (wM_c wd_484)) (hts _ (wM_c wd_121)) hK hP hD hS hA rfl dfX5 (Nat.le_of_ble_eq_true rfl) (Nat.le_of_ble_eq_true rfl) dX4_init_28 (fun q_26 H hP hD hS => ?_)
  obtain ⟨hP, hD⟩ : s3_w (dC, dI) classes A [(jd, .inr (4, [.ref q_1, .null, .ref bk, .ref st, .int 0, .int 0])), (q_1, .inr (2, [.ref fw_6, .ref bk, .ref st, .ref fw_7, .ref fw_8, .ref fw_9, .ref fw_10, .ref fw_11, .ref fw_12, .ref fw_13, .ref fw_14, .ref fw_15])), (fw_6, .inl (k_16, 14, .inl (fun _ => 0))), (fw_7, .inl (k_17, 14, .inr (.inl (fun _ => 0)))), (fw_8, .inl (k_18, 14, .inr (.inl (fun _ => 0)))), (fw_9, .inl (k_19, 14, .inr (.inl (fun _ => 0)))), (fw_10, .inl (k_20, 14, .inr (.inl (fun _ => 0)))), (fw_11, .inl (k_21, 14, .inr (.inl (fun _ => 0)))), (fw_12, .inl (k_22, 10, .inr (.inl (fun _ => 0)))), (fw_13, .inl (k_23, 10, .inl (fun _ => 0))), (fw_14, .inl (k_24, 10, .inl (fun _ => 0))), (fw_15, .inl (k_25, 10, .inl (fun _ => 0))), (q_26, .inr (5, [.null, .int 0, .null, .null, .null, .null]))] H := ⟨hP, hD⟩
  refine W.widen (k := 12) (n := 142) (Nat.le_of_ble_eq_true rfl) (Nat.le_of_ble_eq_true rfl) ?_
  refine lv_dup hx hb dX4_init_31 rfl ?_
  refine lv_aload_n hx hb dX4_init_32 rfl (lv_at hl 1 rfl) ?_
  obtain ⟨hPc, hDc, hFc⟩ := s3_c (ws' := [(q_26, .inr (5, [.null, .int 0, .null, .null, .null, .null]))]) [12] hP hD hS hA rfl (by decide)
  have hKc := hK.sub (tys' := []) [] rfl
  refine va_callv (va_runI (As := [.ref bk]) (rest := [.ref q_26, .ref jd]) ⟨hx, hb, hml, hown, hts⟩ (n_Load l dC dI n0 atx H.size q_26 bk ) (cwI 1 hts (gI (fun w h => wM_c h) wd_487) rfl rfl rfl (hts _ (wM_c wd_121)) (hts _ (wM_c wd_485)) (hts _ (wM_c wd_486)) rfl (by decide +kernel) ⟨Nat.le_of_ble_eq_true rfl, Nat.le_of_ble_eq_true rfl⟩) ⟨fun a U g mk q => by obtain ⟨q0, q1, q2, qG, qP, qK, qD⟩ := q; exact ⟨q0, q1, q2, GW.blind qG, qP, va_K.moved (u := U) (U := U.calling g mk a) (Vm.Alike.refl U.vm) qK, qD⟩, fun U hU hW => ⟨rfl, by rw [hU], Nat.le_trans hn0 hS.1, GW.go hW hU hG (fun q hq hA9 => hS.2.1 q hq (fun h => hA9 (hA0 q h))), by rw [hU]; exact hPc, va_K.moved hW.alike hKc, hDc.weaken (fun _ _ _ h => hA0 _ h)⟩⟩ rfl rfl hl.1 rfl (lv_room (Nat.le_of_ble_eq_true rfl)) dX4_init_33 ⟨Nat.le_of_ble_eq_true rfl, Nat.le_of_ble_eq_true rfl⟩) hS (fun q _ h => hFc q h) hFc (fun u t H1 locs ht hvm hw_30 hB hz1 hk1 hS => ?_)
  obtain ⟨ld_31, ld_32, ld_33, ld_34, k_35, k_36, k_37, k_38, hP1, hK1, hD1⟩ := hB
  rw [ht] at hP1
  obtain ⟨hP, hD⟩ := s3_j (L := [(jd, .inr (4, [.ref q_1, .null, .ref bk, .ref st, .int 0, .int 0])), (q_1, .inr (2, [.ref fw_6, .ref bk, .ref st, .ref fw_7, .ref fw_8, .ref fw_9, .ref fw_10, .ref fw_11, .ref fw_12, .ref fw_13, .ref fw_14, .ref fw_15])), (fw_6, .inl (k_16, 14, .inl (fun _ => 0))), (fw_7, .inl (k_17, 14, .inr (.inl (fun _ => 0)))), (fw_8, .inl (k_18, 14, .inr (.inl (fun _ => 0)))), (fw_9, .inl (k_19, 14, .inr (.inl (fun _ => 0)))), (fw_10, .inl (k_20, 14, .inr (.inl (fun _ => 0)))), (fw_11, .inl (k_21, 14, .inr (.inl (fun _ => 0)))), (fw_12, .inl (k_22, 10, .inr (.inl (fun _ => 0)))), (fw_13, .inl (k_23, 10, .inl (fun _ => 0))), (fw_14, .inl (k_24, 10, .inl (fun _ => 0))), (fw_15, .inl (k_25, 10, .inl (fun _ => 0))), (q_26, .inr (5, [.ref ld_31, .int 0, .ref bk, .ref ld_32, .ref ld_33, .ref ld_34])), (ld_31, .inl (k_35, 14, .inl (fun _ => 0))), (ld_32, .inl (k_36, 10, .inl (fun _ => 0))), (ld_33, .inl (k_37, 10, .inl (fun _ => 0))), (ld_34, .inl (k_38, 14, .inl (fun _ => 0)))]) 12 hP hD [12] [0, 1, 2, 3, 4, 5, 6, 7, 8, 9, 10, 11] hk1 hFc hP1 hD1 rfl rfl rfl (by decide) (by decide)
  have hK := hK.app (va_K.moved hvm.symm hK1)
  have hK : va_K (dC, dI) classes [(k_16, .int), (k_17, .long), (k_18, .long), (k_19, .long), (k_20, .long), (k_21, .long), (k_22, .long), (k_23, .int), (k_24, .int), (k_25, .int), (k_35, .int), (k_36, .int), (k_37, .int), (k_38, .int)] s := hK
  generalize H1 = H at hP hS ⊢
  refine W.widen (k := 16) (n := 190) (Nat.le_of_ble_eq_true rfl) (Nat.le_of_ble_eq_true rfl) ?_
  refine va_putF (D := (dC, dI)) (ci := 4) (v := .ref q_26) (ty := (.object "MineAir$Load")) (C := RX4) (T := TX4) (N := 6) hx hb hts (fun w h => wM_c (iX4 w h)) tyX4 tyX4_ok nmX4 hown hK hP hD hS 0 rfl rfl 1 (by decide) (hts _ (wM_c wd_515)) (fun _ h9 => h9) rfl hin rfl (by decide +kernel) rfl rfl (Nat.le_of_ble_eq_true rfl) dX4_init_36 (fun H locs hP hD hS => ?_)
  obtain ⟨hP, hD⟩ : s3_w (dC, dI) classes A [(jd, .inr (4, [.ref q_1, .ref q_26, .ref bk, .ref st, .int 0, .int 0])), (q_1, .inr (2, [.ref fw_6, .ref bk, .ref st, .ref fw_7, .ref fw_8, .ref fw_9, .ref fw_10, .ref fw_11, .ref fw_12, .ref fw_13, .ref fw_14, .ref fw_15])), (fw_6, .inl (k_16, 14, .inl (fun _ => 0))), (fw_7, .inl (k_17, 14, .inr (.inl (fun _ => 0)))), (fw_8, .inl (k_18, 14, .inr (.inl (fun _ => 0)))), (fw_9, .inl (k_19, 14, .inr (.inl (fun _ => 0)))), (fw_10, .inl (k_20, 14, .inr (.inl (fun _ => 0)))), (fw_11, .inl (k_21, 14, .inr (.inl (fun _ => 0)))), (fw_12, .inl (k_22, 10, .inr (.inl (fun _ => 0)))), (fw_13, .inl (k_23, 10, .inl (fun _ => 0))), (fw_14, .inl (k_24, 10, .inl (fun _ => 0))), (fw_15, .inl (k_25, 10, .inl (fun _ => 0))), (q_26, .inr (5, [.ref ld_31, .int 0, .ref bk, .ref ld_32, .ref ld_33, .ref ld_34])), (ld_31, .inl (k_35, 14, .inl (fun _ => 0))), (ld_32, .inl (k_36, 10, .inl (fun _ => 0))), (ld_33, .inl (k_37, 10, .inl (fun _ => 0))), (ld_34, .inl (k_38, 14, .inl (fun _ => 0)))] H := ⟨hP, hD⟩
  have hK9 := hK.sub (tys' := [(k_16, .int), (k_17, .long), (k_18, .long), (k_19, .long), (k_20, .long), (k_21, .long), (k_22, .long), (k_23, .int), (k_24, .int), (k_25, .int), (k_35, .int), (k_36, .int), (k_37, .int), (k_38, .int)]) [0, 1, 2, 3, 4, 5, 6, 7, 8, 9, 10, 11, 12, 13] rfl
  exact W.vret hx hb hr (fun t ht hW => ⟨⟨(), rfl, trivial, q_1, q_26, fw_6, fw_7, fw_8, fw_9, fw_10, fw_11, fw_12, fw_13, fw_14, fw_15, ld_31, ld_32, ld_33, ld_34, k_16, k_17, k_18, k_19, k_20, k_21, k_22, k_23, k_24, k_25, k_35, k_36, k_37, k_38, by rw [ht]; exact hP.sub [0, 1, 2, 3, 4, 5, 6, 7, 8, 9, 10, 11, 12, 13, 14, 15, 16] rfl, va_K.moved hW.alike hK9, hD.sub [0, 1, 2, 3, 4, 5, 6, 7, 8, 9, 10, 11, 12, 13, 14, 15, 16] (by decide) rfl⟩, hS.F ht⟩) hS.2.2 dX4_init_39
set_option maxHeartbeats 4000000 in
set_option maxRecDepth 100000 in
theorem n_Trials (l : Launch) (dC : Nat → ClassId) (dI : Nat → Nat → Nat) (n0 : Nat) (atx : Nat → Nat × Nat) (sz : Nat) (tr : Nat) (bk : Nat) (st : Nat) (j2 : Nat) (jd : Nat) : Met l yX10_init (wM yX10_init cX10_init 5 none) ({ frames := 1, cells := 2, slots := 260, locals := 12 }) (va_Pc [.ref tr, .ref bk, .ref st, .ref j2, .ref jd] (fun U => U.heap.size = sz ∧ n0 ≤ sz ∧ GW n0 atx U ∧ va_P (dC, dI) classes [(tr, .inr (10, [.int 0, .int 0, .null, .null, .null, .null, .null, .null]))] U.heap ∧ va_K (dC, dI) classes [] U ∧ va_D (fun q => n0 ≤ q) [(tr, .inr (10, [.int 0, .int 0, .null, .null, .null, .null, .null, .null]))])) (va_Qv (fun _ : Unit => True) (fun (_ : Unit) (t : State) => ∃ (tr_ranks : Nat), ∃ (tr_keptSpeed : Nat), ∃ (k_tr_ranks : ClassId), ∃ (k_tr_keptSpeed : ClassId), va_P (dC, dI) classes [(tr, .inr (10, [.int 0, .int 0, .ref bk, .ref st, .ref j2, .ref jd, .ref tr_ranks, .ref tr_keptSpeed])), (tr_ranks, .inl (k_tr_ranks, 256, .inl (fun _ => 0))), (tr_keptSpeed, .inl (k_tr_keptSpeed, 4, .inl (fun _ => 0)))] t.heap ∧ va_K (dC, dI) classes [(k_tr_ranks, .int), (k_tr_keptSpeed, .int)] t ∧ va_D (va_A [(tr, .inr (10, [.int 0, .int 0, .null, .null, .null, .null, .null, .null]))] sz) [(tr, .inr (10, [.int 0, .int 0, .ref bk, .ref st, .ref j2, .ref jd, .ref tr_ranks, .ref tr_keptSpeed])), (tr_ranks, .inl (k_tr_ranks, 256, .inl (fun _ => 0))), (tr_keptSpeed, .inl (k_tr_keptSpeed, 4, .inl (fun _ => 0)))]) (va_A [(tr, .inr (10, [.int 0, .int 0, .null, .null, .null, .null, .null, .null]))] sz)) 2 260 (va_A [(tr, .inr (10, [.int 0, .int 0, .null, .null, .null, .null, .null, .null]))] sz) := by
  refine Met.ofW (cc := cX10_init) (maxL := 5) (ret := none) (by decide) rfl ?_
  intro p e s m args below meth c s₁ B hml hv
  obtain ⟨rfl, hsz, hn0, hG, hP, hK, hD0⟩ := hv
  have hx := B.exec
  have hb := B.bytes
  have hr := B.returns
  have hts := atoms_spec (ws := wM yX10_init cX10_init 5 none) B.pre
  have hown : s.vm.findClass RX10 = some m.cls := findClass_of_methodNamed B.named
  have hlocks := B.notSynchronized
  have hin : meth.name = "<init>" := (name_of_methodNamed B.named B.method).1
  subst hsz
  have hD := hD0.self (sz := s.heap.size)
  have hA0 := vA_n0 hD0 hn0
  generalize hAe : va_A [(tr, .inr (10, [.int 0, .int 0, .null, .null, .null, .null, .null, .null]))] s.heap.size = A at hD hA0 ⊢
  have hA : ∀ q : Nat, s.heap.size ≤ q → A q := fun q h => by rw [← hAe]; exact Or.inr h
  have hS : va_S A s.heap s.heap [] := va_S.rf
  have hl := lv_entry ([.ref tr, .ref bk, .ref st, .ref j2, .ref jd]) (n := 5) (Nat.le_of_ble_eq_true rfl)
  rw [lg_entry_eq]
  generalize (lg_sl ([.ref tr, .ref bk, .ref st, .ref j2, .ref jd]) ++ List.replicate (5 - (lg_sl ([.ref tr, .ref bk, .ref st, .ref j2, .ref jd])).length) Slot.unset).toArray = ls at hl ⊢
  have hl : lv_has ls 5 [(0, .ref tr), (1, .ref bk), (2, .ref st), (3, .ref j2), (4, .ref jd)] := hl
  refine lv_aload_n hx hb dX10_init_0 rfl (lv_at hl 0 rfl) ?_
  refine W.objInit hx hb hown (hts _ (wM_c wd_539)) (hts _ (wM_c wd_146)) (hts _ (wM_c wd_objInit)) rfl (by rw [hml]; exact hl.1) rfl dX10_init_1 (Nat.le_of_ble_eq_true rfl) (Nat.le_of_ble_eq_true rfl) ?_
  refine W.eq (g2 := F0 m 4 ls []) rfl ?_
  refine lv_aload_n hx hb dX10_init_4 rfl (lv_at hl 0 rfl) ?_
  refine lv_sipush (v := 256) hx hb dX10_init_5 (by decide) ?_
  refine va_newa (atype := .int) (a0 := (256, .inl (fun _ => 0))) (ty := .int) hx hb (hts _ (wM_c wd_237)) rfl hK hP hD hS hA (fun _ => rfl) (by decide) rfl (by decide) (Nat.le_of_ble_eq_true rfl) (Nat.le_of_ble_eq_true rfl) dX10_init_8 (fun q_1 k_2 H hK hP hD hS => ?_)
  obtain ⟨hP, hD⟩ : s3_w (dC, dI) classes A [(tr, .inr (10, [.int 0, .int 0, .null, .null, .null, .null, .null, .null])), (q_1, .inl (k_2, 256, .inl (fun _ => 0)))] H := ⟨hP, hD⟩
  have hK : va_K (dC, dI) classes [(k_2, .int)] s := hK
  refine W.widen (k := 1) (n := 256) (Nat.le_of_ble_eq_true rfl) (Nat.le_of_ble_eq_true rfl) ?_
  refine va_putF (D := (dC, dI)) (ci := 10) (v := .ref q_1) (ty := (.array .int)) (C := RX10) (T := TX10) (N := 8) hx hb hts (fun w h => wM_c (iX10 w h)) tyX10 tyX10_ok nmX10 hown hK hP hD hS 0 rfl rfl 6 (by decide) (hts _ (wM_c wd_547)) (fun _ h9 => h9) rfl hin rfl (by decide +kernel) rfl rfl (Nat.le_of_ble_eq_true rfl) dX10_init_10 (fun H locs hP hD hS => ?_)
  obtain ⟨hP, hD⟩ : s3_w (dC, dI) classes A [(tr, .inr (10, [.int 0, .int 0, .null, .null, .null, .null, .ref q_1, .null])), (q_1, .inl (k_2, 256, .inl (fun _ => 0)))] H := ⟨hP, hD⟩
  refine lv_aload_n hx hb dX10_init_13 rfl (lv_at hl 0 rfl) ?_
  refine lv_iconst (v := 4) hx hb dX10_init_14 (by decide) ?_
  refine va_newa (atype := .int) (a0 := (4, .inl (fun _ => 0))) (ty := .int) hx hb (hts _ (wM_c wd_237)) rfl hK hP hD hS hA (fun _ => rfl) (by decide) rfl (by decide) (Nat.le_of_ble_eq_true rfl) (Nat.le_of_ble_eq_true rfl) dX10_init_15 (fun q_3 k_4 H hK hP hD hS => ?_)
  obtain ⟨hP, hD⟩ : s3_w (dC, dI) classes A [(tr, .inr (10, [.int 0, .int 0, .null, .null, .null, .null, .ref q_1, .null])), (q_1, .inl (k_2, 256, .inl (fun _ => 0))), (q_3, .inl (k_4, 4, .inl (fun _ => 0)))] H := ⟨hP, hD⟩
  have hK : va_K (dC, dI) classes [(k_2, .int), (k_4, .int)] s := hK
  refine W.widen (k := 2) (n := 260) (Nat.le_of_ble_eq_true rfl) (Nat.le_of_ble_eq_true rfl) ?_
  refine va_putF (D := (dC, dI)) (ci := 10) (v := .ref q_3) (ty := (.array .int)) (C := RX10) (T := TX10) (N := 8) hx hb hts (fun w h => wM_c (iX10 w h)) tyX10 tyX10_ok nmX10 hown hK hP hD hS 0 rfl rfl 7 (by decide) (hts _ (wM_c wd_548)) (fun _ h9 => h9) rfl hin rfl (by decide +kernel) rfl rfl (Nat.le_of_ble_eq_true rfl) dX10_init_17 (fun H locs hP hD hS => ?_)
  obtain ⟨hP, hD⟩ : s3_w (dC, dI) classes A [(tr, .inr (10, [.int 0, .int 0, .null, .null, .null, .null, .ref q_1, .ref q_3])), (q_1, .inl (k_2, 256, .inl (fun _ => 0))), (q_3, .inl (k_4, 4, .inl (fun _ => 0)))] H := ⟨hP, hD⟩
  refine lv_aload_n hx hb dX10_init_20 rfl (lv_at hl 0 rfl) ?_
  refine lv_aload_n hx hb dX10_init_21 rfl (lv_at hl 1 rfl) ?_
  refine va_putF (D := (dC, dI)) (ci := 10) (v := .ref bk) (ty := (.object "MineAir$Book")) (C := RX10) (T := TX10) (N := 8) hx hb hts (fun w h => wM_c (iX10 w h)) tyX10 tyX10_ok nmX10 hown hK hP hD hS 0 rfl rfl 2 (by decide) (hts _ (wM_c wd_543)) (fun _ h9 => h9) rfl hin rfl (by decide +kernel) rfl rfl (Nat.le_of_ble_eq_true rfl) dX10_init_22 (fun H locs hP hD hS => ?_)
  obtain ⟨hP, hD⟩ : s3_w (dC, dI) classes A [(tr, .inr (10, [.int 0, .int 0, .ref bk, .null, .null, .null, .ref q_1, .ref q_3])), (q_1, .inl (k_2, 256, .inl (fun _ => 0))), (q_3, .inl (k_4, 4, .inl (fun _ => 0)))] H := ⟨hP, hD⟩
  refine lv_aload_n hx hb dX10_init_25 rfl (lv_at hl 0 rfl) ?_
  refine lv_aload_n hx hb dX10_init_26 rfl (lv_at hl 2 rfl) ?_
  refine va_putF (D := (dC, dI)) (ci := 10) (v := .ref st) (ty := (.object "MineAir$State")) (C := RX10) (T := TX10) (N := 8) hx hb hts (fun w h => wM_c (iX10 w h)) tyX10 tyX10_ok nmX10 hown hK hP hD hS 0 rfl rfl 3 (by decide) (hts _ (wM_c wd_544)) (fun _ h9 => h9) rfl hin rfl (by decide +kernel) rfl rfl (Nat.le_of_ble_eq_true rfl) dX10_init_27 (fun H locs hP hD hS => ?_)
  obtain ⟨hP, hD⟩ : s3_w (dC, dI) classes A [(tr, .inr (10, [.int 0, .int 0, .ref bk, .ref st, .null, .null, .ref q_1, .ref q_3])), (q_1, .inl (k_2, 256, .inl (fun _ => 0))), (q_3, .inl (k_4, 4, .inl (fun _ => 0)))] H := ⟨hP, hD⟩
  refine lv_aload_n hx hb dX10_init_30 rfl (lv_at hl 0 rfl) ?_
  refine lv_aload_n hx hb dX10_init_31 rfl (lv_at hl 3 rfl) ?_
  refine va_putF (D := (dC, dI)) (ci := 10) (v := .ref j2) (ty := (.object "MineAir$Judge")) (C := RX10) (T := TX10) (N := 8) hx hb hts (fun w h => wM_c (iX10 w h)) tyX10 tyX10_ok nmX10 hown hK hP hD hS 0 rfl rfl 4 (by decide) (hts _ (wM_c wd_545)) (fun _ h9 => h9) rfl hin rfl (by decide +kernel) rfl rfl (Nat.le_of_ble_eq_true rfl) dX10_init_32 (fun H locs hP hD hS => ?_)
  obtain ⟨hP, hD⟩ : s3_w (dC, dI) classes A [(tr, .inr (10, [.int 0, .int 0, .ref bk, .ref st, .ref j2, .null, .ref q_1, .ref q_3])), (q_1, .inl (k_2, 256, .inl (fun _ => 0))), (q_3, .inl (k_4, 4, .inl (fun _ => 0)))] H := ⟨hP, hD⟩
  refine lv_aload_n hx hb dX10_init_35 rfl (lv_at hl 0 rfl) ?_
  refine lv_aload hx hb dX10_init_36 (lv_at hl 4 rfl) ?_
  refine va_putF (D := (dC, dI)) (ci := 10) (v := .ref jd) (ty := (.object "MineAir$Judge")) (C := RX10) (T := TX10) (N := 8) hx hb hts (fun w h => wM_c (iX10 w h)) tyX10 tyX10_ok nmX10 hown hK hP hD hS 0 rfl rfl 5 (by decide) (hts _ (wM_c wd_546)) (fun _ h9 => h9) rfl hin rfl (by decide +kernel) rfl rfl (Nat.le_of_ble_eq_true rfl) dX10_init_38 (fun H locs hP hD hS => ?_)
  obtain ⟨hP, hD⟩ : s3_w (dC, dI) classes A [(tr, .inr (10, [.int 0, .int 0, .ref bk, .ref st, .ref j2, .ref jd, .ref q_1, .ref q_3])), (q_1, .inl (k_2, 256, .inl (fun _ => 0))), (q_3, .inl (k_4, 4, .inl (fun _ => 0)))] H := ⟨hP, hD⟩
  have hK9 := hK.sub (tys' := [(k_2, .int), (k_4, .int)]) [0, 1] rfl
  exact W.vret hx hb hr (fun t ht hW => ⟨⟨(), rfl, trivial, q_1, q_3, k_2, k_4, by rw [ht]; exact hP.sub [0, 1, 2] rfl, va_K.moved hW.alike hK9, hD.sub [0, 1, 2] (by decide) rfl⟩, hS.F ht⟩) hS.2.2 dX10_init_41
set_option maxHeartbeats 4000000 in
set_option maxRecDepth 100000 in
theorem n_Plan (l : Launch) (dC : Nat → ClassId) (dI : Nat → Nat → Nat) (n0 : Nat) (atx : Nat → Nat × Nat) (sz : Nat) (pl : Nat) (st : Nat) (j2 : Nat) (jd : Nat) : Met l yX6_init (wM yX6_init cX6_init 4 none) ({ frames := 1, cells := 5, slots := 52, locals := 12 }) (va_Pc [.ref pl, .ref st, .ref j2, .ref jd] (fun U => U.heap.size = sz ∧ n0 ≤ sz ∧ GW n0 atx U ∧ va_P (dC, dI) classes [(pl, .inr (6, [.int 0, .null, .null, .null, .null, .null, .null, .null, .null, .int 0, .int 0]))] U.heap ∧ va_K (dC, dI) classes [] U ∧ va_D (fun q => n0 ≤ q) [(pl, .inr (6, [.int 0, .null, .null, .null, .null, .null, .null, .null, .null, .int 0, .int 0]))])) (va_Qv (fun _ : Unit => True) (fun (_ : Unit) (t : State) => ∃ (pl_order : Nat), ∃ (pl_kind : Nat), ∃ (pl_which : Nat), ∃ (pl_value : Nat), ∃ (pl_soundBy : Nat), ∃ (k_pl_order : ClassId), ∃ (k_pl_kind : ClassId), ∃ (k_pl_which : ClassId), ∃ (k_pl_value : ClassId), ∃ (k_pl_soundBy : ClassId), va_P (dC, dI) classes [(pl, .inr (6, [.int 0, .ref pl_order, .ref st, .ref j2, .ref jd, .ref pl_kind, .ref pl_which, .ref pl_value, .ref pl_soundBy, .int 0, .int 0])), (pl_order, .inl (k_pl_order, 5, .inl (fun _ => 0))), (pl_kind, .inl (k_pl_kind, 5, .inl (fun _ => 0))), (pl_which, .inl (k_pl_which, 5, .inl (fun _ => 0))), (pl_value, .inl (k_pl_value, 5, .inl (fun _ => 0))), (pl_soundBy, .inl (k_pl_soundBy, 32, .inl (fun _ => 0)))] t.heap ∧ va_K (dC, dI) classes [(k_pl_order, .int), (k_pl_kind, .int), (k_pl_which, .int), (k_pl_value, .int), (k_pl_soundBy, .int)] t ∧ va_D (va_A [(pl, .inr (6, [.int 0, .null, .null, .null, .null, .null, .null, .null, .null, .int 0, .int 0]))] sz) [(pl, .inr (6, [.int 0, .ref pl_order, .ref st, .ref j2, .ref jd, .ref pl_kind, .ref pl_which, .ref pl_value, .ref pl_soundBy, .int 0, .int 0])), (pl_order, .inl (k_pl_order, 5, .inl (fun _ => 0))), (pl_kind, .inl (k_pl_kind, 5, .inl (fun _ => 0))), (pl_which, .inl (k_pl_which, 5, .inl (fun _ => 0))), (pl_value, .inl (k_pl_value, 5, .inl (fun _ => 0))), (pl_soundBy, .inl (k_pl_soundBy, 32, .inl (fun _ => 0)))]) (va_A [(pl, .inr (6, [.int 0, .null, .null, .null, .null, .null, .null, .null, .null, .int 0, .int 0]))] sz)) 5 52 (va_A [(pl, .inr (6, [.int 0, .null, .null, .null, .null, .null, .null, .null, .null, .int 0, .int 0]))] sz) := by
  refine Met.ofW (cc := cX6_init) (maxL := 4) (ret := none) (by decide) rfl ?_
  intro p e s m args below meth c s₁ B hml hv
  obtain ⟨rfl, hsz, hn0, hG, hP, hK, hD0⟩ := hv
  have hx := B.exec
  have hb := B.bytes
  have hr := B.returns
  have hts := atoms_spec (ws := wM yX6_init cX6_init 4 none) B.pre
  have hown : s.vm.findClass RX6 = some m.cls := findClass_of_methodNamed B.named
  have hlocks := B.notSynchronized
  have hin : meth.name = "<init>" := (name_of_methodNamed B.named B.method).1
  subst hsz
  have hD := hD0.self (sz := s.heap.size)
  have hA0 := vA_n0 hD0 hn0
  generalize hAe : va_A [(pl, .inr (6, [.int 0, .null, .null, .null, .null, .null, .null, .null, .null, .int 0, .int 0]))] s.heap.size = A at hD hA0 ⊢
  have hA : ∀ q : Nat, s.heap.size ≤ q → A q := fun q h => by rw [← hAe]; exact Or.inr h
  have hS : va_S A s.heap s.heap [] := va_S.rf
  have hl := lv_entry ([.ref pl, .ref st, .ref j2, .ref jd]) (n := 4) (Nat.le_of_ble_eq_true rfl)
  rw [lg_entry_eq]
  generalize (lg_sl ([.ref pl, .ref st, .ref j2, .ref jd]) ++ List.replicate (4 - (lg_sl ([.ref pl, .ref st, .ref j2, .ref jd])).length) Slot.unset).toArray = ls at hl ⊢
  have hl : lv_has ls 4 [(0, .ref pl), (1, .ref st), (2, .ref j2), (3, .ref jd)] := hl
  refine lv_aload_n hx hb dX6_init_0 rfl (lv_at hl 0 rfl) ?_
  refine W.objInit hx hb hown (hts _ (wM_c wd_571)) (hts _ (wM_c wd_146)) (hts _ (wM_c wd_objInit)) rfl (by rw [hml]; exact hl.1) rfl dX6_init_1 (Nat.le_of_ble_eq_true rfl) (Nat.le_of_ble_eq_true rfl) ?_
  refine W.eq (g2 := F0 m 4 ls []) rfl ?_
  refine lv_aload_n hx hb dX6_init_4 rfl (lv_at hl 0 rfl) ?_
  refine lv_iconst (v := 5) hx hb dX6_init_5 (by decide) ?_
  refine va_newa (atype := .int) (a0 := (5, .inl (fun _ => 0))) (ty := .int) hx hb (hts _ (wM_c wd_237)) rfl hK hP hD hS hA (fun _ => rfl) (by decide) rfl (by decide) (Nat.le_of_ble_eq_true rfl) (Nat.le_of_ble_eq_true rfl) dX6_init_6 (fun q_1 k_2 H hK hP hD hS => ?_)
  obtain ⟨hP, hD⟩ : s3_w (dC, dI) classes A [(pl, .inr (6, [.int 0, .null, .null, .null, .null, .null, .null, .null, .null, .int 0, .int 0])), (q_1, .inl (k_2, 5, .inl (fun _ => 0)))] H := ⟨hP, hD⟩
  have hK : va_K (dC, dI) classes [(k_2, .int)] s := hK
  refine W.widen (k := 1) (n := 5) (Nat.le_of_ble_eq_true rfl) (Nat.le_of_ble_eq_true rfl) ?_
  refine va_putF (D := (dC, dI)) (ci := 6) (v := .ref q_1) (ty := (.array .int)) (C := RX6) (T := TX6) (N := 11) hx hb hts (fun w h => wM_c (iX6 w h)) tyX6 tyX6_ok nmX6 hown hK hP hD hS 0 rfl rfl 1 (by decide) (hts _ (wM_c wd_574)) (fun _ h9 => h9) rfl hin rfl (by decide +kernel) rfl rfl (Nat.le_of_ble_eq_true rfl) dX6_init_8 (fun H locs hP hD hS => ?_)
  obtain ⟨hP, hD⟩ : s3_w (dC, dI) classes A [(pl, .inr (6, [.int 0, .ref q_1, .null, .null, .null, .null, .null, .null, .null, .int 0, .int 0])), (q_1, .inl (k_2, 5, .inl (fun _ => 0)))] H := ⟨hP, hD⟩
  refine lv_aload_n hx hb dX6_init_11 rfl (lv_at hl 0 rfl) ?_
  refine lv_iconst (v := 5) hx hb dX6_init_12 (by decide) ?_
  refine va_newa (atype := .int) (a0 := (5, .inl (fun _ => 0))) (ty := .int) hx hb (hts _ (wM_c wd_237)) rfl hK hP hD hS hA (fun _ => rfl) (by decide) rfl (by decide) (Nat.le_of_ble_eq_true rfl) (Nat.le_of_ble_eq_true rfl) dX6_init_13 (fun q_3 k_4 H hK hP hD hS => ?_)
  obtain ⟨hP, hD⟩ : s3_w (dC, dI) classes A [(pl, .inr (6, [.int 0, .ref q_1, .null, .null, .null, .null, .null, .null, .null, .int 0, .int 0])), (q_1, .inl (k_2, 5, .inl (fun _ => 0))), (q_3, .inl (k_4, 5, .inl (fun _ => 0)))] H := ⟨hP, hD⟩
  have hK : va_K (dC, dI) classes [(k_2, .int), (k_4, .int)] s := hK
  refine W.widen (k := 2) (n := 10) (Nat.le_of_ble_eq_true rfl) (Nat.le_of_ble_eq_true rfl) ?_
  refine va_putF (D := (dC, dI)) (ci := 6) (v := .ref q_3) (ty := (.array .int)) (C := RX6) (T := TX6) (N := 11) hx hb hts (fun w h => wM_c (iX6 w h)) tyX6 tyX6_ok nmX6 hown hK hP hD hS 0 rfl rfl 5 (by decide) (hts _ (wM_c wd_579)) (fun _ h9 => h9) rfl hin rfl (by decide +kernel) rfl rfl (Nat.le_of_ble_eq_true rfl) dX6_init_15 (fun H locs hP hD hS => ?_)
  obtain ⟨hP, hD⟩ : s3_w (dC, dI) classes A [(pl, .inr (6, [.int 0, .ref q_1, .null, .null, .null, .ref q_3, .null, .null, .null, .int 0, .int 0])), (q_1, .inl (k_2, 5, .inl (fun _ => 0))), (q_3, .inl (k_4, 5, .inl (fun _ => 0)))] H := ⟨hP, hD⟩
  refine lv_aload_n hx hb dX6_init_18 rfl (lv_at hl 0 rfl) ?_
  refine lv_iconst (v := 5) hx hb dX6_init_19 (by decide) ?_
  refine va_newa (atype := .int) (a0 := (5, .inl (fun _ => 0))) (ty := .int) hx hb (hts _ (wM_c wd_237)) rfl hK hP hD hS hA (fun _ => rfl) (by decide) rfl (by decide) (Nat.le_of_ble_eq_true rfl) (Nat.le_of_ble_eq_true rfl) dX6_init_20 (fun q_5 k_6 H hK hP hD hS => ?_)
  obtain ⟨hP, hD⟩ : s3_w (dC, dI) classes A [(pl, .inr (6, [.int 0, .ref q_1, .null, .null, .null, .ref q_3, .null, .null, .null, .int 0, .int 0])), (q_1, .inl (k_2, 5, .inl (fun _ => 0))), (q_3, .inl (k_4, 5, .inl (fun _ => 0))), (q_5, .inl (k_6, 5, .inl (fun _ => 0)))] H := ⟨hP, hD⟩
  have hK : va_K (dC, dI) classes [(k_2, .int), (k_4, .int), (k_6, .int)] s := hK
  refine W.widen (k := 3) (n := 15) (Nat.le_of_ble_eq_true rfl) (Nat.le_of_ble_eq_true rfl) ?_
  refine va_putF (D := (dC, dI)) (ci := 6) (v := .ref q_5) (ty := (.array .int)) (C := RX6) (T := TX6) (N := 11) hx hb hts (fun w h => wM_c (iX6 w h)) tyX6 tyX6_ok nmX6 hown hK hP hD hS 0 rfl rfl 6 (by decide) (hts _ (wM_c wd_580)) (fun _ h9 => h9) rfl hin rfl (by decide +kernel) rfl rfl (Nat.le_of_ble_eq_true rfl) dX6_init_22 (fun H locs hP hD hS => ?_)
  obtain ⟨hP, hD⟩ : s3_w (dC, dI) classes A [(pl, .inr (6, [.int 0, .ref q_1, .null, .null, .null, .ref q_3, .ref q_5, .null, .null, .int 0, .int 0])), (q_1, .inl (k_2, 5, .inl (fun _ => 0))), (q_3, .inl (k_4, 5, .inl (fun _ => 0))), (q_5, .inl (k_6, 5, .inl (fun _ => 0)))] H := ⟨hP, hD⟩
  refine lv_aload_n hx hb dX6_init_25 rfl (lv_at hl 0 rfl) ?_
  refine lv_iconst (v := 5) hx hb dX6_init_26 (by decide) ?_
  refine va_newa (atype := .int) (a0 := (5, .inl (fun _ => 0))) (ty := .int) hx hb (hts _ (wM_c wd_237)) rfl hK hP hD hS hA (fun _ => rfl) (by decide) rfl (by decide) (Nat.le_of_ble_eq_true rfl) (Nat.le_of_ble_eq_true rfl) dX6_init_27 (fun q_7 k_8 H hK hP hD hS => ?_)
  obtain ⟨hP, hD⟩ : s3_w (dC, dI) classes A [(pl, .inr (6, [.int 0, .ref q_1, .null, .null, .null, .ref q_3, .ref q_5, .null, .null, .int 0, .int 0])), (q_1, .inl (k_2, 5, .inl (fun _ => 0))), (q_3, .inl (k_4, 5, .inl (fun _ => 0))), (q_5, .inl (k_6, 5, .inl (fun _ => 0))), (q_7, .inl (k_8, 5, .inl (fun _ => 0)))] H := ⟨hP, hD⟩
  have hK : va_K (dC, dI) classes [(k_2, .int), (k_4, .int), (k_6, .int), (k_8, .int)] s := hK
  refine W.widen (k := 4) (n := 20) (Nat.le_of_ble_eq_true rfl) (Nat.le_of_ble_eq_true rfl) ?_
  refine va_putF (D := (dC, dI)) (ci := 6) (v := .ref q_7) (ty := (.array .int)) (C := RX6) (T := TX6) (N := 11) hx hb hts (fun w h => wM_c (iX6 w h)) tyX6 tyX6_ok nmX6 hown hK hP hD hS 0 rfl rfl 7 (by decide) (hts _ (wM_c wd_581)) (fun _ h9 => h9) rfl hin rfl (by decide +kernel) rfl rfl (Nat.le_of_ble_eq_true rfl) dX6_init_29 (fun H locs hP hD hS => ?_)
  obtain ⟨hP, hD⟩ : s3_w (dC, dI) classes A [(pl, .inr (6, [.int 0, .ref q_1, .null, .null, .null, .ref q_3, .ref q_5, .ref q_7, .null, .int 0, .int 0])), (q_1, .inl (k_2, 5, .inl (fun _ => 0))), (q_3, .inl (k_4, 5, .inl (fun _ => 0))), (q_5, .inl (k_6, 5, .inl (fun _ => 0))), (q_7, .inl (k_8, 5, .inl (fun _ => 0)))] H := ⟨hP, hD⟩
  refine lv_aload_n hx hb dX6_init_32 rfl (lv_at hl 0 rfl) ?_
  refine lv_bipush (v := 32) hx hb dX6_init_33 (by decide) ?_
  refine va_newa (atype := .int) (a0 := (32, .inl (fun _ => 0))) (ty := .int) hx hb (hts _ (wM_c wd_237)) rfl hK hP hD hS hA (fun _ => rfl) (by decide) rfl (by decide) (Nat.le_of_ble_eq_true rfl) (Nat.le_of_ble_eq_true rfl) dX6_init_35 (fun q_9 k_10 H hK hP hD hS => ?_)
  obtain ⟨hP, hD⟩ : s3_w (dC, dI) classes A [(pl, .inr (6, [.int 0, .ref q_1, .null, .null, .null, .ref q_3, .ref q_5, .ref q_7, .null, .int 0, .int 0])), (q_1, .inl (k_2, 5, .inl (fun _ => 0))), (q_3, .inl (k_4, 5, .inl (fun _ => 0))), (q_5, .inl (k_6, 5, .inl (fun _ => 0))), (q_7, .inl (k_8, 5, .inl (fun _ => 0))), (q_9, .inl (k_10, 32, .inl (fun _ => 0)))] H := ⟨hP, hD⟩
  have hK : va_K (dC, dI) classes [(k_2, .int), (k_4, .int), (k_6, .int), (k_8, .int), (k_10, .int)] s := hK
  refine W.widen (k := 5) (n := 52) (Nat.le_of_ble_eq_true rfl) (Nat.le_of_ble_eq_true rfl) ?_
  refine va_putF (D := (dC, dI)) (ci := 6) (v := .ref q_9) (ty := (.array .int)) (C := RX6) (T := TX6) (N := 11) hx hb hts (fun w h => wM_c (iX6 w h)) tyX6 tyX6_ok nmX6 hown hK hP hD hS 0 rfl rfl 8 (by decide) (hts _ (wM_c wd_582)) (fun _ h9 => h9) rfl hin rfl (by decide +kernel) rfl rfl (Nat.le_of_ble_eq_true rfl) dX6_init_37 (fun H locs hP hD hS => ?_)
  obtain ⟨hP, hD⟩ : s3_w (dC, dI) classes A [(pl, .inr (6, [.int 0, .ref q_1, .null, .null, .null, .ref q_3, .ref q_5, .ref q_7, .ref q_9, .int 0, .int 0])), (q_1, .inl (k_2, 5, .inl (fun _ => 0))), (q_3, .inl (k_4, 5, .inl (fun _ => 0))), (q_5, .inl (k_6, 5, .inl (fun _ => 0))), (q_7, .inl (k_8, 5, .inl (fun _ => 0))), (q_9, .inl (k_10, 32, .inl (fun _ => 0)))] H := ⟨hP, hD⟩
  refine lv_aload_n hx hb dX6_init_40 rfl (lv_at hl 0 rfl) ?_
  refine lv_aload_n hx hb dX6_init_41 rfl (lv_at hl 1 rfl) ?_
  refine va_putF (D := (dC, dI)) (ci := 6) (v := .ref st) (ty := (.object "MineAir$State")) (C := RX6) (T := TX6) (N := 11) hx hb hts (fun w h => wM_c (iX6 w h)) tyX6 tyX6_ok nmX6 hown hK hP hD hS 0 rfl rfl 2 (by decide) (hts _ (wM_c wd_576)) (fun _ h9 => h9) rfl hin rfl (by decide +kernel) rfl rfl (Nat.le_of_ble_eq_true rfl) dX6_init_42 (fun H locs hP hD hS => ?_)
  obtain ⟨hP, hD⟩ : s3_w (dC, dI) classes A [(pl, .inr (6, [.int 0, .ref q_1, .ref st, .null, .null, .ref q_3, .ref q_5, .ref q_7, .ref q_9, .int 0, .int 0])), (q_1, .inl (k_2, 5, .inl (fun _ => 0))), (q_3, .inl (k_4, 5, .inl (fun _ => 0))), (q_5, .inl (k_6, 5, .inl (fun _ => 0))), (q_7, .inl (k_8, 5, .inl (fun _ => 0))), (q_9, .inl (k_10, 32, .inl (fun _ => 0)))] H := ⟨hP, hD⟩
  refine lv_aload_n hx hb dX6_init_45 rfl (lv_at hl 0 rfl) ?_
  refine lv_aload_n hx hb dX6_init_46 rfl (lv_at hl 2 rfl) ?_
  refine va_putF (D := (dC, dI)) (ci := 6) (v := .ref j2) (ty := (.object "MineAir$Judge")) (C := RX6) (T := TX6) (N := 11) hx hb hts (fun w h => wM_c (iX6 w h)) tyX6 tyX6_ok nmX6 hown hK hP hD hS 0 rfl rfl 3 (by decide) (hts _ (wM_c wd_577)) (fun _ h9 => h9) rfl hin rfl (by decide +kernel) rfl rfl (Nat.le_of_ble_eq_true rfl) dX6_init_47 (fun H locs hP hD hS => ?_)
  obtain ⟨hP, hD⟩ : s3_w (dC, dI) classes A [(pl, .inr (6, [.int 0, .ref q_1, .ref st, .ref j2, .null, .ref q_3, .ref q_5, .ref q_7, .ref q_9, .int 0, .int 0])), (q_1, .inl (k_2, 5, .inl (fun _ => 0))), (q_3, .inl (k_4, 5, .inl (fun _ => 0))), (q_5, .inl (k_6, 5, .inl (fun _ => 0))), (q_7, .inl (k_8, 5, .inl (fun _ => 0))), (q_9, .inl (k_10, 32, .inl (fun _ => 0)))] H := ⟨hP, hD⟩
  refine lv_aload_n hx hb dX6_init_50 rfl (lv_at hl 0 rfl) ?_
  refine lv_aload_n hx hb dX6_init_51 rfl (lv_at hl 3 rfl) ?_
  refine va_putF (D := (dC, dI)) (ci := 6) (v := .ref jd) (ty := (.object "MineAir$Judge")) (C := RX6) (T := TX6) (N := 11) hx hb hts (fun w h => wM_c (iX6 w h)) tyX6 tyX6_ok nmX6 hown hK hP hD hS 0 rfl rfl 4 (by decide) (hts _ (wM_c wd_578)) (fun _ h9 => h9) rfl hin rfl (by decide +kernel) rfl rfl (Nat.le_of_ble_eq_true rfl) dX6_init_52 (fun H locs hP hD hS => ?_)
  obtain ⟨hP, hD⟩ : s3_w (dC, dI) classes A [(pl, .inr (6, [.int 0, .ref q_1, .ref st, .ref j2, .ref jd, .ref q_3, .ref q_5, .ref q_7, .ref q_9, .int 0, .int 0])), (q_1, .inl (k_2, 5, .inl (fun _ => 0))), (q_3, .inl (k_4, 5, .inl (fun _ => 0))), (q_5, .inl (k_6, 5, .inl (fun _ => 0))), (q_7, .inl (k_8, 5, .inl (fun _ => 0))), (q_9, .inl (k_10, 32, .inl (fun _ => 0)))] H := ⟨hP, hD⟩
  have hK9 := hK.sub (tys' := [(k_2, .int), (k_4, .int), (k_6, .int), (k_8, .int), (k_10, .int)]) [0, 1, 2, 3, 4] rfl
  exact W.vret hx hb hr (fun t ht hW => ⟨⟨(), rfl, trivial, q_1, q_3, q_5, q_7, q_9, k_2, k_4, k_6, k_8, k_10, by rw [ht]; exact hP.sub [0, 1, 2, 3, 4, 5] rfl, va_K.moved hW.alike hK9, hD.sub [0, 1, 2, 3, 4, 5] (by decide) rfl⟩, hS.F ht⟩) hS.2.2 dX6_init_55
set_option maxHeartbeats 4000000 in
set_option maxRecDepth 100000 in
theorem n_Flight (l : Launch) (dC : Nat → ClassId) (dI : Nat → Nat → Nat) (n0 : Nat) (atx : Nat → Nat × Nat) (sz : Nat) (fl : Nat) (bk : Nat) (st : Nat) : Met l yX1_init (wM yX1_init cX1_init 3 none) ({ frames := 1, cells := 5, slots := 65, locals := 12 }) (va_Pc [.ref fl, .ref bk, .ref st] (fun U => U.heap.size = sz ∧ n0 ≤ sz ∧ GW n0 atx U ∧ va_P (dC, dI) classes [(fl, .inr (1, [.int 0, .null, .null, .null, .null, .null, .null, .null]))] U.heap ∧ va_K (dC, dI) classes [] U ∧ va_D (fun q => n0 ≤ q) [(fl, .inr (1, [.int 0, .null, .null, .null, .null, .null, .null, .null]))])) (va_Qv (fun _ : Unit => True) (fun (_ : Unit) (t : State) => ∃ (fl_knotOf : Nat), ∃ (fl_smokeAt : Nat), ∃ (fl_reach : Nat), ∃ (fl_route : Nat), ∃ (fl_smokeIn : Nat), ∃ (k_fl_knotOf : ClassId), ∃ (k_fl_smokeAt : ClassId), ∃ (k_fl_reach : ClassId), ∃ (k_fl_route : ClassId), ∃ (k_fl_smokeIn : ClassId), va_P (dC, dI) classes [(fl, .inr (1, [.int 0, .ref fl_knotOf, .ref fl_smokeAt, .ref fl_reach, .ref fl_route, .ref bk, .ref st, .ref fl_smokeIn])), (fl_knotOf, .inl (k_fl_knotOf, 20, .inl (fun _ => 0))), (fl_smokeAt, .inl (k_fl_smokeAt, 14, .inl (fun _ => 0))), (fl_reach, .inl (k_fl_reach, 10, .inl (fun _ => 0))), (fl_route, .inl (k_fl_route, 11, .inl (fun _ => 0))), (fl_smokeIn, .inl (k_fl_smokeIn, 10, .inl (fun _ => 0)))] t.heap ∧ va_K (dC, dI) classes [(k_fl_knotOf, .int), (k_fl_smokeAt, .int), (k_fl_reach, .int), (k_fl_route, .int), (k_fl_smokeIn, .int)] t ∧ va_D (va_A [(fl, .inr (1, [.int 0, .null, .null, .null, .null, .null, .null, .null]))] sz) [(fl, .inr (1, [.int 0, .ref fl_knotOf, .ref fl_smokeAt, .ref fl_reach, .ref fl_route, .ref bk, .ref st, .ref fl_smokeIn])), (fl_knotOf, .inl (k_fl_knotOf, 20, .inl (fun _ => 0))), (fl_smokeAt, .inl (k_fl_smokeAt, 14, .inl (fun _ => 0))), (fl_reach, .inl (k_fl_reach, 10, .inl (fun _ => 0))), (fl_route, .inl (k_fl_route, 11, .inl (fun _ => 0))), (fl_smokeIn, .inl (k_fl_smokeIn, 10, .inl (fun _ => 0)))]) (va_A [(fl, .inr (1, [.int 0, .null, .null, .null, .null, .null, .null, .null]))] sz)) 5 65 (va_A [(fl, .inr (1, [.int 0, .null, .null, .null, .null, .null, .null, .null]))] sz) := by
  refine Met.ofW (cc := cX1_init) (maxL := 3) (ret := none) (by decide) rfl ?_
  intro p e s m args below meth c s₁ B hml hv
  obtain ⟨rfl, hsz, hn0, hG, hP, hK, hD0⟩ := hv
  have hx := B.exec
  have hb := B.bytes
  have hr := B.returns
  have hts := atoms_spec (ws := wM yX1_init cX1_init 3 none) B.pre
  have hown : s.vm.findClass RX1 = some m.cls := findClass_of_methodNamed B.named
  have hlocks := B.notSynchronized
  have hin : meth.name = "<init>" := (name_of_methodNamed B.named B.method).1
  subst hsz
  have hD := hD0.self (sz := s.heap.size)
  have hA0 := vA_n0 hD0 hn0
  generalize hAe : va_A [(fl, .inr (1, [.int 0, .null, .null, .null, .null, .null, .null, .null]))] s.heap.size = A at hD hA0 ⊢
  have hA : ∀ q : Nat, s.heap.size ≤ q → A q := fun q h => by rw [← hAe]; exact Or.inr h
  have hS : va_S A s.heap s.heap [] := va_S.rf
  have hl := lv_entry ([.ref fl, .ref bk, .ref st]) (n := 3) (Nat.le_of_ble_eq_true rfl)
  rw [lg_entry_eq]
  generalize (lg_sl ([.ref fl, .ref bk, .ref st]) ++ List.replicate (3 - (lg_sl ([.ref fl, .ref bk, .ref st])).length) Slot.unset).toArray = ls at hl ⊢
  have hl : lv_has ls 3 [(0, .ref fl), (1, .ref bk), (2, .ref st)] := hl
  refine lv_aload_n hx hb dX1_init_0 rfl (lv_at hl 0 rfl) ?_
  refine W.objInit hx hb hown (hts _ (wM_c wd_613)) (hts _ (wM_c wd_146)) (hts _ (wM_c wd_objInit)) rfl (by rw [hml]; exact hl.1) rfl dX1_init_1 (Nat.le_of_ble_eq_true rfl) (Nat.le_of_ble_eq_true rfl) ?_
  refine W.eq (g2 := F0 m 4 ls []) rfl ?_
  refine lv_aload_n hx hb dX1_init_4 rfl (lv_at hl 0 rfl) ?_
  refine lv_bipush (v := 20) hx hb dX1_init_5 (by decide) ?_
  refine va_newa (atype := .int) (a0 := (20, .inl (fun _ => 0))) (ty := .int) hx hb (hts _ (wM_c wd_237)) rfl hK hP hD hS hA (fun _ => rfl) (by decide) rfl (by decide) (Nat.le_of_ble_eq_true rfl) (Nat.le_of_ble_eq_true rfl) dX1_init_7 (fun q_1 k_2 H hK hP hD hS => ?_)
  obtain ⟨hP, hD⟩ : s3_w (dC, dI) classes A [(fl, .inr (1, [.int 0, .null, .null, .null, .null, .null, .null, .null])), (q_1, .inl (k_2, 20, .inl (fun _ => 0)))] H := ⟨hP, hD⟩
  have hK : va_K (dC, dI) classes [(k_2, .int)] s := hK
  refine W.widen (k := 1) (n := 20) (Nat.le_of_ble_eq_true rfl) (Nat.le_of_ble_eq_true rfl) ?_
  refine va_putF (D := (dC, dI)) (ci := 1) (v := .ref q_1) (ty := (.array .int)) (C := RX1) (T := TX1) (N := 8) hx hb hts (fun w h => wM_c (iX1 w h)) tyX1 tyX1_ok nmX1 hown hK hP hD hS 0 rfl rfl 1 (by decide) (hts _ (wM_c wd_615)) (fun _ h9 => h9) rfl hin rfl (by decide +kernel) rfl rfl (Nat.le_of_ble_eq_true rfl) dX1_init_9 (fun H locs hP hD hS => ?_)
  obtain ⟨hP, hD⟩ : s3_w (dC, dI) classes A [(fl, .inr (1, [.int 0, .ref q_1, .null, .null, .null, .null, .null, .null])), (q_1, .inl (k_2, 20, .inl (fun _ => 0)))] H := ⟨hP, hD⟩
  refine lv_aload_n hx hb dX1_init_12 rfl (lv_at hl 0 rfl) ?_
  refine lv_bipush (v := 14) hx hb dX1_init_13 (by decide) ?_
  refine va_newa (atype := .int) (a0 := (14, .inl (fun _ => 0))) (ty := .int) hx hb (hts _ (wM_c wd_237)) rfl hK hP hD hS hA (fun _ => rfl) (by decide) rfl (by decide) (Nat.le_of_ble_eq_true rfl) (Nat.le_of_ble_eq_true rfl) dX1_init_15 (fun q_3 k_4 H hK hP hD hS => ?_)
  obtain ⟨hP, hD⟩ : s3_w (dC, dI) classes A [(fl, .inr (1, [.int 0, .ref q_1, .null, .null, .null, .null, .null, .null])), (q_1, .inl (k_2, 20, .inl (fun _ => 0))), (q_3, .inl (k_4, 14, .inl (fun _ => 0)))] H := ⟨hP, hD⟩
  have hK : va_K (dC, dI) classes [(k_2, .int), (k_4, .int)] s := hK
  refine W.widen (k := 2) (n := 34) (Nat.le_of_ble_eq_true rfl) (Nat.le_of_ble_eq_true rfl) ?_
  refine va_putF (D := (dC, dI)) (ci := 1) (v := .ref q_3) (ty := (.array .int)) (C := RX1) (T := TX1) (N := 8) hx hb hts (fun w h => wM_c (iX1 w h)) tyX1 tyX1_ok nmX1 hown hK hP hD hS 0 rfl rfl 2 (by decide) (hts _ (wM_c wd_617)) (fun _ h9 => h9) rfl hin rfl (by decide +kernel) rfl rfl (Nat.le_of_ble_eq_true rfl) dX1_init_17 (fun H locs hP hD hS => ?_)
  obtain ⟨hP, hD⟩ : s3_w (dC, dI) classes A [(fl, .inr (1, [.int 0, .ref q_1, .ref q_3, .null, .null, .null, .null, .null])), (q_1, .inl (k_2, 20, .inl (fun _ => 0))), (q_3, .inl (k_4, 14, .inl (fun _ => 0)))] H := ⟨hP, hD⟩
  refine lv_aload_n hx hb dX1_init_20 rfl (lv_at hl 0 rfl) ?_
  refine lv_bipush (v := 10) hx hb dX1_init_21 (by decide) ?_
  refine va_newa (atype := .int) (a0 := (10, .inl (fun _ => 0))) (ty := .int) hx hb (hts _ (wM_c wd_237)) rfl hK hP hD hS hA (fun _ => rfl) (by decide) rfl (by decide) (Nat.le_of_ble_eq_true rfl) (Nat.le_of_ble_eq_true rfl) dX1_init_23 (fun q_5 k_6 H hK hP hD hS => ?_)
  obtain ⟨hP, hD⟩ : s3_w (dC, dI) classes A [(fl, .inr (1, [.int 0, .ref q_1, .ref q_3, .null, .null, .null, .null, .null])), (q_1, .inl (k_2, 20, .inl (fun _ => 0))), (q_3, .inl (k_4, 14, .inl (fun _ => 0))), (q_5, .inl (k_6, 10, .inl (fun _ => 0)))] H := ⟨hP, hD⟩
  have hK : va_K (dC, dI) classes [(k_2, .int), (k_4, .int), (k_6, .int)] s := hK
  refine W.widen (k := 3) (n := 44) (Nat.le_of_ble_eq_true rfl) (Nat.le_of_ble_eq_true rfl) ?_
  refine va_putF (D := (dC, dI)) (ci := 1) (v := .ref q_5) (ty := (.array .int)) (C := RX1) (T := TX1) (N := 8) hx hb hts (fun w h => wM_c (iX1 w h)) tyX1 tyX1_ok nmX1 hown hK hP hD hS 0 rfl rfl 3 (by decide) (hts _ (wM_c wd_619)) (fun _ h9 => h9) rfl hin rfl (by decide +kernel) rfl rfl (Nat.le_of_ble_eq_true rfl) dX1_init_25 (fun H locs hP hD hS => ?_)
  obtain ⟨hP, hD⟩ : s3_w (dC, dI) classes A [(fl, .inr (1, [.int 0, .ref q_1, .ref q_3, .ref q_5, .null, .null, .null, .null])), (q_1, .inl (k_2, 20, .inl (fun _ => 0))), (q_3, .inl (k_4, 14, .inl (fun _ => 0))), (q_5, .inl (k_6, 10, .inl (fun _ => 0)))] H := ⟨hP, hD⟩
  refine lv_aload_n hx hb dX1_init_28 rfl (lv_at hl 0 rfl) ?_
  refine lv_bipush (v := 11) hx hb dX1_init_29 (by decide) ?_
  refine va_newa (atype := .int) (a0 := (11, .inl (fun _ => 0))) (ty := .int) hx hb (hts _ (wM_c wd_237)) rfl hK hP hD hS hA (fun _ => rfl) (by decide) rfl (by decide) (Nat.le_of_ble_eq_true rfl) (Nat.le_of_ble_eq_true rfl) dX1_init_31 (fun q_7 k_8 H hK hP hD hS => ?_)
  obtain ⟨hP, hD⟩ : s3_w (dC, dI) classes A [(fl, .inr (1, [.int 0, .ref q_1, .ref q_3, .ref q_5, .null, .null, .null, .null])), (q_1, .inl (k_2, 20, .inl (fun _ => 0))), (q_3, .inl (k_4, 14, .inl (fun _ => 0))), (q_5, .inl (k_6, 10, .inl (fun _ => 0))), (q_7, .inl (k_8, 11, .inl (fun _ => 0)))] H := ⟨hP, hD⟩
  have hK : va_K (dC, dI) classes [(k_2, .int), (k_4, .int), (k_6, .int), (k_8, .int)] s := hK
  refine W.widen (k := 4) (n := 55) (Nat.le_of_ble_eq_true rfl) (Nat.le_of_ble_eq_true rfl) ?_
  refine va_putF (D := (dC, dI)) (ci := 1) (v := .ref q_7) (ty := (.array .int)) (C := RX1) (T := TX1) (N := 8) hx hb hts (fun w h => wM_c (iX1 w h)) tyX1 tyX1_ok nmX1 hown hK hP hD hS 0 rfl rfl 4 (by decide) (hts _ (wM_c wd_621)) (fun _ h9 => h9) rfl hin rfl (by decide +kernel) rfl rfl (Nat.le_of_ble_eq_true rfl) dX1_init_33 (fun H locs hP hD hS => ?_)
  obtain ⟨hP, hD⟩ : s3_w (dC, dI) classes A [(fl, .inr (1, [.int 0, .ref q_1, .ref q_3, .ref q_5, .ref q_7, .null, .null, .null])), (q_1, .inl (k_2, 20, .inl (fun _ => 0))), (q_3, .inl (k_4, 14, .inl (fun _ => 0))), (q_5, .inl (k_6, 10, .inl (fun _ => 0))), (q_7, .inl (k_8, 11, .inl (fun _ => 0)))] H := ⟨hP, hD⟩
  refine lv_aload_n hx hb dX1_init_36 rfl (lv_at hl 0 rfl) ?_
  refine lv_bipush (v := 10) hx hb dX1_init_37 (by decide) ?_
  refine va_newa (atype := .int) (a0 := (10, .inl (fun _ => 0))) (ty := .int) hx hb (hts _ (wM_c wd_237)) rfl hK hP hD hS hA (fun _ => rfl) (by decide) rfl (by decide) (Nat.le_of_ble_eq_true rfl) (Nat.le_of_ble_eq_true rfl) dX1_init_39 (fun q_9 k_10 H hK hP hD hS => ?_)
  obtain ⟨hP, hD⟩ : s3_w (dC, dI) classes A [(fl, .inr (1, [.int 0, .ref q_1, .ref q_3, .ref q_5, .ref q_7, .null, .null, .null])), (q_1, .inl (k_2, 20, .inl (fun _ => 0))), (q_3, .inl (k_4, 14, .inl (fun _ => 0))), (q_5, .inl (k_6, 10, .inl (fun _ => 0))), (q_7, .inl (k_8, 11, .inl (fun _ => 0))), (q_9, .inl (k_10, 10, .inl (fun _ => 0)))] H := ⟨hP, hD⟩
  have hK : va_K (dC, dI) classes [(k_2, .int), (k_4, .int), (k_6, .int), (k_8, .int), (k_10, .int)] s := hK
  refine W.widen (k := 5) (n := 65) (Nat.le_of_ble_eq_true rfl) (Nat.le_of_ble_eq_true rfl) ?_
  refine va_putF (D := (dC, dI)) (ci := 1) (v := .ref q_9) (ty := (.array .int)) (C := RX1) (T := TX1) (N := 8) hx hb hts (fun w h => wM_c (iX1 w h)) tyX1 tyX1_ok nmX1 hown hK hP hD hS 0 rfl rfl 7 (by decide) (hts _ (wM_c wd_625)) (fun _ h9 => h9) rfl hin rfl (by decide +kernel) rfl rfl (Nat.le_of_ble_eq_true rfl) dX1_init_41 (fun H locs hP hD hS => ?_)
  obtain ⟨hP, hD⟩ : s3_w (dC, dI) classes A [(fl, .inr (1, [.int 0, .ref q_1, .ref q_3, .ref q_5, .ref q_7, .null, .null, .ref q_9])), (q_1, .inl (k_2, 20, .inl (fun _ => 0))), (q_3, .inl (k_4, 14, .inl (fun _ => 0))), (q_5, .inl (k_6, 10, .inl (fun _ => 0))), (q_7, .inl (k_8, 11, .inl (fun _ => 0))), (q_9, .inl (k_10, 10, .inl (fun _ => 0)))] H := ⟨hP, hD⟩
  refine lv_aload_n hx hb dX1_init_44 rfl (lv_at hl 0 rfl) ?_
  refine lv_aload_n hx hb dX1_init_45 rfl (lv_at hl 1 rfl) ?_
  refine va_putF (D := (dC, dI)) (ci := 1) (v := .ref bk) (ty := (.object "MineAir$Book")) (C := RX1) (T := TX1) (N := 8) hx hb hts (fun w h => wM_c (iX1 w h)) tyX1 tyX1_ok nmX1 hown hK hP hD hS 0 rfl rfl 5 (by decide) (hts _ (wM_c wd_623)) (fun _ h9 => h9) rfl hin rfl (by decide +kernel) rfl rfl (Nat.le_of_ble_eq_true rfl) dX1_init_46 (fun H locs hP hD hS => ?_)
  obtain ⟨hP, hD⟩ : s3_w (dC, dI) classes A [(fl, .inr (1, [.int 0, .ref q_1, .ref q_3, .ref q_5, .ref q_7, .ref bk, .null, .ref q_9])), (q_1, .inl (k_2, 20, .inl (fun _ => 0))), (q_3, .inl (k_4, 14, .inl (fun _ => 0))), (q_5, .inl (k_6, 10, .inl (fun _ => 0))), (q_7, .inl (k_8, 11, .inl (fun _ => 0))), (q_9, .inl (k_10, 10, .inl (fun _ => 0)))] H := ⟨hP, hD⟩
  refine lv_aload_n hx hb dX1_init_49 rfl (lv_at hl 0 rfl) ?_
  refine lv_aload_n hx hb dX1_init_50 rfl (lv_at hl 2 rfl) ?_
  refine va_putF (D := (dC, dI)) (ci := 1) (v := .ref st) (ty := (.object "MineAir$State")) (C := RX1) (T := TX1) (N := 8) hx hb hts (fun w h => wM_c (iX1 w h)) tyX1 tyX1_ok nmX1 hown hK hP hD hS 0 rfl rfl 6 (by decide) (hts _ (wM_c wd_624)) (fun _ h9 => h9) rfl hin rfl (by decide +kernel) rfl rfl (Nat.le_of_ble_eq_true rfl) dX1_init_51 (fun H locs hP hD hS => ?_)
  obtain ⟨hP, hD⟩ : s3_w (dC, dI) classes A [(fl, .inr (1, [.int 0, .ref q_1, .ref q_3, .ref q_5, .ref q_7, .ref bk, .ref st, .ref q_9])), (q_1, .inl (k_2, 20, .inl (fun _ => 0))), (q_3, .inl (k_4, 14, .inl (fun _ => 0))), (q_5, .inl (k_6, 10, .inl (fun _ => 0))), (q_7, .inl (k_8, 11, .inl (fun _ => 0))), (q_9, .inl (k_10, 10, .inl (fun _ => 0)))] H := ⟨hP, hD⟩
  have hK9 := hK.sub (tys' := [(k_2, .int), (k_4, .int), (k_6, .int), (k_8, .int), (k_10, .int)]) [0, 1, 2, 3, 4] rfl
  exact W.vret hx hb hr (fun t ht hW => ⟨⟨(), rfl, trivial, q_1, q_3, q_5, q_7, q_9, k_2, k_4, k_6, k_8, k_10, by rw [ht]; exact hP.sub [0, 1, 2, 3, 4, 5] rfl, va_K.moved hW.alike hK9, hD.sub [0, 1, 2, 3, 4, 5] (by decide) rfl⟩, hS.F ht⟩) hS.2.2 dX1_init_54
set_option maxHeartbeats 4000000 in
set_option maxRecDepth 100000 in
theorem n_Readings (l : Launch) (dC : Nat → ClassId) (dI : Nat → Nat → Nat) (n0 : Nat) (atx : Nat → Nat × Nat) (sz : Nat) (rq : Nat) : Met l yX8_init (wM yX8_init cX8_init 1 none) ({ frames := 1, cells := 3, slots := 24, locals := 12 }) (va_Pc [.ref rq] (fun U => U.heap.size = sz ∧ n0 ≤ sz ∧ GW n0 atx U ∧ va_P (dC, dI) classes [(rq, .inr (8, [.int 0, .null, .null, .null]))] U.heap ∧ va_K (dC, dI) classes [] U ∧ va_D (fun q => n0 ≤ q) [(rq, .inr (8, [.int 0, .null, .null, .null]))])) (va_Qv (fun _ : Unit => True) (fun (_ : Unit) (t : State) => ∃ (rq_way : Nat), ∃ (rq_low : Nat), ∃ (rq_high : Nat), ∃ (k_rq_way : ClassId), ∃ (k_rq_low : ClassId), ∃ (k_rq_high : ClassId), va_P (dC, dI) classes [(rq, .inr (8, [.int 0, .ref rq_way, .ref rq_low, .ref rq_high])), (rq_way, .inl (k_rq_way, 8, .inl (fun _ => 0))), (rq_low, .inl (k_rq_low, 8, .inl (fun _ => 0))), (rq_high, .inl (k_rq_high, 8, .inl (fun _ => 0)))] t.heap ∧ va_K (dC, dI) classes [(k_rq_way, .int), (k_rq_low, .int), (k_rq_high, .int)] t ∧ va_D (va_A [(rq, .inr (8, [.int 0, .null, .null, .null]))] sz) [(rq, .inr (8, [.int 0, .ref rq_way, .ref rq_low, .ref rq_high])), (rq_way, .inl (k_rq_way, 8, .inl (fun _ => 0))), (rq_low, .inl (k_rq_low, 8, .inl (fun _ => 0))), (rq_high, .inl (k_rq_high, 8, .inl (fun _ => 0)))]) (va_A [(rq, .inr (8, [.int 0, .null, .null, .null]))] sz)) 3 24 (va_A [(rq, .inr (8, [.int 0, .null, .null, .null]))] sz) := by
  refine Met.ofW (cc := cX8_init) (maxL := 1) (ret := none) (by decide) rfl ?_
  intro p e s m args below meth c s₁ B hml hv
  obtain ⟨rfl, hsz, hn0, hG, hP, hK, hD0⟩ := hv
  have hx := B.exec
  have hb := B.bytes
  have hr := B.returns
  have hts := atoms_spec (ws := wM yX8_init cX8_init 1 none) B.pre
  have hown : s.vm.findClass RX8 = some m.cls := findClass_of_methodNamed B.named
  have hlocks := B.notSynchronized
  have hin : meth.name = "<init>" := (name_of_methodNamed B.named B.method).1
  subst hsz
  have hD := hD0.self (sz := s.heap.size)
  have hA0 := vA_n0 hD0 hn0
  generalize hAe : va_A [(rq, .inr (8, [.int 0, .null, .null, .null]))] s.heap.size = A at hD hA0 ⊢
  have hA : ∀ q : Nat, s.heap.size ≤ q → A q := fun q h => by rw [← hAe]; exact Or.inr h
  have hS : va_S A s.heap s.heap [] := va_S.rf
  have hl := lv_entry ([.ref rq]) (n := 1) (Nat.le_of_ble_eq_true rfl)
  rw [lg_entry_eq]
  generalize (lg_sl ([.ref rq]) ++ List.replicate (1 - (lg_sl ([.ref rq])).length) Slot.unset).toArray = ls at hl ⊢
  have hl : lv_has ls 1 [(0, .ref rq)] := hl
  refine lv_aload_n hx hb dX8_init_0 rfl (lv_at hl 0 rfl) ?_
  refine W.objInit hx hb hown (hts _ (wM_c wd_648)) (hts _ (wM_c wd_146)) (hts _ (wM_c wd_objInit)) rfl (by rw [hml]; exact hl.1) rfl dX8_init_1 (Nat.le_of_ble_eq_true rfl) (Nat.le_of_ble_eq_true rfl) ?_
  refine W.eq (g2 := F0 m 4 ls []) rfl ?_
  refine lv_aload_n hx hb dX8_init_4 rfl (lv_at hl 0 rfl) ?_
  refine lv_bipush (v := 8) hx hb dX8_init_5 (by decide) ?_
  refine va_newa (atype := .int) (a0 := (8, .inl (fun _ => 0))) (ty := .int) hx hb (hts _ (wM_c wd_237)) rfl hK hP hD hS hA (fun _ => rfl) (by decide) rfl (by decide) (Nat.le_of_ble_eq_true rfl) (Nat.le_of_ble_eq_true rfl) dX8_init_7 (fun q_1 k_2 H hK hP hD hS => ?_)
  obtain ⟨hP, hD⟩ : s3_w (dC, dI) classes A [(rq, .inr (8, [.int 0, .null, .null, .null])), (q_1, .inl (k_2, 8, .inl (fun _ => 0)))] H := ⟨hP, hD⟩
  have hK : va_K (dC, dI) classes [(k_2, .int)] s := hK
  refine W.widen (k := 1) (n := 8) (Nat.le_of_ble_eq_true rfl) (Nat.le_of_ble_eq_true rfl) ?_
  refine va_putF (D := (dC, dI)) (ci := 8) (v := .ref q_1) (ty := (.array .int)) (C := RX8) (T := TX8) (N := 4) hx hb hts (fun w h => wM_c (iX8 w h)) tyX8 tyX8_ok nmX8 hown hK hP hD hS 0 rfl rfl 1 (by decide) (hts _ (wM_c wd_651)) (fun _ h9 => h9) rfl hin rfl (by decide +kernel) rfl rfl (Nat.le_of_ble_eq_true rfl) dX8_init_9 (fun H locs hP hD hS => ?_)
  obtain ⟨hP, hD⟩ : s3_w (dC, dI) classes A [(rq, .inr (8, [.int 0, .ref q_1, .null, .null])), (q_1, .inl (k_2, 8, .inl (fun _ => 0)))] H := ⟨hP, hD⟩
  refine lv_aload_n hx hb dX8_init_12 rfl (lv_at hl 0 rfl) ?_
  refine lv_bipush (v := 8) hx hb dX8_init_13 (by decide) ?_
  refine va_newa (atype := .int) (a0 := (8, .inl (fun _ => 0))) (ty := .int) hx hb (hts _ (wM_c wd_237)) rfl hK hP hD hS hA (fun _ => rfl) (by decide) rfl (by decide) (Nat.le_of_ble_eq_true rfl) (Nat.le_of_ble_eq_true rfl) dX8_init_15 (fun q_3 k_4 H hK hP hD hS => ?_)
  obtain ⟨hP, hD⟩ : s3_w (dC, dI) classes A [(rq, .inr (8, [.int 0, .ref q_1, .null, .null])), (q_1, .inl (k_2, 8, .inl (fun _ => 0))), (q_3, .inl (k_4, 8, .inl (fun _ => 0)))] H := ⟨hP, hD⟩
  have hK : va_K (dC, dI) classes [(k_2, .int), (k_4, .int)] s := hK
  refine W.widen (k := 2) (n := 16) (Nat.le_of_ble_eq_true rfl) (Nat.le_of_ble_eq_true rfl) ?_
  refine va_putF (D := (dC, dI)) (ci := 8) (v := .ref q_3) (ty := (.array .int)) (C := RX8) (T := TX8) (N := 4) hx hb hts (fun w h => wM_c (iX8 w h)) tyX8 tyX8_ok nmX8 hown hK hP hD hS 0 rfl rfl 2 (by decide) (hts _ (wM_c wd_652)) (fun _ h9 => h9) rfl hin rfl (by decide +kernel) rfl rfl (Nat.le_of_ble_eq_true rfl) dX8_init_17 (fun H locs hP hD hS => ?_)
  obtain ⟨hP, hD⟩ : s3_w (dC, dI) classes A [(rq, .inr (8, [.int 0, .ref q_1, .ref q_3, .null])), (q_1, .inl (k_2, 8, .inl (fun _ => 0))), (q_3, .inl (k_4, 8, .inl (fun _ => 0)))] H := ⟨hP, hD⟩
  refine lv_aload_n hx hb dX8_init_20 rfl (lv_at hl 0 rfl) ?_
  refine lv_bipush (v := 8) hx hb dX8_init_21 (by decide) ?_
  refine va_newa (atype := .int) (a0 := (8, .inl (fun _ => 0))) (ty := .int) hx hb (hts _ (wM_c wd_237)) rfl hK hP hD hS hA (fun _ => rfl) (by decide) rfl (by decide) (Nat.le_of_ble_eq_true rfl) (Nat.le_of_ble_eq_true rfl) dX8_init_23 (fun q_5 k_6 H hK hP hD hS => ?_)
  obtain ⟨hP, hD⟩ : s3_w (dC, dI) classes A [(rq, .inr (8, [.int 0, .ref q_1, .ref q_3, .null])), (q_1, .inl (k_2, 8, .inl (fun _ => 0))), (q_3, .inl (k_4, 8, .inl (fun _ => 0))), (q_5, .inl (k_6, 8, .inl (fun _ => 0)))] H := ⟨hP, hD⟩
  have hK : va_K (dC, dI) classes [(k_2, .int), (k_4, .int), (k_6, .int)] s := hK
  refine W.widen (k := 3) (n := 24) (Nat.le_of_ble_eq_true rfl) (Nat.le_of_ble_eq_true rfl) ?_
  refine va_putF (D := (dC, dI)) (ci := 8) (v := .ref q_5) (ty := (.array .int)) (C := RX8) (T := TX8) (N := 4) hx hb hts (fun w h => wM_c (iX8 w h)) tyX8 tyX8_ok nmX8 hown hK hP hD hS 0 rfl rfl 3 (by decide) (hts _ (wM_c wd_653)) (fun _ h9 => h9) rfl hin rfl (by decide +kernel) rfl rfl (Nat.le_of_ble_eq_true rfl) dX8_init_25 (fun H locs hP hD hS => ?_)
  obtain ⟨hP, hD⟩ : s3_w (dC, dI) classes A [(rq, .inr (8, [.int 0, .ref q_1, .ref q_3, .ref q_5])), (q_1, .inl (k_2, 8, .inl (fun _ => 0))), (q_3, .inl (k_4, 8, .inl (fun _ => 0))), (q_5, .inl (k_6, 8, .inl (fun _ => 0)))] H := ⟨hP, hD⟩
  have hK9 := hK.sub (tys' := [(k_2, .int), (k_4, .int), (k_6, .int)]) [0, 1, 2] rfl
  exact W.vret hx hb hr (fun t ht hW => ⟨⟨(), rfl, trivial, q_1, q_3, q_5, k_2, k_4, k_6, by rw [ht]; exact hP.sub [0, 1, 2, 3] rfl, va_K.moved hW.alike hK9, hD.sub [0, 1, 2, 3] (by decide) rfl⟩, hS.F ht⟩) hS.2.2 dX8_init_28
