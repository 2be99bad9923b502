theorem wd_126 : Cond.initialized "java/util/Arrays" ∈ wG := wG_of 126 (by decide +kernel) (by decide +kernel)
theorem wd_165 : Cond.fieldLink "MineAir$State" 54 "MineAir$Gear" "doorBy" "[I" ∈ wG := wG_of 165 (by decide +kernel) (by decide +kernel)
theorem wd_169 : Cond.fieldLink "MineAir$State" 71 "MineAir$Gear" "pairs" "I" ∈ wG := wG_of 169 (by decide +kernel) (by decide +kernel)
theorem wd_173 : Cond.fieldLink "MineAir$State" 74 "MineAir$Gear" "pairFirst" "[I" ∈ wG := wG_of 173 (by decide +kernel) (by decide +kernel)
theorem wd_176 : Cond.fieldLink "MineAir$State" 77 "MineAir$Gear" "pairSecond" "[I" ∈ wG := wG_of 176 (by decide +kernel) (by decide +kernel)
theorem wd_184 : Cond.fieldLink "MineAir$State" 65 "MineAir$Gear" "fanPush" "[I" ∈ wG := wG_of 184 (by decide +kernel) (by decide +kernel)
theorem wd_194 : Cond.fieldLink "MineAir$State" 80 "MineAir$Gear" "faces" "I" ∈ wG := wG_of 194 (by decide +kernel) (by decide +kernel)
theorem wd_199 : Cond.fieldLink "MineAir$State" 89 "MineAir$Gear" "faceWay" "[I" ∈ wG := wG_of 199 (by decide +kernel) (by decide +kernel)
theorem wd_203 : Cond.fieldLink "MineAir$State" 83 "MineAir$Gear" "faceGas" "[I" ∈ wG := wG_of 203 (by decide +kernel) (by decide +kernel)
theorem wd_207 : Cond.fieldLink "MineAir$State" 86 "MineAir$Gear" "faceNeed" "[I" ∈ wG := wG_of 207 (by decide +kernel) (by decide +kernel)
theorem wd_257 : Cond.fieldLink "MineAir$State" 59 "MineAir$Book" "hinder" "[I" ∈ wG := wG_of 257 (by decide +kernel) (by decide +kernel)
theorem wd_268 : Cond.fieldLink "MineAir$State" 68 "MineAir$Book" "draught" "[I" ∈ wG := wG_of 268 (by decide +kernel) (by decide +kernel)
theorem wd_272 : Cond.fieldLink "MineAir$State" 45 "MineAir$Book" "doorIn" "[I" ∈ wG := wG_of 272 (by decide +kernel) (by decide +kernel)
theorem wd_276 : Cond.fieldLink "MineAir$State" 62 "MineAir$Book" "fanIn" "[I" ∈ wG := wG_of 276 (by decide +kernel) (by decide +kernel)
theorem wd_295 : Cond.fieldLink "MineAir$State" 50 "MineAir$Book" "gear" "LMineAir$Gear;" ∈ wG := wG_of 295 (by decide +kernel) (by decide +kernel)
theorem wd_389 : Cond.fieldLink "MineAir$State" 9 "MineAir$State" "open" "[Z" ∈ wG := wG_of 389 (by decide +kernel) (by decide +kernel)
theorem wd_392 : Cond.fieldLink "MineAir$State" 15 "MineAir$State" "speed" "[I" ∈ wG := wG_of 392 (by decide +kernel) (by decide +kernel)
theorem wd_396 : Cond.fieldLink "MineAir$State" 19 "MineAir$State" "fallen" "[Z" ∈ wG := wG_of 396 (by decide +kernel) (by decide +kernel)
theorem wd_402 : Cond.fieldLink "MineAir$State" 22 "MineAir$State" "fire" "[I" ∈ wG := wG_of 402 (by decide +kernel) (by decide +kernel)
theorem wd_405 : Cond.fieldLink "MineAir$State" 35 "MineAir$State" "mark" "I" ∈ wG := wG_of 405 (by decide +kernel) (by decide +kernel)
theorem wd_408 : Cond.fieldLink "MineAir$State" 39 "MineAir$State" "moreIn" "I" ∈ wG := wG_of 408 (by decide +kernel) (by decide +kernel)
theorem wd_410 : Cond.fieldLink "MineAir$State" 42 "MineAir$State" "more" "I" ∈ wG := wG_of 410 (by decide +kernel) (by decide +kernel)
theorem wd_412 : Cond.fieldLink "MineAir$State" 25 "MineAir$State" "book" "LMineAir$Book;" ∈ wG := wG_of 412 (by decide +kernel) (by decide +kernel)
theorem wd_667 : Cond.methodLink "MineAir$State" 29 (⟨"java/util/Arrays", "fill", "([II)V"⟩ : MethodName) ∈ wG := wG_of 667 (by decide +kernel) (by decide +kernel)
theorem wd_668 : Cond.static (⟨"java/util/Arrays", "fill", "([II)V"⟩ : MethodName) ∈ wG := wG_of 668 (by decide +kernel) (by decide +kernel)
theorem wd_669 : Cond.code (⟨"java/util/Arrays", "fill", "([II)V"⟩ : MethodName) prog_25_method_103_code 4 (Option.none : Option Jvm.ClassFile.FieldType) ∈ wG := wG_of 669 (by decide +kernel) (by decide +kernel)
theorem dX9_hasFallenFace_0 : decode cX9_hasFallenFace 0 = .ok (.aload_n 0, 1) := by decide +kernel
theorem dX9_hasFallenFace_1 : decode cX9_hasFallenFace 1 = .ok (.getfield 25, 3) := by decide +kernel
theorem dX9_hasFallenFace_4 : decode cX9_hasFallenFace 4 = .ok (.getfield 50, 3) := by decide +kernel
theorem dX9_hasFallenFace_7 : decode cX9_hasFallenFace 7 = .ok (.astore_n 1, 1) := by decide +kernel
theorem dX9_hasFallenFace_8 : decode cX9_hasFallenFace 8 = .ok (.iconst 0, 1) := by decide +kernel
theorem dX9_hasFallenFace_9 : decode cX9_hasFallenFace 9 = .ok (.istore_n 2, 1) := by decide +kernel
theorem dX9_hasFallenFace_10 : decode cX9_hasFallenFace 10 = .ok (.iload_n 2, 1) := by decide +kernel
theorem dX9_hasFallenFace_11 : decode cX9_hasFallenFace 11 = .ok (.aload_n 1, 1) := by decide +kernel
theorem dX9_hasFallenFace_12 : decode cX9_hasFallenFace 12 = .ok (.getfield 80, 3) := by decide +kernel
theorem dX9_hasFallenFace_15 : decode cX9_hasFallenFace 15 = .ok (.if_icmp .ge 53, 3) := by decide +kernel
theorem dX9_hasFallenFace_18 : decode cX9_hasFallenFace 18 = .ok (.aload_n 1, 1) := by decide +kernel
theorem dX9_hasFallenFace_19 : decode cX9_hasFallenFace 19 = .ok (.getfield 83, 3) := by decide +kernel
theorem dX9_hasFallenFace_22 : decode cX9_hasFallenFace 22 = .ok (.iload_n 2, 1) := by decide +kernel
theorem dX9_hasFallenFace_23 : decode cX9_hasFallenFace 23 = .ok (.iaload, 1) := by decide +kernel
theorem dX9_hasFallenFace_24 : decode cX9_hasFallenFace 24 = .ok (.ifCond .gt 12, 3) := by decide +kernel
theorem dX9_hasFallenFace_27 : decode cX9_hasFallenFace 27 = .ok (.aload_n 1, 1) := by decide +kernel
theorem dX9_hasFallenFace_28 : decode cX9_hasFallenFace 28 = .ok (.getfield 86, 3) := by decide +kernel
theorem dX9_hasFallenFace_31 : decode cX9_hasFallenFace 31 = .ok (.iload_n 2, 1) := by decide +kernel
theorem dX9_hasFallenFace_32 : decode cX9_hasFallenFace 32 = .ok (.iaload, 1) := by decide +kernel
theorem dX9_hasFallenFace_33 : decode cX9_hasFallenFace 33 = .ok (.ifCond .le 7, 3) := by decide +kernel
theorem dX9_hasFallenFace_36 : decode cX9_hasFallenFace 36 = .ok (.iconst 1, 1) := by decide +kernel
theorem dX9_hasFallenFace_37 : decode cX9_hasFallenFace 37 = .ok (.goto 4, 3) := by decide +kernel
theorem dX9_hasFallenFace_40 : decode cX9_hasFallenFace 40 = .ok (.iconst 0, 1) := by decide +kernel
theorem dX9_hasFallenFace_41 : decode cX9_hasFallenFace 41 = .ok (.istore_n 3, 1) := by decide +kernel
theorem dX9_hasFallenFace_42 : decode cX9_hasFallenFace 42 = .ok (.iload_n 3, 1) := by decide +kernel
theorem dX9_hasFallenFace_43 : decode cX9_hasFallenFace 43 = .ok (.ifCond .eq 19, 3) := by decide +kernel
theorem dX9_hasFallenFace_46 : decode cX9_hasFallenFace 46 = .ok (.aload_n 0, 1) := by decide +kernel
theorem dX9_hasFallenFace_47 : decode cX9_hasFallenFace 47 = .ok (.getfield 19, 3) := by decide +kernel
theorem dX9_hasFallenFace_50 : decode cX9_hasFallenFace 50 = .ok (.aload_n 1, 1) := by decide +kernel
theorem dX9_hasFallenFace_51 : decode cX9_hasFallenFace 51 = .ok (.getfield 89, 3) := by decide +kernel
theorem dX9_hasFallenFace_54 : decode cX9_hasFallenFace 54 = .ok (.iload_n 2, 1) := by decide +kernel
theorem dX9_hasFallenFace_55 : decode cX9_hasFallenFace 55 = .ok (.iaload, 1) := by decide +kernel
theorem dX9_hasFallenFace_56 : decode cX9_hasFallenFace 56 = .ok (.baload, 1) := by decide +kernel
theorem dX9_hasFallenFace_57 : decode cX9_hasFallenFace 57 = .ok (.ifCond .eq 5, 3) := by decide +kernel
theorem dX9_hasFallenFace_60 : decode cX9_hasFallenFace 60 = .ok (.iconst 1, 1) := by decide +kernel
theorem dX9_hasFallenFace_61 : decode cX9_hasFallenFace 61 = .ok (.ireturn, 1) := by decide +kernel
theorem dX9_hasFallenFace_62 : decode cX9_hasFallenFace 62 = .ok (.iinc 2 1, 3) := by decide +kernel
theorem dX9_hasFallenFace_65 : decode cX9_hasFallenFace 65 = .ok (.goto (-55), 3) := by decide +kernel
theorem dX9_hasFallenFace_68 : decode cX9_hasFallenFace 68 = .ok (.iconst 0, 1) := by decide +kernel
theorem dX9_hasFallenFace_69 : decode cX9_hasFallenFace 69 = .ok (.ireturn, 1) := by decide +kernel
theorem dX9_hasOpenPair_0 : decode cX9_hasOpenPair 0 = .ok (.aload_n 0, 1) := by decide +kernel
theorem dX9_hasOpenPair_1 : decode cX9_hasOpenPair 1 = .ok (.getfield 25, 3) := by decide +kernel
theorem dX9_hasOpenPair_4 : decode cX9_hasOpenPair 4 = .ok (.getfield 50, 3) := by decide +kernel
theorem dX9_hasOpenPair_7 : decode cX9_hasOpenPair 7 = .ok (.astore_n 1, 1) := by decide +kernel
theorem dX9_hasOpenPair_8 : decode cX9_hasOpenPair 8 = .ok (.iconst 0, 1) := by decide +kernel
theorem dX9_hasOpenPair_9 : decode cX9_hasOpenPair 9 = .ok (.istore_n 2, 1) := by decide +kernel
theorem dX9_hasOpenPair_10 : decode cX9_hasOpenPair 10 = .ok (.iload_n 2, 1) := by decide +kernel
theorem dX9_hasOpenPair_11 : decode cX9_hasOpenPair 11 = .ok (.aload_n 1, 1) := by decide +kernel
theorem dX9_hasOpenPair_12 : decode cX9_hasOpenPair 12 = .ok (.getfield 71, 3) := by decide +kernel
theorem dX9_hasOpenPair_15 : decode cX9_hasOpenPair 15 = .ok (.if_icmp .ge 39, 3) := by decide +kernel
theorem dX9_hasOpenPair_18 : decode cX9_hasOpenPair 18 = .ok (.aload_n 0, 1) := by decide +kernel
theorem dX9_hasOpenPair_19 : decode cX9_hasOpenPair 19 = .ok (.getfield 9, 3) := by decide +kernel
theorem dX9_hasOpenPair_22 : decode cX9_hasOpenPair 22 = .ok (.aload_n 1, 1) := by decide +kernel
theorem dX9_hasOpenPair_23 : decode cX9_hasOpenPair 23 = .ok (.getfield 74, 3) := by decide +kernel
theorem dX9_hasOpenPair_26 : decode cX9_hasOpenPair 26 = .ok (.iload_n 2, 1) := by decide +kernel
theorem dX9_hasOpenPair_27 : decode cX9_hasOpenPair 27 = .ok (.iaload, 1) := by decide +kernel
theorem dX9_hasOpenPair_28 : decode cX9_hasOpenPair 28 = .ok (.baload, 1) := by decide +kernel
theorem dX9_hasOpenPair_29 : decode cX9_hasOpenPair 29 = .ok (.ifCond .eq 19, 3) := by decide +kernel
theorem dX9_hasOpenPair_32 : decode cX9_hasOpenPair 32 = .ok (.aload_n 0, 1) := by decide +kernel
theorem dX9_hasOpenPair_33 : decode cX9_hasOpenPair 33 = .ok (.getfield 9, 3) := by decide +kernel
theorem dX9_hasOpenPair_36 : decode cX9_hasOpenPair 36 = .ok (.aload_n 1, 1) := by decide +kernel
theorem dX9_hasOpenPair_37 : decode cX9_hasOpenPair 37 = .ok (.getfield 77, 3) := by decide +kernel
theorem dX9_hasOpenPair_40 : decode cX9_hasOpenPair 40 = .ok (.iload_n 2, 1) := by decide +kernel
theorem dX9_hasOpenPair_41 : decode cX9_hasOpenPair 41 = .ok (.iaload, 1) := by decide +kernel
theorem dX9_hasOpenPair_42 : decode cX9_hasOpenPair 42 = .ok (.baload, 1) := by decide +kernel
theorem dX9_hasOpenPair_43 : decode cX9_hasOpenPair 43 = .ok (.ifCond .eq 5, 3) := by decide +kernel
theorem dX9_hasOpenPair_46 : decode cX9_hasOpenPair 46 = .ok (.iconst 1, 1) := by decide +kernel
theorem dX9_hasOpenPair_47 : decode cX9_hasOpenPair 47 = .ok (.ireturn, 1) := by decide +kernel
theorem dX9_hasOpenPair_48 : decode cX9_hasOpenPair 48 = .ok (.iinc 2 1, 3) := by decide +kernel
theorem dX9_hasOpenPair_51 : decode cX9_hasOpenPair 51 = .ok (.goto (-41), 3) := by decide +kernel
theorem dX9_hasOpenPair_54 : decode cX9_hasOpenPair 54 = .ok (.iconst 0, 1) := by decide +kernel
theorem dX9_hasOpenPair_55 : decode cX9_hasOpenPair 55 = .ok (.ireturn, 1) := by decide +kernel
theorem dX9_hindrance_0 : decode cX9_hindrance 0 = .ok (.aload_n 0, 1) := by decide +kernel
theorem dX9_hindrance_1 : decode cX9_hindrance 1 = .ok (.getfield 25, 3) := by decide +kernel
theorem dX9_hindrance_4 : decode cX9_hindrance 4 = .ok (.getfield 45, 3) := by decide +kernel
theorem dX9_hindrance_7 : decode cX9_hindrance 7 = .ok (.iload_n 1, 1) := by decide +kernel
theorem dX9_hindrance_8 : decode cX9_hindrance 8 = .ok (.iaload, 1) := by decide +kernel
theorem dX9_hindrance_9 : decode cX9_hindrance 9 = .ok (.istore_n 2, 1) := by decide +kernel
theorem dX9_hindrance_10 : decode cX9_hindrance 10 = .ok (.iload_n 2, 1) := by decide +kernel
theorem dX9_hindrance_11 : decode cX9_hindrance 11 = .ok (.iconst (-1), 1) := by decide +kernel
theorem dX9_hindrance_12 : decode cX9_hindrance 12 = .ok (.if_icmp .eq 12, 3) := by decide +kernel
theorem dX9_hindrance_15 : decode cX9_hindrance 15 = .ok (.aload_n 0, 1) := by decide +kernel
theorem dX9_hindrance_16 : decode cX9_hindrance 16 = .ok (.getfield 9, 3) := by decide +kernel
theorem dX9_hindrance_19 : decode cX9_hindrance 19 = .ok (.iload_n 2, 1) := by decide +kernel
theorem dX9_hindrance_20 : decode cX9_hindrance 20 = .ok (.baload, 1) := by decide +kernel
theorem dX9_hindrance_21 : decode cX9_hindrance 21 = .ok (.ifCond .eq 7, 3) := by decide +kernel
theorem dX9_hindrance_24 : decode cX9_hindrance 24 = .ok (.iconst 0, 1) := by decide +kernel
theorem dX9_hindrance_25 : decode cX9_hindrance 25 = .ok (.goto 15, 3) := by decide +kernel
theorem dX9_hindrance_28 : decode cX9_hindrance 28 = .ok (.aload_n 0, 1) := by decide +kernel
theorem dX9_hindrance_29 : decode cX9_hindrance 29 = .ok (.getfield 25, 3) := by decide +kernel
theorem dX9_hindrance_32 : decode cX9_hindrance 32 = .ok (.getfield 50, 3) := by decide +kernel
theorem dX9_hindrance_35 : decode cX9_hindrance 35 = .ok (.getfield 54, 3) := by decide +kernel
theorem dX9_hindrance_38 : decode cX9_hindrance 38 = .ok (.iload_n 2, 1) := by decide +kernel
theorem dX9_hindrance_39 : decode cX9_hindrance 39 = .ok (.iaload, 1) := by decide +kernel
theorem dX9_hindrance_40 : decode cX9_hindrance 40 = .ok (.istore_n 3, 1) := by decide +kernel
theorem dX9_hindrance_41 : decode cX9_hindrance 41 = .ok (.iload_n 1, 1) := by decide +kernel
theorem dX9_hindrance_42 : decode cX9_hindrance 42 = .ok (.aload_n 0, 1) := by decide +kernel
theorem dX9_hindrance_43 : decode cX9_hindrance 43 = .ok (.getfield 39, 3) := by decide +kernel
theorem dX9_hindrance_46 : decode cX9_hindrance 46 = .ok (.if_icmp .ne 10, 3) := by decide +kernel
theorem dX9_hindrance_49 : decode cX9_hindrance 49 = .ok (.aload_n 0, 1) := by decide +kernel
theorem dX9_hindrance_50 : decode cX9_hindrance 50 = .ok (.getfield 42, 3) := by decide +kernel
theorem dX9_hindrance_53 : decode cX9_hindrance 53 = .ok (.goto 4, 3) := by decide +kernel
theorem dX9_hindrance_56 : decode cX9_hindrance 56 = .ok (.iconst 0, 1) := by decide +kernel
theorem dX9_hindrance_57 : decode cX9_hindrance 57 = .ok (.istore 4, 2) := by decide +kernel
theorem dX9_hindrance_59 : decode cX9_hindrance 59 = .ok (.aload_n 0, 1) := by decide +kernel
theorem dX9_hindrance_60 : decode cX9_hindrance 60 = .ok (.getfield 25, 3) := by decide +kernel
theorem dX9_hindrance_63 : decode cX9_hindrance 63 = .ok (.getfield 59, 3) := by decide +kernel
theorem dX9_hindrance_66 : decode cX9_hindrance 66 = .ok (.iload_n 1, 1) := by decide +kernel
theorem dX9_hindrance_67 : decode cX9_hindrance 67 = .ok (.iaload, 1) := by decide +kernel
theorem dX9_hindrance_68 : decode cX9_hindrance 68 = .ok (.iload_n 3, 1) := by decide +kernel
theorem dX9_hindrance_69 : decode cX9_hindrance 69 = .ok (.iadd, 1) := by decide +kernel
theorem dX9_hindrance_70 : decode cX9_hindrance 70 = .ok (.iload 4, 2) := by decide +kernel
theorem dX9_hindrance_72 : decode cX9_hindrance 72 = .ok (.iadd, 1) := by decide +kernel
theorem dX9_hindrance_73 : decode cX9_hindrance 73 = .ok (.ireturn, 1) := by decide +kernel
theorem dX9_pull_0 : decode cX9_pull 0 = .ok (.aload_n 0, 1) := by decide +kernel
theorem dX9_pull_1 : decode cX9_pull 1 = .ok (.getfield 25, 3) := by decide +kernel
theorem dX9_pull_4 : decode cX9_pull 4 = .ok (.getfield 62, 3) := by decide +kernel
theorem dX9_pull_7 : decode cX9_pull 7 = .ok (.iload_n 1, 1) := by decide +kernel
theorem dX9_pull_8 : decode cX9_pull 8 = .ok (.iaload, 1) := by decide +kernel
theorem dX9_pull_9 : decode cX9_pull 9 = .ok (.istore_n 2, 1) := by decide +kernel
theorem dX9_pull_10 : decode cX9_pull 10 = .ok (.iload_n 2, 1) := by decide +kernel
theorem dX9_pull_11 : decode cX9_pull 11 = .ok (.iconst (-1), 1) := by decide +kernel
theorem dX9_pull_12 : decode cX9_pull 12 = .ok (.if_icmp .ne 7, 3) := by decide +kernel
theorem dX9_pull_15 : decode cX9_pull 15 = .ok (.iconst 0, 1) := by decide +kernel
theorem dX9_pull_16 : decode cX9_pull 16 = .ok (.goto 22, 3) := by decide +kernel
theorem dX9_pull_19 : decode cX9_pull 19 = .ok (.aload_n 0, 1) := by decide +kernel
theorem dX9_pull_20 : decode cX9_pull 20 = .ok (.getfield 25, 3) := by decide +kernel
theorem dX9_pull_23 : decode cX9_pull 23 = .ok (.getfield 50, 3) := by decide +kernel
theorem dX9_pull_26 : decode cX9_pull 26 = .ok (.getfield 65, 3) := by decide +kernel
theorem dX9_pull_29 : decode cX9_pull 29 = .ok (.iload_n 2, 1) := by decide +kernel
theorem dX9_pull_30 : decode cX9_pull 30 = .ok (.iaload, 1) := by decide +kernel
theorem dX9_pull_31 : decode cX9_pull 31 = .ok (.aload_n 0, 1) := by decide +kernel
theorem dX9_pull_32 : decode cX9_pull 32 = .ok (.getfield 15, 3) := by decide +kernel
theorem dX9_pull_35 : decode cX9_pull 35 = .ok (.iload_n 2, 1) := by decide +kernel
theorem dX9_pull_36 : decode cX9_pull 36 = .ok (.iaload, 1) := by decide +kernel
theorem dX9_pull_37 : decode cX9_pull 37 = .ok (.imul, 1) := by decide +kernel
theorem dX9_pull_38 : decode cX9_pull 38 = .ok (.istore_n 3, 1) := by decide +kernel
theorem dX9_pull_39 : decode cX9_pull 39 = .ok (.aload_n 0, 1) := by decide +kernel
theorem dX9_pull_40 : decode cX9_pull 40 = .ok (.getfield 25, 3) := by decide +kernel
theorem dX9_pull_43 : decode cX9_pull 43 = .ok (.getfield 68, 3) := by decide +kernel
theorem dX9_pull_46 : decode cX9_pull 46 = .ok (.iload_n 1, 1) := by decide +kernel
theorem dX9_pull_47 : decode cX9_pull 47 = .ok (.iaload, 1) := by decide +kernel
theorem dX9_pull_48 : decode cX9_pull 48 = .ok (.aload_n 0, 1) := by decide +kernel
theorem dX9_pull_49 : decode cX9_pull 49 = .ok (.getfield 22, 3) := by decide +kernel
theorem dX9_pull_52 : decode cX9_pull 52 = .ok (.iload_n 1, 1) := by decide +kernel
theorem dX9_pull_53 : decode cX9_pull 53 = .ok (.iaload, 1) := by decide +kernel
theorem dX9_pull_54 : decode cX9_pull 54 = .ok (.iadd, 1) := by decide +kernel
theorem dX9_pull_55 : decode cX9_pull 55 = .ok (.iload_n 3, 1) := by decide +kernel
theorem dX9_pull_56 : decode cX9_pull 56 = .ok (.iadd, 1) := by decide +kernel
theorem dX9_pull_57 : decode cX9_pull 57 = .ok (.ireturn, 1) := by decide +kernel
theorem dX9_reset_0 : decode cX9_reset 0 = .ok (.iconst 0, 1) := by decide +kernel
theorem dX9_reset_1 : decode cX9_reset 1 = .ok (.istore_n 1, 1) := by decide +kernel
theorem dX9_reset_2 : decode cX9_reset 2 = .ok (.iload_n 1, 1) := by decide +kernel
theorem dX9_reset_3 : decode cX9_reset 3 = .ok (.bipush 6, 2) := by decide +kernel
theorem dX9_reset_5 : decode cX9_reset 5 = .ok (.if_icmp .ge 16, 3) := by decide +kernel
theorem dX9_reset_8 : decode cX9_reset 8 = .ok (.aload_n 0, 1) := by decide +kernel
theorem dX9_reset_9 : decode cX9_reset 9 = .ok (.getfield 9, 3) := by decide +kernel
theorem dX9_reset_12 : decode cX9_reset 12 = .ok (.iload_n 1, 1) := by decide +kernel
theorem dX9_reset_13 : decode cX9_reset 13 = .ok (.iconst 0, 1) := by decide +kernel
theorem dX9_reset_14 : decode cX9_reset 14 = .ok (.bastore, 1) := by decide +kernel
theorem dX9_reset_15 : decode cX9_reset 15 = .ok (.iinc 1 1, 3) := by decide +kernel
theorem dX9_reset_18 : decode cX9_reset 18 = .ok (.goto (-16), 3) := by decide +kernel
theorem dX9_reset_21 : decode cX9_reset 21 = .ok (.iconst 0, 1) := by decide +kernel
theorem dX9_reset_22 : decode cX9_reset 22 = .ok (.istore_n 1, 1) := by decide +kernel
theorem dX9_reset_23 : decode cX9_reset 23 = .ok (.iload_n 1, 1) := by decide +kernel
theorem dX9_reset_24 : decode cX9_reset 24 = .ok (.bipush 14, 2) := by decide +kernel
theorem dX9_reset_26 : decode cX9_reset 26 = .ok (.if_icmp .ge 16, 3) := by decide +kernel
theorem dX9_reset_29 : decode cX9_reset 29 = .ok (.aload_n 0, 1) := by decide +kernel
theorem dX9_reset_30 : decode cX9_reset 30 = .ok (.getfield 19, 3) := by decide +kernel
theorem dX9_reset_33 : decode cX9_reset 33 = .ok (.iload_n 1, 1) := by decide +kernel
theorem dX9_reset_34 : decode cX9_reset 34 = .ok (.iconst 0, 1) := by decide +kernel
theorem dX9_reset_35 : decode cX9_reset 35 = .ok (.bastore, 1) := by decide +kernel
theorem dX9_reset_36 : decode cX9_reset 36 = .ok (.iinc 1 1, 3) := by decide +kernel
theorem dX9_reset_39 : decode cX9_reset 39 = .ok (.goto (-16), 3) := by decide +kernel
theorem dX9_reset_42 : decode cX9_reset 42 = .ok (.aload_n 0, 1) := by decide +kernel
theorem dX9_reset_43 : decode cX9_reset 43 = .ok (.getfield 15, 3) := by decide +kernel
theorem dX9_reset_46 : decode cX9_reset 46 = .ok (.iconst 1, 1) := by decide +kernel
theorem dX9_reset_47 : decode cX9_reset 47 = .ok (.invokestatic 29, 3) := by decide +kernel
theorem dX9_reset_50 : decode cX9_reset 50 = .ok (.aload_n 0, 1) := by decide +kernel
theorem dX9_reset_51 : decode cX9_reset 51 = .ok (.getfield 22, 3) := by decide +kernel
theorem dX9_reset_54 : decode cX9_reset 54 = .ok (.iconst 0, 1) := by decide +kernel
theorem dX9_reset_55 : decode cX9_reset 55 = .ok (.invokestatic 29, 3) := by decide +kernel
theorem dX9_reset_58 : decode cX9_reset 58 = .ok (.aload_n 0, 1) := by decide +kernel
theorem dX9_reset_59 : decode cX9_reset 59 = .ok (.bipush 10, 2) := by decide +kernel
theorem dX9_reset_61 : decode cX9_reset 61 = .ok (.putfield 35, 3) := by decide +kernel
theorem dX9_reset_64 : decode cX9_reset 64 = .ok (.aload_n 0, 1) := by decide +kernel
theorem dX9_reset_65 : decode cX9_reset 65 = .ok (.iconst (-1), 1) := by decide +kernel
theorem dX9_reset_66 : decode cX9_reset 66 = .ok (.putfield 39, 3) := by decide +kernel
theorem dX9_reset_69 : decode cX9_reset 69 = .ok (.aload_n 0, 1) := by decide +kernel
theorem dX9_reset_70 : decode cX9_reset 70 = .ok (.iconst 0, 1) := by decide +kernel
theorem dX9_reset_71 : decode cX9_reset 71 = .ok (.putfield 42, 3) := by decide +kernel
theorem dX9_reset_74 : decode cX9_reset 74 = .ok (.return_, 1) := by decide +kernel
set_option maxHeartbeats 4000000 in
set_option maxRecDepth 100000 in
theorem c9_hindrance (l : Launch) (dC : Nat → ClassId) (dI : Nat → Nat → Nat) (n0 : Nat) (atx : Nat → Nat × Nat) (sz : Nat) (st : Nat) (st_open : Nat) (st_speed : Nat) (st_fallen : Nat) (st_fire : Nat) (st_mark : Int32) (st_moreIn : Int32) (st_more : Int32) (bk : Nat) (bw : Nat) (bk_tail : Nat) (bk_head : Nat) (bk_hinder : Nat) (bk_size : Nat) (bk_walk : Nat) (bk_draught : Nat) (bk_doorIn : Nat) (bk_fanIn : Nat) (bk_faceIn : Nat) (bn : Nat) (bk_day : Int32) (gr : Nat) (gd : Nat) (gr_doorBy : Nat) (gp : Nat) (gr_pairFirst : Nat) (gr_pairSecond : Nat) (gf : Nat) (gr_fanPush : Nat) (gr_fanFall : Nat) (gr_fanCost : Nat) (ge : Nat) (gr_faceWay : Nat) (gr_faceGas : Nat) (gr_faceNeed : Nat) (k_bk_doorIn : ClassId) (f_bk_doorIn : Nat → Int32) (k_bk_hinder : ClassId) (f_bk_hinder : Nat → Int32) (k_gr_doorBy : ClassId) (f_gr_doorBy : Nat → Int32) (k_st_open : ClassId) (f_st_open : Nat → Int32) (w : Int32) (hbw : bw ≤ 14) (hbn : bn ≤ 10) (hgd : gd ≤ 6) (hgp : gp ≤ 3) (hgf : gf ≤ 4) (hge : ge ≤ 4) (q_day : -1 ≤ bk_day.toInt ∧ bk_day.toInt < 10) (q_doorIn : rg f_bk_doorIn 14 (-1) 6) (hw : vp_in w 14) : Met l yX9_hindrance (wM yX9_hindrance cX9_hindrance 5 (some .int)) ({ frames := 0, cells := 0, slots := 0, locals := 0 }) (va_Pc [.ref st, .int w] (fun U => U.heap.size = sz ∧ n0 ≤ sz ∧ GW n0 atx U ∧ va_P (dC, dI) classes [(st, .inr (9, [.ref st_open, .ref st_speed, .ref st_fallen, .ref st_fire, .int st_mark, .int st_moreIn, .int st_more, .ref bk])), (bk, .inr (0, [.int (nI bw), .ref bk_tail, .ref bk_head, .ref bk_hinder, .ref bk_size, .ref bk_walk, .ref bk_draught, .ref bk_doorIn, .ref bk_fanIn, .ref bk_faceIn, .int (nI bn), .int bk_day, .ref gr])), (gr, .inr (3, [.int (nI gd), .ref gr_doorBy, .int (nI gp), .ref gr_pairFirst, .ref gr_pairSecond, .int (nI gf), .ref gr_fanPush, .ref gr_fanFall, .ref gr_fanCost, .int (nI ge), .ref gr_faceWay, .ref gr_faceGas, .ref gr_faceNeed])), (bk_doorIn, .inl (k_bk_doorIn, 14, .inl f_bk_doorIn)), (bk_hinder, .inl (k_bk_hinder, 14, .inl f_bk_hinder)), (gr_doorBy, .inl (k_gr_doorBy, 6, .inl f_gr_doorBy)), (st_open, .inl (k_st_open, 6, .inl f_st_open))] U.heap ∧ va_K (dC, dI) classes [(k_bk_doorIn, .int), (k_bk_hinder, .int), (k_gr_doorBy, .int), (k_st_open, .boolean)] U ∧ va_D (fun q => n0 ≤ q) [(st, .inr (9, [.ref st_open, .ref st_speed, .ref st_fallen, .ref st_fire, .int st_mark, .int st_moreIn, .int st_more, .ref bk])), (bk, .inr (0, [.int (nI bw), .ref bk_tail, .ref bk_head, .ref bk_hinder, .ref bk_size, .ref bk_walk, .ref bk_draught, .ref bk_doorIn, .ref bk_fanIn, .ref bk_faceIn, .int (nI bn), .int bk_day, .ref gr])), (gr, .inr (3, [.int (nI gd), .ref gr_doorBy, .int (nI gp), .ref gr_pairFirst, .ref gr_pairSecond, .int (nI gf), .ref gr_fanPush, .ref gr_fanFall, .ref gr_fanCost, .int (nI ge), .ref gr_faceWay, .ref gr_faceGas, .ref gr_faceNeed])), (bk_doorIn, .inl (k_bk_doorIn, 14, .inl f_bk_doorIn)), (bk_hinder, .inl (k_bk_hinder, 14, .inl f_bk_hinder)), (gr_doorBy, .inl (k_gr_doorBy, 6, .inl f_gr_doorBy)), (st_open, .inl (k_st_open, 6, .inl f_st_open))])) (va_Qi (fun (r : Int32) (_ : Unit) => True) (fun (_ : Unit) (t : State) => va_P (dC, dI) classes [(st, .inr (9, [.ref st_open, .ref st_speed, .ref st_fallen, .ref st_fire, .int st_mark, .int st_moreIn, .int st_more, .ref bk])), (bk, .inr (0, [.int (nI bw), .ref bk_tail, .ref bk_head, .ref bk_hinder, .ref bk_size, .ref bk_walk, .ref bk_draught, .ref bk_doorIn, .ref bk_fanIn, .ref bk_faceIn, .int (nI bn), .int bk_day, .ref gr])), (gr, .inr (3, [.int (nI gd), .ref gr_doorBy, .int (nI gp), .ref gr_pairFirst, .ref gr_pairSecond, .int (nI gf), .ref gr_fanPush, .ref gr_fanFall, .ref gr_fanCost, .int (nI ge), .ref gr_faceWay, .ref gr_faceGas, .ref gr_faceNeed])), (bk_doorIn, .inl (k_bk_doorIn, 14, .inl f_bk_doorIn)), (bk_hinder, .inl (k_bk_hinder, 14, .inl f_bk_hinder)), (gr_doorBy, .inl (k_gr_doorBy, 6, .inl f_gr_doorBy)), (st_open, .inl (k_st_open, 6, .inl f_st_open))] t.heap ∧ va_K (dC, dI) classes [(k_bk_doorIn, .int), (k_bk_hinder, .int), (k_gr_doorBy, .int), (k_st_open, .boolean)] t ∧ va_D (va_A [(st, .inr (9, [.ref st_open, .ref st_speed, .ref st_fallen, .ref st_fire, .int st_mark, .int st_moreIn, .int st_more, .ref bk])), (bk, .inr (0, [.int (nI bw), .ref bk_tail, .ref bk_head, .ref bk_hinder, .ref bk_size, .ref bk_walk, .ref bk_draught, .ref bk_doorIn, .ref bk_fanIn, .ref bk_faceIn, .int (nI bn), .int bk_day, .ref gr])), (gr, .inr (3, [.int (nI gd), .ref gr_doorBy, .int (nI gp), .ref gr_pairFirst, .ref gr_pairSecond, .int (nI gf), .ref gr_fanPush, .ref gr_fanFall, .ref gr_fanCost, .int (nI ge), .ref gr_faceWay, .ref gr_faceGas, .ref gr_faceNeed])), (bk_doorIn, .inl (k_bk_doorIn, 14, .inl f_bk_doorIn)), (bk_hinder, .inl (k_bk_hinder, 14, .inl f_bk_hinder)), (gr_doorBy, .inl (k_gr_doorBy, 6, .inl f_gr_doorBy)), (st_open, .inl (k_st_open, 6, .inl f_st_open))] sz) [(st, .inr (9, [.ref st_open, .ref st_speed, .ref st_fallen, .ref st_fire, .int st_mark, .int st_moreIn, .int st_more, .ref bk])), (bk, .inr (0, [.int (nI bw), .ref bk_tail, .ref bk_head, .ref bk_hinder, .ref bk_size, .ref bk_walk, .ref bk_draught, .ref bk_doorIn, .ref bk_fanIn, .ref bk_faceIn, .int (nI bn), .int bk_day, .ref gr])), (gr, .inr (3, [.int (nI gd), .ref gr_doorBy, .int (nI gp), .ref gr_pairFirst, .ref gr_pairSecond, .int (nI gf), .ref gr_fanPush, .ref gr_fanFall, .ref gr_fanCost, .int (nI ge), .ref gr_faceWay, .ref gr_faceGas, .ref gr_faceNeed])), (bk_doorIn, .inl (k_bk_doorIn, 14, .inl f_bk_doorIn)), (bk_hinder, .inl (k_bk_hinder, 14, .inl f_bk_hinder)), (gr_doorBy, .inl (k_gr_doorBy, 6, .inl f_gr_doorBy)), (st_open, .inl (k_st_open, 6, .inl f_st_open))]) (va_A [(st, .inr (9, [.ref st_open, .ref st_speed, .ref st_fallen, .ref st_fire, .int st_mark, .int st_moreIn, .int st_more, .ref bk])), (bk, .inr (0, [.int (nI bw), .ref bk_tail, .ref bk_head, .ref bk_hinder, .ref bk_size, .ref bk_walk, .ref bk_draught, .ref bk_doorIn, .ref bk_fanIn, .ref bk_faceIn, .int (nI bn), .int bk_day, .ref gr])), (gr, .inr (3, [.int (nI gd), .ref gr_doorBy, .int (nI gp), .ref gr_pairFirst, .ref gr_pairSecond, .int (nI gf), .ref gr_fanPush, .ref gr_fanFall, .ref gr_fanCost, .int (nI ge), .ref gr_faceWay, .ref gr_faceGas, .ref gr_faceNeed])), (bk_doorIn, .inl (k_bk_doorIn, 14, .inl f_bk_doorIn)), (bk_hinder, .inl (k_bk_hinder, 14, .inl f_bk_hinder)), (gr_doorBy, .inl (k_gr_doorBy, 6, .inl f_gr_doorBy)), (st_open, .inl (k_st_open, 6, .inl f_st_open))] sz)) 0 0 (va_A [(st, .inr (9, [.ref st_open, .ref st_speed, .ref st_fallen, .ref st_fire, .int st_mark, .int st_moreIn, .int st_more, .ref bk])), (bk, .inr (0, [.int (nI bw), .ref bk_tail, .ref bk_head, .ref bk_hinder, .ref bk_size, .ref bk_walk, .ref bk_draught, .ref bk_doorIn, .ref bk_fanIn, .ref bk_faceIn, .int (nI bn), .int bk_day, .ref gr])), (gr, .inr (3, [.int (nI gd), .ref gr_doorBy, .int (nI gp), .ref gr_pairFirst, .ref gr_pairSecond, .int (nI gf), .ref gr_fanPush, .ref gr_fanFall, .ref gr_fanCost, .int (nI ge), .ref gr_faceWay, .ref gr_faceGas, .ref gr_faceNeed])), (bk_doorIn, .inl (k_bk_doorIn, 14, .inl f_bk_doorIn)), (bk_hinder, .inl (k_bk_hinder, 14, .inl f_bk_hinder)), (gr_doorBy, .inl (k_gr_doorBy, 6, .inl f_gr_doorBy)), (st_open, .inl (k_st_open, 6, .inl f_st_open))] sz) := by
  refine Met.ofW (cc := cX9_hindrance) (maxL := 5) (ret := (some .int)) (by decide) rfl ?_
  intro p e s m args below meth c s₁ B hml hv
  obtain ⟨rfl, hsz, hn0, hG, hP, hK, hD0⟩ := hv
  have hx := B.exec
  have hb := B.bytes
  have hr := B.returns
  have hts := atoms_spec (ws := wM yX9_hindrance cX9_hindrance 5 (some .int)) B.pre
  have hown : s.vm.findClass RX9 = some m.cls := findClass_of_methodNamed B.named
  have hlocks := B.notSynchronized
  subst hsz
  have hD := hD0.self (sz := s.heap.size)
  have hA0 := vA_n0 hD0 hn0
  generalize hAe : va_A [(st, .inr (9, [.ref st_open, .ref st_speed, .ref st_fallen, .ref st_fire, .int st_mark, .int st_moreIn, .int st_more, .ref bk])), (bk, .inr (0, [.int (nI bw), .ref bk_tail, .ref bk_head, .ref bk_hinder, .ref bk_size, .ref bk_walk, .ref bk_draught, .ref bk_doorIn, .ref bk_fanIn, .ref bk_faceIn, .int (nI bn), .int bk_day, .ref gr])), (gr, .inr (3, [.int (nI gd), .ref gr_doorBy, .int (nI gp), .ref gr_pairFirst, .ref gr_pairSecond, .int (nI gf), .ref gr_fanPush, .ref gr_fanFall, .ref gr_fanCost, .int (nI ge), .ref gr_faceWay, .ref gr_faceGas, .ref gr_faceNeed])), (bk_doorIn, .inl (k_bk_doorIn, 14, .inl f_bk_doorIn)), (bk_hinder, .inl (k_bk_hinder, 14, .inl f_bk_hinder)), (gr_doorBy, .inl (k_gr_doorBy, 6, .inl f_gr_doorBy)), (st_open, .inl (k_st_open, 6, .inl f_st_open))] s.heap.size = A at hD hA0 ⊢
  have hA : ∀ q : Nat, s.heap.size ≤ q → A q := fun q h => by rw [← hAe]; exact Or.inr h
  have hS : va_S A s.heap s.heap [] := va_S.rf
  have hl := lv_entry ([.ref st, .int w]) (n := 5) (Nat.le_of_ble_eq_true rfl)
  rw [lg_entry_eq]
  generalize (lg_sl ([.ref st, .int w]) ++ List.replicate (5 - (lg_sl ([.ref st, .int w])).length) Slot.unset).toArray = ls at hl ⊢
  have hl : lv_has ls 5 [(0, .ref st), (1, .int w)] := hl
  refine lv_aload_n hx hb dX9_hindrance_0 rfl (lv_at hl 0 rfl) ?_
  refine va_get (D := (dC, dI)) (ci := 9) (v := .ref bk) (C := RX9) (T := TX9) (N := 8) hx hb hts (fun w h => wM_c (iX9 w h)) hown hK hP 0 rfl rfl 7 (by decide) (hts _ (wM_c wd_412)) (fun _ h9 => h9) rfl dX9_hindrance_1 ?_
  refine va_get (D := (dC, dI)) (ci := 0) (v := .ref bk_doorIn) (C := RX0) (T := TX0) (N := 13) hx hb hts (fun w h => wM_c (iX0 w h)) hown hK hP 1 rfl rfl 7 (by decide) (hts _ (wM_c wd_272)) (fun _ h9 => h9) rfl dX9_hindrance_4 ?_
  refine lv_iload_n hx hb dX9_hindrance_7 rfl (lv_at hl 1 rfl) ?_
  refine va_iald hx hb hK hP 3 0 rfl rfl (by first | with_reducible assumption | exact vp_in_iff.mpr (by omega)) dX9_hindrance_8 ?_
  refine lv_topi (fun v_1 ev_1 => ?_)
  have g_2 : (-1) ≤ v_1.toInt ∧ v_1.toInt < 6 := by rw [ev_1]; exact rg_inx q_doorIn (by first | with_reducible assumption | exact vp_in_iff.mpr (by omega))
  refine lv_istore_n (lv' := [(2, .int v_1), (0, .ref st), (1, .int w)]) hx hb dX9_hindrance_9 rfl hl (by decide) rfl (fun ls hl => ?_)
  refine lv_iload_n hx hb dX9_hindrance_10 rfl (lv_at hl 0 rfl) ?_
  refine lv_iconst (v := (-1)) hx hb dX9_hindrance_11 (by decide) ?_
  refine lv_icmp_eq (tgt := 24) hx hb dX9_hindrance_12 (by decide) (fun c_3 => ?_) (fun c_3 => ?_)
  · skip
    have g_4 : v_1.toInt = (-1 : Int) := i_eq c_3
    refine lv_iconst (v := 0) hx hb dX9_hindrance_24 (by decide) ?_
    refine lv_goto (tgt := 40) hx hb dX9_hindrance_25 (by decide) ?_
    refine lv_istore_n (lv' := [(3, .int 0), (2, .int v_1), (0, .ref st), (1, .int w)]) hx hb dX9_hindrance_40 rfl hl (by decide) rfl (fun ls hl => ?_)
    refine lv_iload_n hx hb dX9_hindrance_41 rfl (lv_at hl 3 rfl) ?_
    refine lv_aload_n hx hb dX9_hindrance_42 rfl (lv_at hl 2 rfl) ?_
    refine va_get (D := (dC, dI)) (ci := 9) (v := .int st_moreIn) (C := RX9) (T := TX9) (N := 8) hx hb hts (fun w h => wM_c (iX9 w h)) hown hK hP 0 rfl rfl 5 (by decide) (hts _ (wM_c wd_408)) (fun _ h9 => h9) rfl dX9_hindrance_43 ?_
    refine lv_icmp_ne (tgt := 56) hx hb dX9_hindrance_46 (by decide) (fun c_5 => ?_) (fun c_5 => ?_)
    · skip
      have g_6 : w.toInt ≠ st_moreIn.toInt := i_ne c_5
      refine lv_iconst (v := 0) hx hb dX9_hindrance_56 (by decide) ?_
      refine lv_istore (lv' := [(4, .int 0), (3, .int 0), (2, .int v_1), (0, .ref st), (1, .int w)]) hx hb dX9_hindrance_57 hl (by decide) rfl (fun ls hl => ?_)
      refine lv_aload_n hx hb dX9_hindrance_59 rfl (lv_at hl 3 rfl) ?_
      refine va_get (D := (dC, dI)) (ci := 9) (v := .ref bk) (C := RX9) (T := TX9) (N := 8) hx hb hts (fun w h => wM_c (iX9 w h)) hown hK hP 0 rfl rfl 7 (by decide) (hts _ (wM_c wd_412)) (fun _ h9 => h9) rfl dX9_hindrance_60 ?_
      refine va_get (D := (dC, dI)) (ci := 0) (v := .ref bk_hinder) (C := RX0) (T := TX0) (N := 13) hx hb hts (fun w h => wM_c (iX0 w h)) hown hK hP 1 rfl rfl 3 (by decide) (hts _ (wM_c wd_257)) (fun _ h9 => h9) rfl dX9_hindrance_63 ?_
      refine lv_iload_n hx hb dX9_hindrance_66 rfl (lv_at hl 4 rfl) ?_
      refine va_iald hx hb hK hP 4 1 rfl rfl (by first | with_reducible assumption | exact vp_in_iff.mpr (by omega)) dX9_hindrance_67 ?_
      refine lv_topi (fun v_7 ev_7 => ?_)
      refine lv_iload_n hx hb dX9_hindrance_68 rfl (lv_at hl 1 rfl) ?_
      refine lv_iadd hx hb dX9_hindrance_69 ?_
      refine lv_topi (fun v_8 ev_8 => ?_)
      refine lv_iload hx hb dX9_hindrance_70 (lv_at hl 0 rfl) ?_
      refine lv_iadd hx hb dX9_hindrance_72 ?_
      refine lv_topi (fun v_9 ev_9 => ?_)
      have hK9 := hK.sub (tys' := [(k_bk_doorIn, .int), (k_bk_hinder, .int), (k_gr_doorBy, .int), (k_st_open, .boolean)]) [0, 1, 2, 3] rfl
      exact W.iret (v := v_9) hx hb hr (fun t ht hW => ⟨⟨v_9, (), rfl, trivial, by rw [ht]; exact hP.sub [0, 1, 2, 3, 4, 5, 6] rfl, va_K.moved hW.alike hK9, hD.sub [0, 1, 2, 3, 4, 5, 6] (by decide) rfl⟩, hS.F ht⟩) hS.2.2 dX9_hindrance_73
    · skip
      have g_10 : w.toInt = st_moreIn.toInt := i_eq c_5
      refine lv_aload_n hx hb dX9_hindrance_49 rfl (lv_at hl 2 rfl) ?_
      refine va_get (D := (dC, dI)) (ci := 9) (v := .int st_more) (C := RX9) (T := TX9) (N := 8) hx hb hts (fun w h => wM_c (iX9 w h)) hown hK hP 0 rfl rfl 6 (by decide) (hts _ (wM_c wd_410)) (fun _ h9 => h9) rfl dX9_hindrance_50 ?_
      refine lv_goto (tgt := 57) hx hb dX9_hindrance_53 (by decide) ?_
      refine lv_istore (lv' := [(4, .int st_more), (3, .int 0), (2, .int v_1), (0, .ref st), (1, .int w)]) hx hb dX9_hindrance_57 hl (by decide) rfl (fun ls hl => ?_)
      refine lv_aload_n hx hb dX9_hindrance_59 rfl (lv_at hl 3 rfl) ?_
      refine va_get (D := (dC, dI)) (ci := 9) (v := .ref bk) (C := RX9) (T := TX9) (N := 8) hx hb hts (fun w h => wM_c (iX9 w h)) hown hK hP 0 rfl rfl 7 (by decide) (hts _ (wM_c wd_412)) (fun _ h9 => h9) rfl dX9_hindrance_60 ?_
      refine va_get (D := (dC, dI)) (ci := 0) (v := .ref bk_hinder) (C := RX0) (T := TX0) (N := 13) hx hb hts (fun w h => wM_c (iX0 w h)) hown hK hP 1 rfl rfl 3 (by decide) (hts _ (wM_c wd_257)) (fun _ h9 => h9) rfl dX9_hindrance_63 ?_
      refine lv_iload_n hx hb dX9_hindrance_66 rfl (lv_at hl 4 rfl) ?_
      refine va_iald hx hb hK hP 4 1 rfl rfl (by first | with_reducible assumption | exact vp_in_iff.mpr (by omega)) dX9_hindrance_67 ?_
      refine lv_topi (fun v_11 ev_11 => ?_)
      refine lv_iload_n hx hb dX9_hindrance_68 rfl (lv_at hl 1 rfl) ?_
      refine lv_iadd hx hb dX9_hindrance_69 ?_
      refine lv_topi (fun v_12 ev_12 => ?_)
      refine lv_iload hx hb dX9_hindrance_70 (lv_at hl 0 rfl) ?_
      refine lv_iadd hx hb dX9_hindrance_72 ?_
      refine lv_topi (fun v_13 ev_13 => ?_)
      have hK9 := hK.sub (tys' := [(k_bk_doorIn, .int), (k_bk_hinder, .int), (k_gr_doorBy, .int), (k_st_open, .boolean)]) [0, 1, 2, 3] rfl
      exact W.iret (v := v_13) hx hb hr (fun t ht hW => ⟨⟨v_13, (), rfl, trivial, by rw [ht]; exact hP.sub [0, 1, 2, 3, 4, 5, 6] rfl, va_K.moved hW.alike hK9, hD.sub [0, 1, 2, 3, 4, 5, 6] (by decide) rfl⟩, hS.F ht⟩) hS.2.2 dX9_hindrance_73
  · skip
    have g_14 : v_1.toInt ≠ (-1 : Int) := i_ne c_3
    refine lv_aload_n hx hb dX9_hindrance_15 rfl (lv_at hl 1 rfl) ?_
    refine va_get (D := (dC, dI)) (ci := 9) (v := .ref st_open) (C := RX9) (T := TX9) (N := 8) hx hb hts (fun w h => wM_c (iX9 w h)) hown hK hP 0 rfl rfl 0 (by decide) (hts _ (wM_c wd_389)) (fun _ h9 => h9) rfl dX9_hindrance_16 ?_
    refine lv_iload_n hx hb dX9_hindrance_19 rfl (lv_at hl 0 rfl) ?_
    refine va_zald hx hb hK hP 6 3 rfl rfl (by first | with_reducible assumption | exact vp_in_iff.mpr (by omega)) dX9_hindrance_20 ?_
    refine lv_topi (fun v_15 ev_15 => ?_)
    refine lv_if_eq (tgt := 28) hx hb dX9_hindrance_21 (by decide) (fun c_16 => ?_) (fun c_16 => ?_)
    · skip
      have g_17 : v_15.toInt = (0 : Int) := i_eq c_16
      refine lv_aload_n hx hb dX9_hindrance_28 rfl (lv_at hl 1 rfl) ?_
      refine va_get (D := (dC, dI)) (ci := 9) (v := .ref bk) (C := RX9) (T := TX9) (N := 8) hx hb hts (fun w h => wM_c (iX9 w h)) hown hK hP 0 rfl rfl 7 (by decide) (hts _ (wM_c wd_412)) (fun _ h9 => h9) rfl dX9_hindrance_29 ?_
      refine va_get (D := (dC, dI)) (ci := 0) (v := .ref gr) (C := RX0) (T := TX0) (N := 13) hx hb hts (fun w h => wM_c (iX0 w h)) hown hK hP 1 rfl rfl 12 (by decide) (hts _ (wM_c wd_295)) (fun _ h9 => h9) rfl dX9_hindrance_32 ?_
      refine va_get (D := (dC, dI)) (ci := 3) (v := .ref gr_doorBy) (C := RX3) (T := TX3) (N := 13) hx hb hts (fun w h => wM_c (iX3 w h)) hown hK hP 2 rfl rfl 1 (by decide) (hts _ (wM_c wd_165)) (fun _ h9 => h9) rfl dX9_hindrance_35 ?_
      refine lv_iload_n hx hb dX9_hindrance_38 rfl (lv_at hl 0 rfl) ?_
      refine va_iald hx hb hK hP 5 2 rfl rfl (by first | with_reducible assumption | exact vp_in_iff.mpr (by omega)) dX9_hindrance_39 ?_
      refine lv_topi (fun v_18 ev_18 => ?_)
      refine lv_istore_n (lv' := [(3, .int v_18), (2, .int v_1), (0, .ref st), (1, .int w)]) hx hb dX9_hindrance_40 rfl hl (by decide) rfl (fun ls hl => ?_)
      refine lv_iload_n hx hb dX9_hindrance_41 rfl (lv_at hl 3 rfl) ?_
      refine lv_aload_n hx hb dX9_hindrance_42 rfl (lv_at hl 2 rfl) ?_
      refine va_get (D := (dC, dI)) (ci := 9) (v := .int st_moreIn) (C := RX9) (T := TX9) (N := 8) hx hb hts (fun w h => wM_c (iX9 w h)) hown hK hP 0 rfl rfl 5 (by decide) (hts _ (wM_c wd_408)) (fun _ h9 => h9) rfl dX9_hindrance_43 ?_
      refine lv_icmp_ne (tgt := 56) hx hb dX9_hindrance_46 (by decide) (fun c_19 => ?_) (fun c_19 => ?_)
      · skip
        have g_20 : w.toInt ≠ st_moreIn.toInt := i_ne c_19
        refine lv_iconst (v := 0) hx hb dX9_hindrance_56 (by decide) ?_
        refine lv_istore (lv' := [(4, .int 0), (3, .int v_18), (2, .int v_1), (0, .ref st), (1, .int w)]) hx hb dX9_hindrance_57 hl (by decide) rfl (fun ls hl => ?_)
        refine lv_aload_n hx hb dX9_hindrance_59 rfl (lv_at hl 3 rfl) ?_
        refine va_get (D := (dC, dI)) (ci := 9) (v := .ref bk) (C := RX9) (T := TX9) (N := 8) hx hb hts (fun w h => wM_c (iX9 w h)) hown hK hP 0 rfl rfl 7 (by decide) (hts _ (wM_c wd_412)) (fun _ h9 => h9) rfl dX9_hindrance_60 ?_
        refine va_get (D := (dC, dI)) (ci := 0) (v := .ref bk_hinder) (C := RX0) (T := TX0) (N := 13) hx hb hts (fun w h => wM_c (iX0 w h)) hown hK hP 1 rfl rfl 3 (by decide) (hts _ (wM_c wd_257)) (fun _ h9 => h9) rfl dX9_hindrance_63 ?_
        refine lv_iload_n hx hb dX9_hindrance_66 rfl (lv_at hl 4 rfl) ?_
        refine va_iald hx hb hK hP 4 1 rfl rfl (by first | with_reducible assumption | exact vp_in_iff.mpr (by omega)) dX9_hindrance_67 ?_
        refine lv_topi (fun v_21 ev_21 => ?_)
        refine lv_iload_n hx hb dX9_hindrance_68 rfl (lv_at hl 1 rfl) ?_
        refine lv_iadd hx hb dX9_hindrance_69 ?_
        refine lv_topi (fun v_22 ev_22 => ?_)
        refine lv_iload hx hb dX9_hindrance_70 (lv_at hl 0 rfl) ?_
        refine lv_iadd hx hb dX9_hindrance_72 ?_
        refine lv_topi (fun v_23 ev_23 => ?_)
        have hK9 := hK.sub (tys' := [(k_bk_doorIn, .int), (k_bk_hinder, .int), (k_gr_doorBy, .int), (k_st_open, .boolean)]) [0, 1, 2, 3] rfl
        exact W.iret (v := v_23) hx hb hr (fun t ht hW => ⟨⟨v_23, (), rfl, trivial, by rw [ht]; exact hP.sub [0, 1, 2, 3, 4, 5, 6] rfl, va_K.moved hW.alike hK9, hD.sub [0, 1, 2, 3, 4, 5, 6] (by decide) rfl⟩, hS.F ht⟩) hS.2.2 dX9_hindrance_73
      · skip
        have g_24 : w.toInt = st_moreIn.toInt := i_eq c_19
        refine lv_aload_n hx hb dX9_hindrance_49 rfl (lv_at hl 2 rfl) ?_
        refine va_get (D := (dC, dI)) (ci := 9) (v := .int st_more) (C := RX9) (T := TX9) (N := 8) hx hb hts (fun w h => wM_c (iX9 w h)) hown hK hP 0 rfl rfl 6 (by decide) (hts _ (wM_c wd_410)) (fun _ h9 => h9) rfl dX9_hindrance_50 ?_
        refine lv_goto (tgt := 57) hx hb dX9_hindrance_53 (by decide) ?_
        refine lv_istore (lv' := [(4, .int st_more), (3, .int v_18), (2, .int v_1), (0, .ref st), (1, .int w)]) hx hb dX9_hindrance_57 hl (by decide) rfl (fun ls hl => ?_)
        refine lv_aload_n hx hb dX9_hindrance_59 rfl (lv_at hl 3 rfl) ?_
        refine va_get (D := (dC, dI)) (ci := 9) (v := .ref bk) (C := RX9) (T := TX9) (N := 8) hx hb hts (fun w h => wM_c (iX9 w h)) hown hK hP 0 rfl rfl 7 (by decide) (hts _ (wM_c wd_412)) (fun _ h9 => h9) rfl dX9_hindrance_60 ?_
        refine va_get (D := (dC, dI)) (ci := 0) (v := .ref bk_hinder) (C := RX0) (T := TX0) (N := 13) hx hb hts (fun w h => wM_c (iX0 w h)) hown hK hP 1 rfl rfl 3 (by decide) (hts _ (wM_c wd_257)) (fun _ h9 => h9) rfl dX9_hindrance_63 ?_
        refine lv_iload_n hx hb dX9_hindrance_66 rfl (lv_at hl 4 rfl) ?_
        refine va_iald hx hb hK hP 4 1 rfl rfl (by first | with_reducible assumption | exact vp_in_iff.mpr (by omega)) dX9_hindrance_67 ?_
        refine lv_topi (fun v_25 ev_25 => ?_)
        refine lv_iload_n hx hb dX9_hindrance_68 rfl (lv_at hl 1 rfl) ?_
        refine lv_iadd hx hb dX9_hindrance_69 ?_
        refine lv_topi (fun v_26 ev_26 => ?_)
        refine lv_iload hx hb dX9_hindrance_70 (lv_at hl 0 rfl) ?_
        refine lv_iadd hx hb dX9_hindrance_72 ?_
        refine lv_topi (fun v_27 ev_27 => ?_)
        have hK9 := hK.sub (tys' := [(k_bk_doorIn, .int), (k_bk_hinder, .int), (k_gr_doorBy, .int), (k_st_open, .boolean)]) [0, 1, 2, 3] rfl
        exact W.iret (v := v_27) hx hb hr (fun t ht hW => ⟨⟨v_27, (), rfl, trivial, by rw [ht]; exact hP.sub [0, 1, 2, 3, 4, 5, 6] rfl, va_K.moved hW.alike hK9, hD.sub [0, 1, 2, 3, 4, 5, 6] (by decide) rfl⟩, hS.F ht⟩) hS.2.2 dX9_hindrance_73
    · skip
      have g_28 : v_15.toInt ≠ (0 : Int) := i_ne c_16
      refine lv_iconst (v := 0) hx hb dX9_hindrance_24 (by decide) ?_
      refine lv_goto (tgt := 40) hx hb dX9_hindrance_25 (by decide) ?_
      refine lv_istore_n (lv' := [(3, .int 0), (2, .int v_1), (0, .ref st), (1, .int w)]) hx hb dX9_hindrance_40 rfl hl (by decide) rfl (fun ls hl => ?_)
      refine lv_iload_n hx hb dX9_hindrance_41 rfl (lv_at hl 3 rfl) ?_
      refine lv_aload_n hx hb dX9_hindrance_42 rfl (lv_at hl 2 rfl) ?_
      refine va_get (D := (dC, dI)) (ci := 9) (v := .int st_moreIn) (C := RX9) (T := TX9) (N := 8) hx hb hts (fun w h => wM_c (iX9 w h)) hown hK hP 0 rfl rfl 5 (by decide) (hts _ (wM_c wd_408)) (fun _ h9 => h9) rfl dX9_hindrance_43 ?_
      refine lv_icmp_ne (tgt := 56) hx hb dX9_hindrance_46 (by decide) (fun c_29 => ?_) (fun c_29 => ?_)
      · skip
        have g_30 : w.toInt ≠ st_moreIn.toInt := i_ne c_29
        refine lv_iconst (v := 0) hx hb dX9_hindrance_56 (by decide) ?_
        refine lv_istore (lv' := [(4, .int 0), (3, .int 0), (2, .int v_1), (0, .ref st), (1, .int w)]) hx hb dX9_hindrance_57 hl (by decide) rfl (fun ls hl => ?_)
        refine lv_aload_n hx hb dX9_hindrance_59 rfl (lv_at hl 3 rfl) ?_
        refine va_get (D := (dC, dI)) (ci := 9) (v := .ref bk) (C := RX9) (T := TX9) (N := 8) hx hb hts (fun w h => wM_c (iX9 w h)) hown hK hP 0 rfl rfl 7 (by decide) (hts _ (wM_c wd_412)) (fun _ h9 => h9) rfl dX9_hindrance_60 ?_
        refine va_get (D := (dC, dI)) (ci := 0) (v := .ref bk_hinder) (C := RX0) (T := TX0) (N := 13) hx hb hts (fun w h => wM_c (iX0 w h)) hown hK hP 1 rfl rfl 3 (by decide) (hts _ (wM_c wd_257)) (fun _ h9 => h9) rfl dX9_hindrance_63 ?_
        refine lv_iload_n hx hb dX9_hindrance_66 rfl (lv_at hl 4 rfl) ?_
        refine va_iald hx hb hK hP 4 1 rfl rfl (by first | with_reducible assumption | exact vp_in_iff.mpr (by omega)) dX9_hindrance_67 ?_
        refine lv_topi (fun v_31 ev_31 => ?_)
        refine lv_iload_n hx hb dX9_hindrance_68 rfl (lv_at hl 1 rfl) ?_
        refine lv_iadd hx hb dX9_hindrance_69 ?_
        refine lv_topi (fun v_32 ev_32 => ?_)
        refine lv_iload hx hb dX9_hindrance_70 (lv_at hl 0 rfl) ?_
        refine lv_iadd hx hb dX9_hindrance_72 ?_
        refine lv_topi (fun v_33 ev_33 => ?_)
        have hK9 := hK.sub (tys' := [(k_bk_doorIn, .int), (k_bk_hinder, .int), (k_gr_doorBy, .int), (k_st_open, .boolean)]) [0, 1, 2, 3] rfl
        exact W.iret (v := v_33) hx hb hr (fun t ht hW => ⟨⟨v_33, (), rfl, trivial, by rw [ht]; exact hP.sub [0, 1, 2, 3, 4, 5, 6] rfl, va_K.moved hW.alike hK9, hD.sub [0, 1, 2, 3, 4, 5, 6] (by decide) rfl⟩, hS.F ht⟩) hS.2.2 dX9_hindrance_73
      · skip
        have g_34 : w.toInt = st_moreIn.toInt := i_eq c_29
        refine lv_aload_n hx hb dX9_hindrance_49 rfl (lv_at hl 2 rfl) ?_
        refine va_get (D := (dC, dI)) (ci := 9) (v := .int st_more) (C := RX9) (T := TX9) (N := 8) hx hb hts (fun w h => wM_c (iX9 w h)) hown hK hP 0 rfl rfl 6 (by decide) (hts _ (wM_c wd_410)) (fun _ h9 => h9) rfl dX9_hindrance_50 ?_
        refine lv_goto (tgt := 57) hx hb dX9_hindrance_53 (by decide) ?_
        refine lv_istore (lv' := [(4, .int st_more), (3, .int 0), (2, .int v_1), (0, .ref st), (1, .int w)]) hx hb dX9_hindrance_57 hl (by decide) rfl (fun ls hl => ?_)
        refine lv_aload_n hx hb dX9_hindrance_59 rfl (lv_at hl 3 rfl) ?_
        refine va_get (D := (dC, dI)) (ci := 9) (v := .ref bk) (C := RX9) (T := TX9) (N := 8) hx hb hts (fun w h => wM_c (iX9 w h)) hown hK hP 0 rfl rfl 7 (by decide) (hts _ (wM_c wd_412)) (fun _ h9 => h9) rfl dX9_hindrance_60 ?_
        refine va_get (D := (dC, dI)) (ci := 0) (v := .ref bk_hinder) (C := RX0) (T := TX0) (N := 13) hx hb hts (fun w h => wM_c (iX0 w h)) hown hK hP 1 rfl rfl 3 (by decide) (hts _ (wM_c wd_257)) (fun _ h9 => h9) rfl dX9_hindrance_63 ?_
        refine lv_iload_n hx hb dX9_hindrance_66 rfl (lv_at hl 4 rfl) ?_
        refine va_iald hx hb hK hP 4 1 rfl rfl (by first | with_reducible assumption | exact vp_in_iff.mpr (by omega)) dX9_hindrance_67 ?_
        refine lv_topi (fun v_35 ev_35 => ?_)
        refine lv_iload_n hx hb dX9_hindrance_68 rfl (lv_at hl 1 rfl) ?_
        refine lv_iadd hx hb dX9_hindrance_69 ?_
        refine lv_topi (fun v_36 ev_36 => ?_)
        refine lv_iload hx hb dX9_hindrance_70 (lv_at hl 0 rfl) ?_
        refine lv_iadd hx hb dX9_hindrance_72 ?_
        refine lv_topi (fun v_37 ev_37 => ?_)
        have hK9 := hK.sub (tys' := [(k_bk_doorIn, .int), (k_bk_hinder, .int), (k_gr_doorBy, .int), (k_st_open, .boolean)]) [0, 1, 2, 3] rfl
        exact W.iret (v := v_37) hx hb hr (fun t ht hW => ⟨⟨v_37, (), rfl, trivial, by rw [ht]; exact hP.sub [0, 1, 2, 3, 4, 5, 6] rfl, va_K.moved hW.alike hK9, hD.sub [0, 1, 2, 3, 4, 5, 6] (by decide) rfl⟩, hS.F ht⟩) hS.2.2 dX9_hindrance_73
set_option maxHeartbeats 4000000 in
set_option maxRecDepth 100000 in
theorem c9_pull (l : Launch) (dC : Nat → ClassId) (dI : Nat → Nat → Nat) (n0 : Nat) (atx : Nat → Nat × Nat) (sz : Nat) (st : Nat) (st_open : Nat) (st_speed : Nat) (st_fallen : Nat) (st_fire : Nat) (st_mark : Int32) (st_moreIn : Int32) (st_more : Int32) (bk : Nat) (bw : Nat) (bk_tail : Nat) (bk_head : Nat) (bk_hinder : Nat) (bk_size : Nat) (bk_walk : Nat) (bk_draught : Nat) (bk_doorIn : Nat) (bk_fanIn : Nat) (bk_faceIn : Nat) (bn : Nat) (bk_day : Int32) (gr : Nat) (gd : Nat) (gr_doorBy : Nat) (gp : Nat) (gr_pairFirst : Nat) (gr_pairSecond : Nat) (gf : Nat) (gr_fanPush : Nat) (gr_fanFall : Nat) (gr_fanCost : Nat) (ge : Nat) (gr_faceWay : Nat) (gr_faceGas : Nat) (gr_faceNeed : Nat) (k_bk_fanIn : ClassId) (f_bk_fanIn : Nat → Int32) (k_bk_draught : ClassId) (f_bk_draught : Nat → Int32) (k_gr_fanPush : ClassId) (f_gr_fanPush : Nat → Int32) (k_st_speed : ClassId) (f_st_speed : Nat → Int32) (k_st_fire : ClassId) (f_st_fire : Nat → Int32) (w : Int32) (hbw : bw ≤ 14) (hbn : bn ≤ 10) (hgd : gd ≤ 6) (hgp : gp ≤ 3) (hgf : gf ≤ 4) (hge : ge ≤ 4) (q_day : -1 ≤ bk_day.toInt ∧ bk_day.toInt < 10) (q_fanIn : rg f_bk_fanIn 14 (-1) 4) (hw : vp_in w 14) : Met l yX9_pull (wM yX9_pull cX9_pull 4 (some .int)) ({ frames := 0, cells := 0, slots := 0, locals := 0 }) (va_Pc [.ref st, .int w] (fun U => U.heap.size = sz ∧ n0 ≤ sz ∧ GW n0 atx U ∧ va_P (dC, dI) classes [(st, .inr (9, [.ref st_open, .ref st_speed, .ref st_fallen, .ref st_fire, .int st_mark, .int st_moreIn, .int st_more, .ref bk])), (bk, .inr (0, [.int (nI bw), .ref bk_tail, .ref bk_head, .ref bk_hinder, .ref bk_size, .ref bk_walk, .ref bk_draught, .ref bk_doorIn, .ref bk_fanIn, .ref bk_faceIn, .int (nI bn), .int bk_day, .ref gr])), (gr, .inr (3, [.int (nI gd), .ref gr_doorBy, .int (nI gp), .ref gr_pairFirst, .ref gr_pairSecond, .int (nI gf), .ref gr_fanPush, .ref gr_fanFall, .ref gr_fanCost, .int (nI ge), .ref gr_faceWay, .ref gr_faceGas, .ref gr_faceNeed])), (bk_fanIn, .inl (k_bk_fanIn, 14, .inl f_bk_fanIn)), (bk_draught, .inl (k_bk_draught, 14, .inl f_bk_draught)), (gr_fanPush, .inl (k_gr_fanPush, 4, .inl f_gr_fanPush)), (st_speed, .inl (k_st_speed, 4, .inl f_st_speed)), (st_fire, .inl (k_st_fire, 14, .inl f_st_fire))] U.heap ∧ va_K (dC, dI) classes [(k_bk_fanIn, .int), (k_bk_draught, .int), (k_gr_fanPush, .int), (k_st_speed, .int), (k_st_fire, .int)] U ∧ va_D (fun q => n0 ≤ q) [(st, .inr (9, [.ref st_open, .ref st_speed, .ref st_fallen, .ref st_fire, .int st_mark, .int st_moreIn, .int st_more, .ref bk])), (bk, .inr (0, [.int (nI bw), .ref bk_tail, .ref bk_head, .ref bk_hinder, .ref bk_size, .ref bk_walk, .ref bk_draught, .ref bk_doorIn, .ref bk_fanIn, .ref bk_faceIn, .int (nI bn), .int bk_day, .ref gr])), (gr, .inr (3, [.int (nI gd), .ref gr_doorBy, .int (nI gp), .ref gr_pairFirst, .ref gr_pairSecond, .int (nI gf), .ref gr_fanPush, .ref gr_fanFall, .ref gr_fanCost, .int (nI ge), .ref gr_faceWay, .ref gr_faceGas, .ref gr_faceNeed])), (bk_fanIn, .inl (k_bk_fanIn, 14, .inl f_bk_fanIn)), (bk_draught, .inl (k_bk_draught, 14, .inl f_bk_draught)), (gr_fanPush, .inl (k_gr_fanPush, 4, .inl f_gr_fanPush)), (st_speed, .inl (k_st_speed, 4, .inl f_st_speed)), (st_fire, .inl (k_st_fire, 14, .inl f_st_fire))])) (va_Qi (fun (r : Int32) (_ : Unit) => True) (fun (_ : Unit) (t : State) => va_P (dC, dI) classes [(st, .inr (9, [.ref st_open, .ref st_speed, .ref st_fallen, .ref st_fire, .int st_mark, .int st_moreIn, .int st_more, .ref bk])), (bk, .inr (0, [.int (nI bw), .ref bk_tail, .ref bk_head, .ref bk_hinder, .ref bk_size, .ref bk_walk, .ref bk_draught, .ref bk_doorIn, .ref bk_fanIn, .ref bk_faceIn, .int (nI bn), .int bk_day, .ref gr])), (gr, .inr (3, [.int (nI gd), .ref gr_doorBy, .int (nI gp), .ref gr_pairFirst, .ref gr_pairSecond, .int (nI gf), .ref gr_fanPush, .ref gr_fanFall, .ref gr_fanCost, .int (nI ge), .ref gr_faceWay, .ref gr_faceGas, .ref gr_faceNeed])), (bk_fanIn, .inl (k_bk_fanIn, 14, .inl f_bk_fanIn)), (bk_draught, .inl (k_bk_draught, 14, .inl f_bk_draught)), (gr_fanPush, .inl (k_gr_fanPush, 4, .inl f_gr_fanPush)), (st_speed, .inl (k_st_speed, 4, .inl f_st_speed)), (st_fire, .inl (k_st_fire, 14, .inl f_st_fire))] t.heap ∧ va_K (dC, dI) classes [(k_bk_fanIn, .int), (k_bk_draught, .int), (k_gr_fanPush, .int), (k_st_speed, .int), (k_st_fire, .int)] t ∧ va_D (va_A [(st, .inr (9, [.ref st_open, .ref st_speed, .ref st_fallen, .ref st_fire, .int st_mark, .int st_moreIn, .int st_more, .ref bk])), (bk, .inr (0, [.int (nI bw), .ref bk_tail, .ref bk_head, .ref bk_hinder, .ref bk_size, .ref bk_walk, .ref bk_draught, .ref bk_doorIn, .ref bk_fanIn, .ref bk_faceIn, .int (nI bn), .int bk_day, .ref gr])), (gr, .inr (3, [.int (nI gd), .ref gr_doorBy, .int (nI gp), .ref gr_pairFirst, .ref gr_pairSecond, .int (nI gf), .ref gr_fanPush, .ref gr_fanFall, .ref gr_fanCost, .int (nI ge), .ref gr_faceWay, .ref gr_faceGas, .ref gr_faceNeed])), (bk_fanIn, .inl (k_bk_fanIn, 14, .inl f_bk_fanIn)), (bk_draught, .inl (k_bk_draught, 14, .inl f_bk_draught)), (gr_fanPush, .inl (k_gr_fanPush, 4, .inl f_gr_fanPush)), (st_speed, .inl (k_st_speed, 4, .inl f_st_speed)), (st_fire, .inl (k_st_fire, 14, .inl f_st_fire))] sz) [(st, .inr (9, [.ref st_open, .ref st_speed, .ref st_fallen, .ref st_fire, .int st_mark, .int st_moreIn, .int st_more, .ref bk])), (bk, .inr (0, [.int (nI bw), .ref bk_tail, .ref bk_head, .ref bk_hinder, .ref bk_size, .ref bk_walk, .ref bk_draught, .ref bk_doorIn, .ref bk_fanIn, .ref bk_faceIn, .int (nI bn), .int bk_day, .ref gr])), (gr, .inr (3, [.int (nI gd), .ref gr_doorBy, .int (nI gp), .ref gr_pairFirst, .ref gr_pairSecond, .int (nI gf), .ref gr_fanPush, .ref gr_fanFall, .ref gr_fanCost, .int (nI ge), .ref gr_faceWay, .ref gr_faceGas, .ref gr_faceNeed])), (bk_fanIn, .inl (k_bk_fanIn, 14, .inl f_bk_fanIn)), (bk_draught, .inl (k_bk_draught, 14, .inl f_bk_draught)), (gr_fanPush, .inl (k_gr_fanPush, 4, .inl f_gr_fanPush)), (st_speed, .inl (k_st_speed, 4, .inl f_st_speed)), (st_fire, .inl (k_st_fire, 14, .inl f_st_fire))]) (va_A [(st, .inr (9, [.ref st_open, .ref st_speed, .ref st_fallen, .ref st_fire, .int st_mark, .int st_moreIn, .int st_more, .ref bk])), (bk, .inr (0, [.int (nI bw), .ref bk_tail, .ref bk_head, .ref bk_hinder, .ref bk_size, .ref bk_walk, .ref bk_draught, .ref bk_doorIn, .ref bk_fanIn, .ref bk_faceIn, .int (nI bn), .int bk_day, .ref gr])), (gr, .inr (3, [.int (nI gd), .ref gr_doorBy, .int (nI gp), .ref gr_pairFirst, .ref gr_pairSecond, .int (nI gf), .ref gr_fanPush, .ref gr_fanFall, .ref gr_fanCost, .int (nI ge), .ref gr_faceWay, .ref gr_faceGas, .ref gr_faceNeed])), (bk_fanIn, .inl (k_bk_fanIn, 14, .inl f_bk_fanIn)), (bk_draught, .inl (k_bk_draught, 14, .inl f_bk_draught)), (gr_fanPush, .inl (k_gr_fanPush, 4, .inl f_gr_fanPush)), (st_speed, .inl (k_st_speed, 4, .inl f_st_speed)), (st_fire, .inl (k_st_fire, 14, .inl f_st_fire))] sz)) 0 0 (va_A [(st, .inr (9, [.ref st_open, .ref st_speed, .ref st_fallen, .ref st_fire, .int st_mark, .int st_moreIn, .int st_more, .ref bk])), (bk, .inr (0, [.int (nI bw), .ref bk_tail, .ref bk_head, .ref bk_hinder, .ref bk_size, .ref bk_walk, .ref bk_draught, .ref bk_doorIn, .ref bk_fanIn, .ref bk_faceIn, .int (nI bn), .int bk_day, .ref gr])), (gr, .inr (3, [.int (nI gd), .ref gr_doorBy, .int (nI gp), .ref gr_pairFirst, .ref gr_pairSecond, .int (nI gf), .ref gr_fanPush, .ref gr_fanFall, .ref gr_fanCost, .int (nI ge), .ref gr_faceWay, .ref gr_faceGas, .ref gr_faceNeed])), (bk_fanIn, .inl (k_bk_fanIn, 14, .inl f_bk_fanIn)), (bk_draught, .inl (k_bk_draught, 14, .inl f_bk_draught)), (gr_fanPush, .inl (k_gr_fanPush, 4, .inl f_gr_fanPush)), (st_speed, .inl (k_st_speed, 4, .inl f_st_speed)), (st_fire, .inl (k_st_fire, 14, .inl f_st_fire))] sz) := by
  refine Met.ofW (cc := cX9_pull) (maxL := 4) (ret := (some .int)) (by decide) rfl ?_
  intro p e s m args below meth c s₁ B hml hv
  obtain ⟨rfl, hsz, hn0, hG, hP, hK, hD0⟩ := hv
  have hx := B.exec
  have hb := B.bytes
  have hr := B.returns
  have hts := atoms_spec (ws := wM yX9_pull cX9_pull 4 (some .int)) B.pre
  have hown : s.vm.findClass RX9 = some m.cls := findClass_of_methodNamed B.named
  have hlocks := B.notSynchronized
  subst hsz
  have hD := hD0.self (sz := s.heap.size)
  have hA0 := vA_n0 hD0 hn0
  generalize hAe : va_A [(st, .inr (9, [.ref st_open, .ref st_speed, .ref st_fallen, .ref st_fire, .int st_mark, .int st_moreIn, .int st_more, .ref bk])), (bk, .inr (0, [.int (nI bw), .ref bk_tail, .ref bk_head, .ref bk_hinder, .ref bk_size, .ref bk_walk, .ref bk_draught, .ref bk_doorIn, .ref bk_fanIn, .ref bk_faceIn, .int (nI bn), .int bk_day, .ref gr])), (gr, .inr (3, [.int (nI gd), .ref gr_doorBy, .int (nI gp), .ref gr_pairFirst, .ref gr_pairSecond, .int (nI gf), .ref gr_fanPush, .ref gr_fanFall, .ref gr_fanCost, .int (nI ge), .ref gr_faceWay, .ref gr_faceGas, .ref gr_faceNeed])), (bk_fanIn, .inl (k_bk_fanIn, 14, .inl f_bk_fanIn)), (bk_draught, .inl (k_bk_draught, 14, .inl f_bk_draught)), (gr_fanPush, .inl (k_gr_fanPush, 4, .inl f_gr_fanPush)), (st_speed, .inl (k_st_speed, 4, .inl f_st_speed)), (st_fire, .inl (k_st_fire, 14, .inl f_st_fire))] s.heap.size = A at hD hA0 ⊢
  have hA : ∀ q : Nat, s.heap.size ≤ q → A q := fun q h => by rw [← hAe]; exact Or.inr h
  have hS : va_S A s.heap s.heap [] := va_S.rf
  have hl := lv_entry ([.ref st, .int w]) (n := 4) (Nat.le_of_ble_eq_true rfl)
  rw [lg_entry_eq]
  generalize (lg_sl ([.ref st, .int w]) ++ List.replicate (4 - (lg_sl ([.ref st, .int w])).length) Slot.unset).toArray = ls at hl ⊢
  have hl : lv_has ls 4 [(0, .ref st), (1, .int w)] := hl
  refine lv_aload_n hx hb dX9_pull_0 rfl (lv_at hl 0 rfl) ?_
  refine va_get (D := (dC, dI)) (ci := 9) (v := .ref bk) (C := RX9) (T := TX9) (N := 8) hx hb hts (fun w h => wM_c (iX9 w h)) hown hK hP 0 rfl rfl 7 (by decide) (hts _ (wM_c wd_412)) (fun _ h9 => h9) rfl dX9_pull_1 ?_
  refine va_get (D := (dC, dI)) (ci := 0) (v := .ref bk_fanIn) (C := RX0) (T := TX0) (N := 13) hx hb hts (fun w h => wM_c (iX0 w h)) hown hK hP 1 rfl rfl 8 (by decide) (hts _ (wM_c wd_276)) (fun _ h9 => h9) rfl dX9_pull_4 ?_
  refine lv_iload_n hx hb dX9_pull_7 rfl (lv_at hl 1 rfl) ?_
  refine va_iald hx hb hK hP 3 0 rfl rfl (by first | with_reducible assumption | exact vp_in_iff.mpr (by omega)) dX9_pull_8 ?_
  refine lv_topi (fun v_1 ev_1 => ?_)
  have g_2 : (-1) ≤ v_1.toInt ∧ v_1.toInt < 4 := by rw [ev_1]; exact rg_inx q_fanIn (by first | with_reducible assumption | exact vp_in_iff.mpr (by omega))
  refine lv_istore_n (lv' := [(2, .int v_1), (0, .ref st), (1, .int w)]) hx hb dX9_pull_9 rfl hl (by decide) rfl (fun ls hl => ?_)
  refine lv_iload_n hx hb dX9_pull_10 rfl (lv_at hl 0 rfl) ?_
  refine lv_iconst (v := (-1)) hx hb dX9_pull_11 (by decide) ?_
  refine lv_icmp_ne (tgt := 19) hx hb dX9_pull_12 (by decide) (fun c_3 => ?_) (fun c_3 => ?_)
  · skip
    have g_4 : v_1.toInt ≠ (-1 : Int) := i_ne c_3
    refine lv_aload_n hx hb dX9_pull_19 rfl (lv_at hl 1 rfl) ?_
    refine va_get (D := (dC, dI)) (ci := 9) (v := .ref bk) (C := RX9) (T := TX9) (N := 8) hx hb hts (fun w h => wM_c (iX9 w h)) hown hK hP 0 rfl rfl 7 (by decide) (hts _ (wM_c wd_412)) (fun _ h9 => h9) rfl dX9_pull_20 ?_
    refine va_get (D := (dC, dI)) (ci := 0) (v := .ref gr) (C := RX0) (T := TX0) (N := 13) hx hb hts (fun w h => wM_c (iX0 w h)) hown hK hP 1 rfl rfl 12 (by decide) (hts _ (wM_c wd_295)) (fun _ h9 => h9) rfl dX9_pull_23 ?_
    refine va_get (D := (dC, dI)) (ci := 3) (v := .ref gr_fanPush) (C := RX3) (T := TX3) (N := 13) hx hb hts (fun w h => wM_c (iX3 w h)) hown hK hP 2 rfl rfl 6 (by decide) (hts _ (wM_c wd_184)) (fun _ h9 => h9) rfl dX9_pull_26 ?_
    refine lv_iload_n hx hb dX9_pull_29 rfl (lv_at hl 0 rfl) ?_
    refine va_iald hx hb hK hP 5 2 rfl rfl (by first | with_reducible assumption | exact vp_in_iff.mpr (by omega)) dX9_pull_30 ?_
    refine lv_topi (fun v_5 ev_5 => ?_)
    refine lv_aload_n hx hb dX9_pull_31 rfl (lv_at hl 1 rfl) ?_
    refine va_get (D := (dC, dI)) (ci := 9) (v := .ref st_speed) (C := RX9) (T := TX9) (N := 8) hx hb hts (fun w h => wM_c (iX9 w h)) hown hK hP 0 rfl rfl 1 (by decide) (hts _ (wM_c wd_392)) (fun _ h9 => h9) rfl dX9_pull_32 ?_
    refine lv_iload_n hx hb dX9_pull_35 rfl (lv_at hl 0 rfl) ?_
    refine va_iald hx hb hK hP 6 3 rfl rfl (by first | with_reducible assumption | exact vp_in_iff.mpr (by omega)) dX9_pull_36 ?_
    refine lv_topi (fun v_6 ev_6 => ?_)
    refine lv_imul hx hb dX9_pull_37 ?_
    refine lv_topi (fun v_7 ev_7 => ?_)
    refine lv_istore_n (lv' := [(3, .int v_7), (2, .int v_1), (0, .ref st), (1, .int w)]) hx hb dX9_pull_38 rfl hl (by decide) rfl (fun ls hl => ?_)
    refine lv_aload_n hx hb dX9_pull_39 rfl (lv_at hl 2 rfl) ?_
    refine va_get (D := (dC, dI)) (ci := 9) (v := .ref bk) (C := RX9) (T := TX9) (N := 8) hx hb hts (fun w h => wM_c (iX9 w h)) hown hK hP 0 rfl rfl 7 (by decide) (hts _ (wM_c wd_412)) (fun _ h9 => h9) rfl dX9_pull_40 ?_
    refine va_get (D := (dC, dI)) (ci := 0) (v := .ref bk_draught) (C := RX0) (T := TX0) (N := 13) hx hb hts (fun w h => wM_c (iX0 w h)) hown hK hP 1 rfl rfl 6 (by decide) (hts _ (wM_c wd_268)) (fun _ h9 => h9) rfl dX9_pull_43 ?_
    refine lv_iload_n hx hb dX9_pull_46 rfl (lv_at hl 3 rfl) ?_
    refine va_iald hx hb hK hP 4 1 rfl rfl (by first | with_reducible assumption | exact vp_in_iff.mpr (by omega)) dX9_pull_47 ?_
    refine lv_topi (fun v_8 ev_8 => ?_)
    refine lv_aload_n hx hb dX9_pull_48 rfl (lv_at hl 2 rfl) ?_
    refine va_get (D := (dC, dI)) (ci := 9) (v := .ref st_fire) (C := RX9) (T := TX9) (N := 8) hx hb hts (fun w h => wM_c (iX9 w h)) hown hK hP 0 rfl rfl 3 (by decide) (hts _ (wM_c wd_402)) (fun _ h9 => h9) rfl dX9_pull_49 ?_
    refine lv_iload_n hx hb dX9_pull_52 rfl (lv_at hl 3 rfl) ?_
    refine va_iald hx hb hK hP 7 4 rfl rfl (by first | with_reducible assumption | exact vp_in_iff.mpr (by omega)) dX9_pull_53 ?_
    refine lv_topi (fun v_9 ev_9 => ?_)
    refine lv_iadd hx hb dX9_pull_54 ?_
    refine lv_topi (fun v_10 ev_10 => ?_)
    refine lv_iload_n hx hb dX9_pull_55 rfl (lv_at hl 0 rfl) ?_
    refine lv_iadd hx hb dX9_pull_56 ?_
    refine lv_topi (fun v_11 ev_11 => ?_)
    have hK9 := hK.sub (tys' := [(k_bk_fanIn, .int), (k_bk_draught, .int), (k_gr_fanPush, .int), (k_st_speed, .int), (k_st_fire, .int)]) [0, 1, 2, 3, 4] rfl
    exact W.iret (v := v_11) hx hb hr (fun t ht hW => ⟨⟨v_11, (), rfl, trivial, by rw [ht]; exact hP.sub [0, 1, 2, 3, 4, 5, 6, 7] rfl, va_K.moved hW.alike hK9, hD.sub [0, 1, 2, 3, 4, 5, 6, 7] (by decide) rfl⟩, hS.F ht⟩) hS.2.2 dX9_pull_57
  · skip
    have g_12 : v_1.toInt = (-1 : Int) := i_eq c_3
    refine lv_iconst (v := 0) hx hb dX9_pull_15 (by decide) ?_
    refine lv_goto (tgt := 38) hx hb dX9_pull_16 (by decide) ?_
    refine lv_istore_n (lv' := [(3, .int 0), (2, .int v_1), (0, .ref st), (1, .int w)]) hx hb dX9_pull_38 rfl hl (by decide) rfl (fun ls hl => ?_)
    refine lv_aload_n hx hb dX9_pull_39 rfl (lv_at hl 2 rfl) ?_
    refine va_get (D := (dC, dI)) (ci := 9) (v := .ref bk) (C := RX9) (T := TX9) (N := 8) hx hb hts (fun w h => wM_c (iX9 w h)) hown hK hP 0 rfl rfl 7 (by decide) (hts _ (wM_c wd_412)) (fun _ h9 => h9) rfl dX9_pull_40 ?_
    refine va_get (D := (dC, dI)) (ci := 0) (v := .ref bk_draught) (C := RX0) (T := TX0) (N := 13) hx hb hts (fun w h => wM_c (iX0 w h)) hown hK hP 1 rfl rfl 6 (by decide) (hts _ (wM_c wd_268)) (fun _ h9 => h9) rfl dX9_pull_43 ?_
    refine lv_iload_n hx hb dX9_pull_46 rfl (lv_at hl 3 rfl) ?_
    refine va_iald hx hb hK hP 4 1 rfl rfl (by first | with_reducible assumption | exact vp_in_iff.mpr (by omega)) dX9_pull_47 ?_
    refine lv_topi (fun v_13 ev_13 => ?_)
    refine lv_aload_n hx hb dX9_pull_48 rfl (lv_at hl 2 rfl) ?_
    refine va_get (D := (dC, dI)) (ci := 9) (v := .ref st_fire) (C := RX9) (T := TX9) (N := 8) hx hb hts (fun w h => wM_c (iX9 w h)) hown hK hP 0 rfl rfl 3 (by decide) (hts _ (wM_c wd_402)) (fun _ h9 => h9) rfl dX9_pull_49 ?_
    refine lv_iload_n hx hb dX9_pull_52 rfl (lv_at hl 3 rfl) ?_
    refine va_iald hx hb hK hP 7 4 rfl rfl (by first | with_reducible assumption | exact vp_in_iff.mpr (by omega)) dX9_pull_53 ?_
    refine lv_topi (fun v_14 ev_14 => ?_)
    refine lv_iadd hx hb dX9_pull_54 ?_
    refine lv_topi (fun v_15 ev_15 => ?_)
    refine lv_iload_n hx hb dX9_pull_55 rfl (lv_at hl 0 rfl) ?_
    refine lv_iadd hx hb dX9_pull_56 ?_
    refine lv_topi (fun v_16 ev_16 => ?_)
    have hK9 := hK.sub (tys' := [(k_bk_fanIn, .int), (k_bk_draught, .int), (k_gr_fanPush, .int), (k_st_speed, .int), (k_st_fire, .int)]) [0, 1, 2, 3, 4] rfl
    exact W.iret (v := v_16) hx hb hr (fun t ht hW => ⟨⟨v_16, (), rfl, trivial, by rw [ht]; exact hP.sub [0, 1, 2, 3, 4, 5, 6, 7] rfl, va_K.moved hW.alike hK9, hD.sub [0, 1, 2, 3, 4, 5, 6, 7] (by decide) rfl⟩, hS.F ht⟩) hS.2.2 dX9_pull_57
set_option maxHeartbeats 4000000 in
set_option maxRecDepth 100000 in
theorem c9_hasOpenPair (l : Launch) (dC : Nat → ClassId) (dI : Nat → Nat → Nat) (n0 : Nat) (atx : Nat → Nat × Nat) (sz : Nat) (st : Nat) (st_open : Nat) (st_speed : Nat) (st_fallen : Nat) (st_fire : Nat) (st_mark : Int32) (st_moreIn : Int32) (st_more : Int32) (bk : Nat) (bw : Nat) (bk_tail : Nat) (bk_head : Nat) (bk_hinder : Nat) (bk_size : Nat) (bk_walk : Nat) (bk_draught : Nat) (bk_doorIn : Nat) (bk_fanIn : Nat) (bk_faceIn : Nat) (bn : Nat) (bk_day : Int32) (gr : Nat) (gd : Nat) (gr_doorBy : Nat) (gp : Nat) (gr_pairFirst : Nat) (gr_pairSecond : Nat) (gf : Nat) (gr_fanPush : Nat) (gr_fanFall : Nat) (gr_fanCost : Nat) (ge : Nat) (gr_faceWay : Nat) (gr_faceGas : Nat) (gr_faceNeed : Nat) (k_st_open : ClassId) (f_st_open : Nat → Int32) (k_gr_pairFirst : ClassId) (f_gr_pairFirst : Nat → Int32) (k_gr_pairSecond : ClassId) (f_gr_pairSecond : Nat → Int32) (hbw : bw ≤ 14) (hbn : bn ≤ 10) (hgd : gd ≤ 6) (hgp : gp ≤ 3) (hgf : gf ≤ 4) (hge : ge ≤ 4) (q_day : -1 ≤ bk_day.toInt ∧ bk_day.toInt < 10) (q_pf : rg f_gr_pairFirst 3 0 6) (q_ps : rg f_gr_pairSecond 3 0 6) : Met l yX9_hasOpenPair (wM yX9_hasOpenPair cX9_hasOpenPair 3 (some .boolean)) ({ frames := 0, cells := 0, slots := 0, locals := 0 }) (va_Pc [.ref st] (fun U => U.heap.size = sz ∧ n0 ≤ sz ∧ GW n0 atx U ∧ va_P (dC, dI) classes [(st, .inr (9, [.ref st_open, .ref st_speed, .ref st_fallen, .ref st_fire, .int st_mark, .int st_moreIn, .int st_more, .ref bk])), (bk, .inr (0, [.int (nI bw), .ref bk_tail, .ref bk_head, .ref bk_hinder, .ref bk_size, .ref bk_walk, .ref bk_draught, .ref bk_doorIn, .ref bk_fanIn, .ref bk_faceIn, .int (nI bn), .int bk_day, .ref gr])), (gr, .inr (3, [.int (nI gd), .ref gr_doorBy, .int (nI gp), .ref gr_pairFirst, .ref gr_pairSecond, .int (nI gf), .ref gr_fanPush, .ref gr_fanFall, .ref gr_fanCost, .int (nI ge), .ref gr_faceWay, .ref gr_faceGas, .ref gr_faceNeed])), (st_open, .inl (k_st_open, 6, .inl f_st_open)), (gr_pairFirst, .inl (k_gr_pairFirst, 3, .inl f_gr_pairFirst)), (gr_pairSecond, .inl (k_gr_pairSecond, 3, .inl f_gr_pairSecond))] U.heap ∧ va_K (dC, dI) classes [(k_st_open, .boolean), (k_gr_pairFirst, .int), (k_gr_pairSecond, .int)] U ∧ va_D (fun q => n0 ≤ q) [(st, .inr (9, [.ref st_open, .ref st_speed, .ref st_fallen, .ref st_fire, .int st_mark, .int st_moreIn, .int st_more, .ref bk])), (bk, .inr (0, [.int (nI bw), .ref bk_tail, .ref bk_head, .ref bk_hinder, .ref bk_size, .ref bk_walk, .ref bk_draught, .ref bk_doorIn, .ref bk_fanIn, .ref bk_faceIn, .int (nI bn), .int bk_day, .ref gr])), (gr, .inr (3, [.int (nI gd), .ref gr_doorBy, .int (nI gp), .ref gr_pairFirst, .ref gr_pairSecond, .int (nI gf), .ref gr_fanPush, .ref gr_fanFall, .ref gr_fanCost, .int (nI ge), .ref gr_faceWay, .ref gr_faceGas, .ref gr_faceNeed])), (st_open, .inl (k_st_open, 6, .inl f_st_open)), (gr_pairFirst, .inl (k_gr_pairFirst, 3, .inl f_gr_pairFirst)), (gr_pairSecond, .inl (k_gr_pairSecond, 3, .inl f_gr_pairSecond))])) (va_Qi (fun (r : Int32) (_ : Unit) => r = 0 ∨ r = 1) (fun (_ : Unit) (t : State) => va_P (dC, dI) classes [(st, .inr (9, [.ref st_open, .ref st_speed, .ref st_fallen, .ref st_fire, .int st_mark, .int st_moreIn, .int st_more, .ref bk])), (bk, .inr (0, [.int (nI bw), .ref bk_tail, .ref bk_head, .ref bk_hinder, .ref bk_size, .ref bk_walk, .ref bk_draught, .ref bk_doorIn, .ref bk_fanIn, .ref bk_faceIn, .int (nI bn), .int bk_day, .ref gr])), (gr, .inr (3, [.int (nI gd), .ref gr_doorBy, .int (nI gp), .ref gr_pairFirst, .ref gr_pairSecond, .int (nI gf), .ref gr_fanPush, .ref gr_fanFall, .ref gr_fanCost, .int (nI ge), .ref gr_faceWay, .ref gr_faceGas, .ref gr_faceNeed])), (st_open, .inl (k_st_open, 6, .inl f_st_open)), (gr_pairFirst, .inl (k_gr_pairFirst, 3, .inl f_gr_pairFirst)), (gr_pairSecond, .inl (k_gr_pairSecond, 3, .inl f_gr_pairSecond))] t.heap ∧ va_K (dC, dI) classes [(k_st_open, .boolean), (k_gr_pairFirst, .int), (k_gr_pairSecond, .int)] t ∧ va_D (va_A [(st, .inr (9, [.ref st_open, .ref st_speed, .ref st_fallen, .ref st_fire, .int st_mark, .int st_moreIn, .int st_more, .ref bk])), (bk, .inr (0, [.int (nI bw), .ref bk_tail, .ref bk_head, .ref bk_hinder, .ref bk_size, .ref bk_walk, .ref bk_draught, .ref bk_doorIn, .ref bk_fanIn, .ref bk_faceIn, .int (nI bn), .int bk_day, .ref gr])), (gr, .inr (3, [.int (nI gd), .ref gr_doorBy, .int (nI gp), .ref gr_pairFirst, .ref gr_pairSecond, .int (nI gf), .ref gr_fanPush, .ref gr_fanFall, .ref gr_fanCost, .int (nI ge), .ref gr_faceWay, .ref gr_faceGas, .ref gr_faceNeed])), (st_open, .inl (k_st_open, 6, .inl f_st_open)), (gr_pairFirst, .inl (k_gr_pairFirst, 3, .inl f_gr_pairFirst)), (gr_pairSecond, .inl (k_gr_pairSecond, 3, .inl f_gr_pairSecond))] sz) [(st, .inr (9, [.ref st_open, .ref st_speed, .ref st_fallen, .ref st_fire, .int st_mark, .int st_moreIn, .int st_more, .ref bk])), (bk, .inr (0, [.int (nI bw), .ref bk_tail, .ref bk_head, .ref bk_hinder, .ref bk_size, .ref bk_walk, .ref bk_draught, .ref bk_doorIn, .ref bk_fanIn, .ref bk_faceIn, .int (nI bn), .int bk_day, .ref gr])), (gr, .inr (3, [.int (nI gd), .ref gr_doorBy, .int (nI gp), .ref gr_pairFirst, .ref gr_pairSecond, .int (nI gf), .ref gr_fanPush, .ref gr_fanFall, .ref gr_fanCost, .int (nI ge), .ref gr_faceWay, .ref gr_faceGas, .ref gr_faceNeed])), (st_open, .inl (k_st_open, 6, .inl f_st_open)), (gr_pairFirst, .inl (k_gr_pairFirst, 3, .inl f_gr_pairFirst)), (gr_pairSecond, .inl (k_gr_pairSecond, 3, .inl f_gr_pairSecond))]) (va_A [(st, .inr (9, [.ref st_open, .ref st_speed, .ref st_fallen, .ref st_fire, .int st_mark, .int st_moreIn, .int st_more, .ref bk])), (bk, .inr (0, [.int (nI bw), .ref bk_tail, .ref bk_head, .ref bk_hinder, .ref bk_size, .ref bk_walk, .ref bk_draught, .ref bk_doorIn, .ref bk_fanIn, .ref bk_faceIn, .int (nI bn), .int bk_day, .ref gr])), (gr, .inr (3, [.int (nI gd), .ref gr_doorBy, .int (nI gp), .ref gr_pairFirst, .ref gr_pairSecond, .int (nI gf), .ref gr_fanPush, .ref gr_fanFall, .ref gr_fanCost, .int (nI ge), .ref gr_faceWay, .ref gr_faceGas, .ref gr_faceNeed])), (st_open, .inl (k_st_open, 6, .inl f_st_open)), (gr_pairFirst, .inl (k_gr_pairFirst, 3, .inl f_gr_pairFirst)), (gr_pairSecond, .inl (k_gr_pairSecond, 3, .inl f_gr_pairSecond))] sz)) 0 0 (va_A [(st, .inr (9, [.ref st_open, .ref st_speed, .ref st_fallen, .ref st_fire, .int st_mark, .int st_moreIn, .int st_more, .ref bk])), (bk, .inr (0, [.int (nI bw), .ref bk_tail, .ref bk_head, .ref bk_hinder, .ref bk_size, .ref bk_walk, .ref bk_draught, .ref bk_doorIn, .ref bk_fanIn, .ref bk_faceIn, .int (nI bn), .int bk_day, .ref gr])), (gr, .inr (3, [.int (nI gd), .ref gr_doorBy, .int (nI gp), .ref gr_pairFirst, .ref gr_pairSecond, .int (nI gf), .ref gr_fanPush, .ref gr_fanFall, .ref gr_fanCost, .int (nI ge), .ref gr_faceWay, .ref gr_faceGas, .ref gr_faceNeed])), (st_open, .inl (k_st_open, 6, .inl f_st_open)), (gr_pairFirst, .inl (k_gr_pairFirst, 3, .inl f_gr_pairFirst)), (gr_pairSecond, .inl (k_gr_pairSecond, 3, .inl f_gr_pairSecond))] sz) := by
  refine Met.ofW (cc := cX9_hasOpenPair) (maxL := 3) (ret := (some .boolean)) (by decide) rfl ?_
  intro p e s m args below meth c s₁ B hml hv
  obtain ⟨rfl, hsz, hn0, hG, hP, hK, hD0⟩ := hv
  have hx := B.exec
  have hb := B.bytes
  have hr := B.returns
  have hts := atoms_spec (ws := wM yX9_hasOpenPair cX9_hasOpenPair 3 (some .boolean)) B.pre
  have hown : s.vm.findClass RX9 = some m.cls := findClass_of_methodNamed B.named
  have hlocks := B.notSynchronized
  subst hsz
  have hD := hD0.self (sz := s.heap.size)
  have hA0 := vA_n0 hD0 hn0
  generalize hAe : va_A [(st, .inr (9, [.ref st_open, .ref st_speed, .ref st_fallen, .ref st_fire, .int st_mark, .int st_moreIn, .int st_more, .ref bk])), (bk, .inr (0, [.int (nI bw), .ref bk_tail, .ref bk_head, .ref bk_hinder, .ref bk_size, .ref bk_walk, .ref bk_draught, .ref bk_doorIn, .ref bk_fanIn, .ref bk_faceIn, .int (nI bn), .int bk_day, .ref gr])), (gr, .inr (3, [.int (nI gd), .ref gr_doorBy, .int (nI gp), .ref gr_pairFirst, .ref gr_pairSecond, .int (nI gf), .ref gr_fanPush, .ref gr_fanFall, .ref gr_fanCost, .int (nI ge), .ref gr_faceWay, .ref gr_faceGas, .ref gr_faceNeed])), (st_open, .inl (k_st_open, 6, .inl f_st_open)), (gr_pairFirst, .inl (k_gr_pairFirst, 3, .inl f_gr_pairFirst)), (gr_pairSecond, .inl (k_gr_pairSecond, 3, .inl f_gr_pairSecond))] s.heap.size = A at hD hA0 ⊢
  have hA : ∀ q : Nat, s.heap.size ≤ q → A q := fun q h => by rw [← hAe]; exact Or.inr h
  have hS : va_S A s.heap s.heap [] := va_S.rf
  have hl := lv_entry ([.ref st]) (n := 3) (Nat.le_of_ble_eq_true rfl)
  rw [lg_entry_eq]
  generalize (lg_sl ([.ref st]) ++ List.replicate (3 - (lg_sl ([.ref st])).length) Slot.unset).toArray = ls at hl ⊢
  have hl : lv_has ls 3 [(0, .ref st)] := hl
  refine lv_aload_n hx hb dX9_hasOpenPair_0 rfl (lv_at hl 0 rfl) ?_
  refine va_get (D := (dC, dI)) (ci := 9) (v := .ref bk) (C := RX9) (T := TX9) (N := 8) hx hb hts (fun w h => wM_c (iX9 w h)) hown hK hP 0 rfl rfl 7 (by decide) (hts _ (wM_c wd_412)) (fun _ h9 => h9) rfl dX9_hasOpenPair_1 ?_
  refine va_get (D := (dC, dI)) (ci := 0) (v := .ref gr) (C := RX0) (T := TX0) (N := 13) hx hb hts (fun w h => wM_c (iX0 w h)) hown hK hP 1 rfl rfl 12 (by decide) (hts _ (wM_c wd_295)) (fun _ h9 => h9) rfl dX9_hasOpenPair_4 ?_
  refine lv_astore_n (lv' := [(1, .ref gr), (0, .ref st)]) hx hb dX9_hasOpenPair_7 rfl hl (by decide) rfl (fun ls hl => ?_)
  refine lv_iconst (v := 0) hx hb dX9_hasOpenPair_8 (by decide) ?_
  refine lv_istore_n (lv' := [(2, .int 0), (1, .ref gr), (0, .ref st)]) hx hb dX9_hasOpenPair_9 rfl hl (by decide) rfl (fun ls hl => ?_)
  refine W_lp1 (I := fun (i : Nat) H locs ls => (i ≤ gp) ∧ va_P (dC, dI) classes [(st, .inr (9, [.ref st_open, .ref st_speed, .ref st_fallen, .ref st_fire, .int st_mark, .int st_moreIn, .int st_more, .ref bk])), (bk, .inr (0, [.int (nI bw), .ref bk_tail, .ref bk_head, .ref bk_hinder, .ref bk_size, .ref bk_walk, .ref bk_draught, .ref bk_doorIn, .ref bk_fanIn, .ref bk_faceIn, .int (nI bn), .int bk_day, .ref gr])), (gr, .inr (3, [.int (nI gd), .ref gr_doorBy, .int (nI gp), .ref gr_pairFirst, .ref gr_pairSecond, .int (nI gf), .ref gr_fanPush, .ref gr_fanFall, .ref gr_fanCost, .int (nI ge), .ref gr_faceWay, .ref gr_faceGas, .ref gr_faceNeed])), (st_open, .inl (k_st_open, 6, .inl f_st_open)), (gr_pairFirst, .inl (k_gr_pairFirst, 3, .inl f_gr_pairFirst)), (gr_pairSecond, .inl (k_gr_pairSecond, 3, .inl f_gr_pairSecond))] H ∧ va_D A [(st, .inr (9, [.ref st_open, .ref st_speed, .ref st_fallen, .ref st_fire, .int st_mark, .int st_moreIn, .int st_more, .ref bk])), (bk, .inr (0, [.int (nI bw), .ref bk_tail, .ref bk_head, .ref bk_hinder, .ref bk_size, .ref bk_walk, .ref bk_draught, .ref bk_doorIn, .ref bk_fanIn, .ref bk_faceIn, .int (nI bn), .int bk_day, .ref gr])), (gr, .inr (3, [.int (nI gd), .ref gr_doorBy, .int (nI gp), .ref gr_pairFirst, .ref gr_pairSecond, .int (nI gf), .ref gr_fanPush, .ref gr_fanFall, .ref gr_fanCost, .int (nI ge), .ref gr_faceWay, .ref gr_faceGas, .ref gr_faceNeed])), (st_open, .inl (k_st_open, 6, .inl f_st_open)), (gr_pairFirst, .inl (k_gr_pairFirst, 3, .inl f_gr_pairFirst)), (gr_pairSecond, .inl (k_gr_pairSecond, 3, .inl f_gr_pairSecond))] ∧ va_S A s.heap H locs ∧ lv_has ls 3 [(0, .ref st), (1, .ref gr), (2, .int (nI i))]) (μ := fun (i : Nat) => gp - i) ?_ 0 _ _ _ ⟨(by first | with_reducible assumption | omega | exact vp_in_iff.mpr (by omega) | exact vp_in_nI (by omega) (by omega) | exact ⟨by omega, by omega⟩), hP, hD, hS, lv_sub hl [2, 1, 0] rfl⟩
  intro i H locs ls hI ih_1
  obtain ⟨hi, hP, hD, hS, hl⟩ := hI
  refine lv_iload_n hx hb dX9_hasOpenPair_10 rfl (lv_at hl 2 rfl) ?_
  refine lv_aload_n hx hb dX9_hasOpenPair_11 rfl (lv_at hl 1 rfl) ?_
  refine va_get (D := (dC, dI)) (ci := 3) (v := .int (nI gp)) (C := RX3) (T := TX3) (N := 13) hx hb hts (fun w h => wM_c (iX3 w h)) hown hK hP 2 rfl rfl 2 (by decide) (hts _ (wM_c wd_169)) (fun _ h9 => h9) rfl dX9_hasOpenPair_12 ?_
  refine lv_icmp_ge (tgt := 54) hx hb dX9_hasOpenPair_15 (by decide) (fun c_2 => ?_) (fun c_2 => ?_)
  · skip
    have g_3 := n_ge (a := i) (b := gp) c_2 (by omega) (by omega)
    refine lv_iconst (v := 0) hx hb dX9_hasOpenPair_54 (by decide) ?_
    have hK9 := hK.sub (tys' := [(k_st_open, .boolean), (k_gr_pairFirst, .int), (k_gr_pairSecond, .int)]) [0, 1, 2] rfl
    exact W.zret (v := 0) hx hb hr rfl (fun t ht hW => ⟨⟨0, (), rfl, (Or.inl rfl), by rw [ht]; exact hP.sub [0, 1, 2, 3, 4, 5] rfl, va_K.moved hW.alike hK9, hD.sub [0, 1, 2, 3, 4, 5] (by decide) rfl⟩, hS.F ht⟩) hS.2.2 dX9_hasOpenPair_55
  · skip
    have g_4 := n_nge (a := i) (b := gp) c_2 (by omega) (by omega)
    refine lv_aload_n hx hb dX9_hasOpenPair_18 rfl (lv_at hl 0 rfl) ?_
    refine va_get (D := (dC, dI)) (ci := 9) (v := .ref st_open) (C := RX9) (T := TX9) (N := 8) hx hb hts (fun w h => wM_c (iX9 w h)) hown hK hP 0 rfl rfl 0 (by decide) (hts _ (wM_c wd_389)) (fun _ h9 => h9) rfl dX9_hasOpenPair_19 ?_
    refine lv_aload_n hx hb dX9_hasOpenPair_22 rfl (lv_at hl 1 rfl) ?_
    refine va_get (D := (dC, dI)) (ci := 3) (v := .ref gr_pairFirst) (C := RX3) (T := TX3) (N := 13) hx hb hts (fun w h => wM_c (iX3 w h)) hown hK hP 2 rfl rfl 3 (by decide) (hts _ (wM_c wd_173)) (fun _ h9 => h9) rfl dX9_hasOpenPair_23 ?_
    refine lv_iload_n hx hb dX9_hasOpenPair_26 rfl (lv_at hl 2 rfl) ?_
    refine va_iald hx hb hK hP 4 1 rfl rfl (vp_in_nI (n := i) (by omega) (by omega)) dX9_hasOpenPair_27 ?_
    refine lv_topi (fun v_5 ev_5 => ?_)
    have nv_5 : v_5 = f_gr_pairFirst i := by rw [ev_5]; exact congrArg _ (nI_clamp (by omega))
    have g_6 : 0 ≤ v_5.toInt ∧ v_5.toInt < 6 := by rw [ev_5]; exact rg_in q_pf (by omega) (by omega)
    refine va_zald hx hb hK hP 3 0 rfl rfl (by first | with_reducible assumption | exact vp_in_iff.mpr (by omega)) dX9_hasOpenPair_28 ?_
    refine lv_topi (fun v_7 ev_7 => ?_)
    refine lv_if_eq (tgt := 48) hx hb dX9_hasOpenPair_29 (by decide) (fun c_8 => ?_) (fun c_8 => ?_)
    · skip
      have g_9 : v_7.toInt = (0 : Int) := i_eq c_8
      refine lv_iinc (v := (nI (i + 1))) (lv' := [(2, .int (nI (i + 1))), (0, .ref st), (1, .ref gr)]) hx hb dX9_hasOpenPair_48 hl (k := 2) rfl (nI_add _ 1) (by decide) rfl (fun ls hl => ?_)
      refine lv_goto (tgt := 10) hx hb dX9_hasOpenPair_51 (by decide) ?_
      exact ih_1 (i + 1) _ _ _ ⟨(by first | with_reducible assumption | omega | exact vp_in_iff.mpr (by omega) | exact vp_in_nI (by omega) (by omega) | exact ⟨by omega, by omega⟩), hP.sub [0, 1, 2, 3, 4, 5] rfl, hD.sub [0, 1, 2, 3, 4, 5] (by decide) rfl, hS, lv_sub hl [1, 2, 0] rfl⟩ (by omega)
    · skip
      have g_10 : v_7.toInt ≠ (0 : Int) := i_ne c_8
      refine lv_aload_n hx hb dX9_hasOpenPair_32 rfl (lv_at hl 0 rfl) ?_
      refine va_get (D := (dC, dI)) (ci := 9) (v := .ref st_open) (C := RX9) (T := TX9) (N := 8) hx hb hts (fun w h => wM_c (iX9 w h)) hown hK hP 0 rfl rfl 0 (by decide) (hts _ (wM_c wd_389)) (fun _ h9 => h9) rfl dX9_hasOpenPair_33 ?_
      refine lv_aload_n hx hb dX9_hasOpenPair_36 rfl (lv_at hl 1 rfl) ?_
      refine va_get (D := (dC, dI)) (ci := 3) (v := .ref gr_pairSecond) (C := RX3) (T := TX3) (N := 13) hx hb hts (fun w h => wM_c (iX3 w h)) hown hK hP 2 rfl rfl 4 (by decide) (hts _ (wM_c wd_176)) (fun _ h9 => h9) rfl dX9_hasOpenPair_37 ?_
      refine lv_iload_n hx hb dX9_hasOpenPair_40 rfl (lv_at hl 2 rfl) ?_
      refine va_iald hx hb hK hP 5 2 rfl rfl (vp_in_nI (n := i) (by omega) (by omega)) dX9_hasOpenPair_41 ?_
      refine lv_topi (fun v_11 ev_11 => ?_)
      have nv_11 : v_11 = f_gr_pairSecond i := by rw [ev_11]; exact congrArg _ (nI_clamp (by omega))
      have g_12 : 0 ≤ v_11.toInt ∧ v_11.toInt < 6 := by rw [ev_11]; exact rg_in q_ps (by omega) (by omega)
      refine va_zald hx hb hK hP 3 0 rfl rfl (by first | with_reducible assumption | exact vp_in_iff.mpr (by omega)) dX9_hasOpenPair_42 ?_
      refine lv_topi (fun v_13 ev_13 => ?_)
      refine lv_if_eq (tgt := 48) hx hb dX9_hasOpenPair_43 (by decide) (fun c_14 => ?_) (fun c_14 => ?_)
      · skip
        have g_15 : v_13.toInt = (0 : Int) := i_eq c_14
        refine lv_iinc (v := (nI (i + 1))) (lv' := [(2, .int (nI (i + 1))), (0, .ref st), (1, .ref gr)]) hx hb dX9_hasOpenPair_48 hl (k := 2) rfl (nI_add _ 1) (by decide) rfl (fun ls hl => ?_)
        refine lv_goto (tgt := 10) hx hb dX9_hasOpenPair_51 (by decide) ?_
        exact ih_1 (i + 1) _ _ _ ⟨(by first | with_reducible assumption | omega | exact vp_in_iff.mpr (by omega) | exact vp_in_nI (by omega) (by omega) | exact ⟨by omega, by omega⟩), hP.sub [0, 1, 2, 3, 4, 5] rfl, hD.sub [0, 1, 2, 3, 4, 5] (by decide) rfl, hS, lv_sub hl [1, 2, 0] rfl⟩ (by omega)
      · skip
        have g_16 : v_13.toInt ≠ (0 : Int) := i_ne c_14
        refine lv_iconst (v := 1) hx hb dX9_hasOpenPair_46 (by decide) ?_
        have hK9 := hK.sub (tys' := [(k_st_open, .boolean), (k_gr_pairFirst, .int), (k_gr_pairSecond, .int)]) [0, 1, 2] rfl
        exact W.zret (v := 1) hx hb hr rfl (fun t ht hW => ⟨⟨1, (), rfl, (Or.inr rfl), by rw [ht]; exact hP.sub [0, 1, 2, 3, 4, 5] rfl, va_K.moved hW.alike hK9, hD.sub [0, 1, 2, 3, 4, 5] (by decide) rfl⟩, hS.F ht⟩) hS.2.2 dX9_hasOpenPair_47
set_option maxHeartbeats 4000000 in
set_option maxRecDepth 100000 in
theorem c9_hasFallenFace (l : Launch) (dC : Nat → ClassId) (dI : Nat → Nat → Nat) (n0 : Nat) (atx : Nat → Nat × Nat) (sz : Nat) (st : Nat) (st_open : Nat) (st_speed : Nat) (st_fallen : Nat) (st_fire : Nat) (st_mark : Int32) (st_moreIn : Int32) (st_more : Int32) (bk : Nat) (bw : Nat) (bk_tail : Nat) (bk_head : Nat) (bk_hinder : Nat) (bk_size : Nat) (bk_walk : Nat) (bk_draught : Nat) (bk_doorIn : Nat) (bk_fanIn : Nat) (bk_faceIn : Nat) (bn : Nat) (bk_day : Int32) (gr : Nat) (gd : Nat) (gr_doorBy : Nat) (gp : Nat) (gr_pairFirst : Nat) (gr_pairSecond : Nat) (gf : Nat) (gr_fanPush : Nat) (gr_fanFall : Nat) (gr_fanCost : Nat) (ge : Nat) (gr_faceWay : Nat) (gr_faceGas : Nat) (gr_faceNeed : Nat) (k_st_fallen : ClassId) (f_st_fallen : Nat → Int32) (k_gr_faceGas : ClassId) (f_gr_faceGas : Nat → Int32) (k_gr_faceNeed : ClassId) (f_gr_faceNeed : Nat → Int32) (k_gr_faceWay : ClassId) (f_gr_faceWay : Nat → Int32) (hbw : bw ≤ 14) (hbn : bn ≤ 10) (hgd : gd ≤ 6) (hgp : gp ≤ 3) (hgf : gf ≤ 4) (hge : ge ≤ 4) (q_day : -1 ≤ bk_day.toInt ∧ bk_day.toInt < 10) (q_fw : rg f_gr_faceWay 4 0 14) : Met l yX9_hasFallenFace (wM yX9_hasFallenFace cX9_hasFallenFace 4 (some .boolean)) ({ frames := 0, cells := 0, slots := 0, locals := 0 }) (va_Pc [.ref st] (fun U => U.heap.size = sz ∧ n0 ≤ sz ∧ GW n0 atx U ∧ va_P (dC, dI) classes [(st, .inr (9, [.ref st_open, .ref st_speed, .ref st_fallen, .ref st_fire, .int st_mark, .int st_moreIn, .int st_more, .ref bk])), (bk, .inr (0, [.int (nI bw), .ref bk_tail, .ref bk_head, .ref bk_hinder, .ref bk_size, .ref bk_walk, .ref bk_draught, .ref bk_doorIn, .ref bk_fanIn, .ref bk_faceIn, .int (nI bn), .int bk_day, .ref gr])), (gr, .inr (3, [.int (nI gd), .ref gr_doorBy, .int (nI gp), .ref gr_pairFirst, .ref gr_pairSecond, .int (nI gf), .ref gr_fanPush, .ref gr_fanFall, .ref gr_fanCost, .int (nI ge), .ref gr_faceWay, .ref gr_faceGas, .ref gr_faceNeed])), (st_fallen, .inl (k_st_fallen, 14, .inl f_st_fallen)), (gr_faceGas, .inl (k_gr_faceGas, 4, .inl f_gr_faceGas)), (gr_faceNeed, .inl (k_gr_faceNeed, 4, .inl f_gr_faceNeed)), (gr_faceWay, .inl (k_gr_faceWay, 4, .inl f_gr_faceWay))] U.heap ∧ va_K (dC, dI) classes [(k_st_fallen, .boolean), (k_gr_faceGas, .int), (k_gr_faceNeed, .int), (k_gr_faceWay, .int)] U ∧ va_D (fun q => n0 ≤ q) [(st, .inr (9, [.ref st_open, .ref st_speed, .ref st_fallen, .ref st_fire, .int st_mark, .int st_moreIn, .int st_more, .ref bk])), (bk, .inr (0, [.int (nI bw), .ref bk_tail, .ref bk_head, .ref bk_hinder, .ref bk_size, .ref bk_walk, .ref bk_draught, .ref bk_doorIn, .ref bk_fanIn, .ref bk_faceIn, .int (nI bn), .int bk_day, .ref gr])), (gr, .inr (3, [.int (nI gd), .ref gr_doorBy, .int (nI gp), .ref gr_pairFirst, .ref gr_pairSecond, .int (nI gf), .ref gr_fanPush, .ref gr_fanFall, .ref gr_fanCost, .int (nI ge), .ref gr_faceWay, .ref gr_faceGas, .ref gr_faceNeed])), (st_fallen, .inl (k_st_fallen, 14, .inl f_st_fallen)), (gr_faceGas, .inl (k_gr_faceGas, 4, .inl f_gr_faceGas)), (gr_faceNeed, .inl (k_gr_faceNeed, 4, .inl f_gr_faceNeed)), (gr_faceWay, .inl (k_gr_faceWay, 4, .inl f_gr_faceWay))])) (va_Qi (fun (r : Int32) (_ : Unit) => r = 0 ∨ r = 1) (fun (_ : Unit) (t : State) => va_P (dC, dI) classes [(st, .inr (9, [.ref st_open, .ref st_speed, .ref st_fallen, .ref st_fire, .int st_mark, .int st_moreIn, .int st_more, .ref bk])), (bk, .inr (0, [.int (nI bw), .ref bk_tail, .ref bk_head, .ref bk_hinder, .ref bk_size, .ref bk_walk, .ref bk_draught, .ref bk_doorIn, .ref bk_fanIn, .ref bk_faceIn, .int (nI bn), .int bk_day, .ref gr])), (gr, .inr (3, [.int (nI gd), .ref gr_doorBy, .int (nI gp), .ref gr_pairFirst, .ref gr_pairSecond, .int (nI gf), .ref gr_fanPush, .ref gr_fanFall, .ref gr_fanCost, .int (nI ge), .ref gr_faceWay, .ref gr_faceGas, .ref gr_faceNeed])), (st_fallen, .inl (k_st_fallen, 14, .inl f_st_fallen)), (gr_faceGas, .inl (k_gr_faceGas, 4, .inl f_gr_faceGas)), (gr_faceNeed, .inl (k_gr_faceNeed, 4, .inl f_gr_faceNeed)), (gr_faceWay, .inl (k_gr_faceWay, 4, .inl f_gr_faceWay))] t.heap ∧ va_K (dC, dI) classes [(k_st_fallen, .boolean), (k_gr_faceGas, .int), (k_gr_faceNeed, .int), (k_gr_faceWay, .int)] t ∧ va_D (va_A [(st, .inr (9, [.ref st_open, .ref st_speed, .ref st_fallen, .ref st_fire, .int st_mark, .int st_moreIn, .int st_more, .ref bk])), (bk, .inr (0, [.int (nI bw), .ref bk_tail, .ref bk_head, .ref bk_hinder, .ref bk_size, .ref bk_walk, .ref bk_draught, .ref bk_doorIn, .ref bk_fanIn, .ref bk_faceIn, .int (nI bn), .int bk_day, .ref gr])), (gr, .inr (3, [.int (nI gd), .ref gr_doorBy, .int (nI gp), .ref gr_pairFirst, .ref gr_pairSecond, .int (nI gf), .ref gr_fanPush, .ref gr_fanFall, .ref gr_fanCost, .int (nI ge), .ref gr_faceWay, .ref gr_faceGas, .ref gr_faceNeed])), (st_fallen, .inl (k_st_fallen, 14, .inl f_st_fallen)), (gr_faceGas, .inl (k_gr_faceGas, 4, .inl f_gr_faceGas)), (gr_faceNeed, .inl (k_gr_faceNeed, 4, .inl f_gr_faceNeed)), (gr_faceWay, .inl (k_gr_faceWay, 4, .inl f_gr_faceWay))] sz) [(st, .inr (9, [.ref st_open, .ref st_speed, .ref st_fallen, .ref st_fire, .int st_mark, .int st_moreIn, .int st_more, .ref bk])), (bk, .inr (0, [.int (nI bw), .ref bk_tail, .ref bk_head, .ref bk_hinder, .ref bk_size, .ref bk_walk, .ref bk_draught, .ref bk_doorIn, .ref bk_fanIn, .ref bk_faceIn, .int (nI bn), .int bk_day, .ref gr])), (gr, .inr (3, [.int (nI gd), .ref gr_doorBy, .int (nI gp), .ref gr_pairFirst, .ref gr_pairSecond, .int (nI gf), .ref gr_fanPush, .ref gr_fanFall, .ref gr_fanCost, .int (nI ge), .ref gr_faceWay, .ref gr_faceGas, .ref gr_faceNeed])), (st_fallen, .inl (k_st_fallen, 14, .inl f_st_fallen)), (gr_faceGas, .inl (k_gr_faceGas, 4, .inl f_gr_faceGas)), (gr_faceNeed, .inl (k_gr_faceNeed, 4, .inl f_gr_faceNeed)), (gr_faceWay, .inl (k_gr_faceWay, 4, .inl f_gr_faceWay))]) (va_A [(st, .inr (9, [.ref st_open, .ref st_speed, .ref st_fallen, .ref st_fire, .int st_mark, .int st_moreIn, .int st_more, .ref bk])), (bk, .inr (0, [.int (nI bw), .ref bk_tail, .ref bk_head, .ref bk_hinder, .ref bk_size, .ref bk_walk, .ref bk_draught, .ref bk_doorIn, .ref bk_fanIn, .ref bk_faceIn, .int (nI bn), .int bk_day, .ref gr])), (gr, .inr (3, [.int (nI gd), .ref gr_doorBy, .int (nI gp), .ref gr_pairFirst, .ref gr_pairSecond, .int (nI gf), .ref gr_fanPush, .ref gr_fanFall, .ref gr_fanCost, .int (nI ge), .ref gr_faceWay, .ref gr_faceGas, .ref gr_faceNeed])), (st_fallen, .inl (k_st_fallen, 14, .inl f_st_fallen)), (gr_faceGas, .inl (k_gr_faceGas, 4, .inl f_gr_faceGas)), (gr_faceNeed, .inl (k_gr_faceNeed, 4, .inl f_gr_faceNeed)), (gr_faceWay, .inl (k_gr_faceWay, 4, .inl f_gr_faceWay))] sz)) 0 0 (va_A [(st, .inr (9, [.ref st_open, .ref st_speed, .ref st_fallen, .ref st_fire, .int st_mark, .int st_moreIn, .int st_more, .ref bk])), (bk, .inr (0, [.int (nI bw), .ref bk_tail, .ref bk_head, .ref bk_hinder, .ref bk_size, .ref bk_walk, .ref bk_draught, .ref bk_doorIn, .ref bk_fanIn, .ref bk_faceIn, .int (nI bn), .int bk_day, .ref gr])), (gr, .inr (3, [.int (nI gd), .ref gr_doorBy, .int (nI gp), .ref gr_pairFirst, .ref gr_pairSecond, .int (nI gf), .ref gr_fanPush, .ref gr_fanFall, .ref gr_fanCost, .int (nI ge), .ref gr_faceWay, .ref gr_faceGas, .ref gr_faceNeed])), (st_fallen, .inl (k_st_fallen, 14, .inl f_st_fallen)), (gr_faceGas, .inl (k_gr_faceGas, 4, .inl f_gr_faceGas)), (gr_faceNeed, .inl (k_gr_faceNeed, 4, .inl f_gr_faceNeed)), (gr_faceWay, .inl (k_gr_faceWay, 4, .inl f_gr_faceWay))] sz) := by
  refine Met.ofW (cc := cX9_hasFallenFace) (maxL := 4) (ret := (some .boolean)) (by decide) rfl ?_
  intro p e s m args below meth c s₁ B hml hv
  obtain ⟨rfl, hsz, hn0, hG, hP, hK, hD0⟩ := hv
  have hx := B.exec
  have hb := B.bytes
  have hr := B.returns
  have hts := atoms_spec (ws := wM yX9_hasFallenFace cX9_hasFallenFace 4 (some .boolean)) B.pre
  have hown : s.vm.findClass RX9 = some m.cls := findClass_of_methodNamed B.named
  have hlocks := B.notSynchronized
  subst hsz
  have hD := hD0.self (sz := s.heap.size)
  have hA0 := vA_n0 hD0 hn0
  generalize hAe : va_A [(st, .inr (9, [.ref st_open, .ref st_speed, .ref st_fallen, .ref st_fire, .int st_mark, .int st_moreIn, .int st_more, .ref bk])), (bk, .inr (0, [.int (nI bw), .ref bk_tail, .ref bk_head, .ref bk_hinder, .ref bk_size, .ref bk_walk, .ref bk_draught, .ref bk_doorIn, .ref bk_fanIn, .ref bk_faceIn, .int (nI bn), .int bk_day, .ref gr])), (gr, .inr (3, [.int (nI gd), .ref gr_doorBy, .int (nI gp), .ref gr_pairFirst, .ref gr_pairSecond, .int (nI gf), .ref gr_fanPush, .ref gr_fanFall, .ref gr_fanCost, .int (nI ge), .ref gr_faceWay, .ref gr_faceGas, .ref gr_faceNeed])), (st_fallen, .inl (k_st_fallen, 14, .inl f_st_fallen)), (gr_faceGas, .inl (k_gr_faceGas, 4, .inl f_gr_faceGas)), (gr_faceNeed, .inl (k_gr_faceNeed, 4, .inl f_gr_faceNeed)), (gr_faceWay, .inl (k_gr_faceWay, 4, .inl f_gr_faceWay))] s.heap.size = A at hD hA0 ⊢
  have hA : ∀ q : Nat, s.heap.size ≤ q → A q := fun q h => by rw [← hAe]; exact Or.inr h
  have hS : va_S A s.heap s.heap [] := va_S.rf
  have hl := lv_entry ([.ref st]) (n := 4) (Nat.le_of_ble_eq_true rfl)
  rw [lg_entry_eq]
  generalize (lg_sl ([.ref st]) ++ List.replicate (4 - (lg_sl ([.ref st])).length) Slot.unset).toArray = ls at hl ⊢
  have hl : lv_has ls 4 [(0, .ref st)] := hl
  refine lv_aload_n hx hb dX9_hasFallenFace_0 rfl (lv_at hl 0 rfl) ?_
  refine va_get (D := (dC, dI)) (ci := 9) (v := .ref bk) (C := RX9) (T := TX9) (N := 8) hx hb hts (fun w h => wM_c (iX9 w h)) hown hK hP 0 rfl rfl 7 (by decide) (hts _ (wM_c wd_412)) (fun _ h9 => h9) rfl dX9_hasFallenFace_1 ?_
  refine va_get (D := (dC, dI)) (ci := 0) (v := .ref gr) (C := RX0) (T := TX0) (N := 13) hx hb hts (fun w h => wM_c (iX0 w h)) hown hK hP 1 rfl rfl 12 (by decide) (hts _ (wM_c wd_295)) (fun _ h9 => h9) rfl dX9_hasFallenFace_4 ?_
  refine lv_astore_n (lv' := [(1, .ref gr), (0, .ref st)]) hx hb dX9_hasFallenFace_7 rfl hl (by decide) rfl (fun ls hl => ?_)
  refine lv_iconst (v := 0) hx hb dX9_hasFallenFace_8 (by decide) ?_
  refine lv_istore_n (lv' := [(2, .int 0), (1, .ref gr), (0, .ref st)]) hx hb dX9_hasFallenFace_9 rfl hl (by decide) rfl (fun ls hl => ?_)
  refine W_lp1 (I := fun (i : Nat) H locs ls => (i ≤ ge) ∧ va_P (dC, dI) classes [(st, .inr (9, [.ref st_open, .ref st_speed, .ref st_fallen, .ref st_fire, .int st_mark, .int st_moreIn, .int st_more, .ref bk])), (bk, .inr (0, [.int (nI bw), .ref bk_tail, .ref bk_head, .ref bk_hinder, .ref bk_size, .ref bk_walk, .ref bk_draught, .ref bk_doorIn, .ref bk_fanIn, .ref bk_faceIn, .int (nI bn), .int bk_day, .ref gr])), (gr, .inr (3, [.int (nI gd), .ref gr_doorBy, .int (nI gp), .ref gr_pairFirst, .ref gr_pairSecond, .int (nI gf), .ref gr_fanPush, .ref gr_fanFall, .ref gr_fanCost, .int (nI ge), .ref gr_faceWay, .ref gr_faceGas, .ref gr_faceNeed])), (st_fallen, .inl (k_st_fallen, 14, .inl f_st_fallen)), (gr_faceGas, .inl (k_gr_faceGas, 4, .inl f_gr_faceGas)), (gr_faceNeed, .inl (k_gr_faceNeed, 4, .inl f_gr_faceNeed)), (gr_faceWay, .inl (k_gr_faceWay, 4, .inl f_gr_faceWay))] H ∧ va_D A [(st, .inr (9, [.ref st_open, .ref st_speed, .ref st_fallen, .ref st_fire, .int st_mark, .int st_moreIn, .int st_more, .ref bk])), (bk, .inr (0, [.int (nI bw), .ref bk_tail, .ref bk_head, .ref bk_hinder, .ref bk_size, .ref bk_walk, .ref bk_draught, .ref bk_doorIn, .ref bk_fanIn, .ref bk_faceIn, .int (nI bn), .int bk_day, .ref gr])), (gr, .inr (3, [.int (nI gd), .ref gr_doorBy, .int (nI gp), .ref gr_pairFirst, .ref gr_pairSecond, .int (nI gf), .ref gr_fanPush, .ref gr_fanFall, .ref gr_fanCost, .int (nI ge), .ref gr_faceWay, .ref gr_faceGas, .ref gr_faceNeed])), (st_fallen, .inl (k_st_fallen, 14, .inl f_st_fallen)), (gr_faceGas, .inl (k_gr_faceGas, 4, .inl f_gr_faceGas)), (gr_faceNeed, .inl (k_gr_faceNeed, 4, .inl f_gr_faceNeed)), (gr_faceWay, .inl (k_gr_faceWay, 4, .inl f_gr_faceWay))] ∧ va_S A s.heap H locs ∧ lv_has ls 4 [(0, .ref st), (1, .ref gr), (2, .int (nI i))]) (μ := fun (i : Nat) => ge - i) ?_ 0 _ _ _ ⟨(by first | with_reducible assumption | omega | exact vp_in_iff.mpr (by omega) | exact vp_in_nI (by omega) (by omega) | exact ⟨by omega, by omega⟩), hP, hD, hS, lv_sub hl [2, 1, 0] rfl⟩
  intro i H locs ls hI ih_1
  obtain ⟨hi, hP, hD, hS, hl⟩ := hI
  refine lv_iload_n hx hb dX9_hasFallenFace_10 rfl (lv_at hl 2 rfl) ?_
  refine lv_aload_n hx hb dX9_hasFallenFace_11 rfl (lv_at hl 1 rfl) ?_
  refine va_get (D := (dC, dI)) (ci := 3) (v := .int (nI ge)) (C := RX3) (T := TX3) (N := 13) hx hb hts (fun w h => wM_c (iX3 w h)) hown hK hP 2 rfl rfl 9 (by decide) (hts _ (wM_c wd_194)) (fun _ h9 => h9) rfl dX9_hasFallenFace_12 ?_
  refine lv_icmp_ge (tgt := 68) hx hb dX9_hasFallenFace_15 (by decide) (fun c_2 => ?_) (fun c_2 => ?_)
  · skip
    have g_3 := n_ge (a := i) (b := ge) c_2 (by omega) (by omega)
    refine lv_iconst (v := 0) hx hb dX9_hasFallenFace_68 (by decide) ?_
    have hK9 := hK.sub (tys' := [(k_st_fallen, .boolean), (k_gr_faceGas, .int), (k_gr_faceNeed, .int), (k_gr_faceWay, .int)]) [0, 1, 2, 3] rfl
    exact W.zret (v := 0) hx hb hr rfl (fun t ht hW => ⟨⟨0, (), rfl, (Or.inl rfl), by rw [ht]; exact hP.sub [0, 1, 2, 3, 4, 5, 6] rfl, va_K.moved hW.alike hK9, hD.sub [0, 1, 2, 3, 4, 5, 6] (by decide) rfl⟩, hS.F ht⟩) hS.2.2 dX9_hasFallenFace_69
  · skip
    have g_4 := n_nge (a := i) (b := ge) c_2 (by omega) (by omega)
    refine lv_aload_n hx hb dX9_hasFallenFace_18 rfl (lv_at hl 1 rfl) ?_
    refine va_get (D := (dC, dI)) (ci := 3) (v := .ref gr_faceGas) (C := RX3) (T := TX3) (N := 13) hx hb hts (fun w h => wM_c (iX3 w h)) hown hK hP 2 rfl rfl 11 (by decide) (hts _ (wM_c wd_203)) (fun _ h9 => h9) rfl dX9_hasFallenFace_19 ?_
    refine lv_iload_n hx hb dX9_hasFallenFace_22 rfl (lv_at hl 2 rfl) ?_
    refine va_iald hx hb hK hP 4 1 rfl rfl (vp_in_nI (n := i) (by omega) (by omega)) dX9_hasFallenFace_23 ?_
    refine lv_topi (fun v_5 ev_5 => ?_)
    have nv_5 : v_5 = f_gr_faceGas i := by rw [ev_5]; exact congrArg _ (nI_clamp (by omega))
    refine lv_if_gt (tgt := 36) hx hb dX9_hasFallenFace_24 (by decide) (fun c_6 => ?_) (fun c_6 => ?_)
    · skip
      have g_7 : (0 : Int) < v_5.toInt := i_lt c_6
      refine lv_iconst (v := 1) hx hb dX9_hasFallenFace_36 (by decide) ?_
      refine lv_goto (tgt := 41) hx hb dX9_hasFallenFace_37 (by decide) ?_
      refine lv_istore_n (lv' := [(3, .int 1), (0, .ref st), (1, .ref gr), (2, .int (nI i))]) hx hb dX9_hasFallenFace_41 rfl hl (by decide) rfl (fun ls hl => ?_)
      refine lv_iload_n hx hb dX9_hasFallenFace_42 rfl (lv_at hl 0 rfl) ?_
      refine lv_if_eq (tgt := 62) hx hb dX9_hasFallenFace_43 (by decide) (fun c_8 => ?_) (fun c_8 => ?_)
      · exact absurd c_8 (by decide)
      refine lv_aload_n hx hb dX9_hasFallenFace_46 rfl (lv_at hl 1 rfl) ?_
      refine va_get (D := (dC, dI)) (ci := 9) (v := .ref st_fallen) (C := RX9) (T := TX9) (N := 8) hx hb hts (fun w h => wM_c (iX9 w h)) hown hK hP 0 rfl rfl 2 (by decide) (hts _ (wM_c wd_396)) (fun _ h9 => h9) rfl dX9_hasFallenFace_47 ?_
      refine lv_aload_n hx hb dX9_hasFallenFace_50 rfl (lv_at hl 2 rfl) ?_
      refine va_get (D := (dC, dI)) (ci := 3) (v := .ref gr_faceWay) (C := RX3) (T := TX3) (N := 13) hx hb hts (fun w h => wM_c (iX3 w h)) hown hK hP 2 rfl rfl 10 (by decide) (hts _ (wM_c wd_199)) (fun _ h9 => h9) rfl dX9_hasFallenFace_51 ?_
      refine lv_iload_n hx hb dX9_hasFallenFace_54 rfl (lv_at hl 3 rfl) ?_
      refine va_iald hx hb hK hP 6 3 rfl rfl (vp_in_nI (n := i) (by omega) (by omega)) dX9_hasFallenFace_55 ?_
      refine lv_topi (fun v_9 ev_9 => ?_)
      have nv_9 : v_9 = f_gr_faceWay i := by rw [ev_9]; exact congrArg _ (nI_clamp (by omega))
      have g_10 : 0 ≤ v_9.toInt ∧ v_9.toInt < 14 := by rw [ev_9]; exact rg_in q_fw (by omega) (by omega)
      refine va_zald hx hb hK hP 3 0 rfl rfl (by first | with_reducible assumption | exact vp_in_iff.mpr (by omega)) dX9_hasFallenFace_56 ?_
      refine lv_topi (fun v_11 ev_11 => ?_)
      refine lv_if_eq (tgt := 62) hx hb dX9_hasFallenFace_57 (by decide) (fun c_12 => ?_) (fun c_12 => ?_)
      · skip
        have g_13 : v_11.toInt = (0 : Int) := i_eq c_12
        refine lv_iinc (v := (nI (i + 1))) (lv' := [(2, .int (nI (i + 1))), (3, .int 1), (0, .ref st), (1, .ref gr)]) hx hb dX9_hasFallenFace_62 hl (k := 3) rfl (nI_add _ 1) (by decide) rfl (fun ls hl => ?_)
        refine lv_goto (tgt := 10) hx hb dX9_hasFallenFace_65 (by decide) ?_
        exact ih_1 (i + 1) _ _ _ ⟨(by first | with_reducible assumption | omega | exact vp_in_iff.mpr (by omega) | exact vp_in_nI (by omega) (by omega) | exact ⟨by omega, by omega⟩), hP.sub [0, 1, 2, 3, 4, 5, 6] rfl, hD.sub [0, 1, 2, 3, 4, 5, 6] (by decide) rfl, hS, lv_sub hl [2, 3, 0] rfl⟩ (by omega)
      · skip
        have g_14 : v_11.toInt ≠ (0 : Int) := i_ne c_12
        refine lv_iconst (v := 1) hx hb dX9_hasFallenFace_60 (by decide) ?_
        have hK9 := hK.sub (tys' := [(k_st_fallen, .boolean), (k_gr_faceGas, .int), (k_gr_faceNeed, .int), (k_gr_faceWay, .int)]) [0, 1, 2, 3] rfl
        exact W.zret (v := 1) hx hb hr rfl (fun t ht hW => ⟨⟨1, (), rfl, (Or.inr rfl), by rw [ht]; exact hP.sub [0, 1, 2, 3, 4, 5, 6] rfl, va_K.moved hW.alike hK9, hD.sub [0, 1, 2, 3, 4, 5, 6] (by decide) rfl⟩, hS.F ht⟩) hS.2.2 dX9_hasFallenFace_61
    · skip
      have g_15 : v_5.toInt ≤ (0 : Int) := i_nlt c_6
      refine lv_aload_n hx hb dX9_hasFallenFace_27 rfl (lv_at hl 1 rfl) ?_
      refine va_get (D := (dC, dI)) (ci := 3) (v := .ref gr_faceNeed) (C := RX3) (T := TX3) (N := 13) hx hb hts (fun w h => wM_c (iX3 w h)) hown hK hP 2 rfl rfl 12 (by decide) (hts _ (wM_c wd_207)) (fun _ h9 => h9) rfl dX9_hasFallenFace_28 ?_
      refine lv_iload_n hx hb dX9_hasFallenFace_31 rfl (lv_at hl 2 rfl) ?_
      refine va_iald hx hb hK hP 5 2 rfl rfl (vp_in_nI (n := i) (by omega) (by omega)) dX9_hasFallenFace_32 ?_
      refine lv_topi (fun v_16 ev_16 => ?_)
      have nv_16 : v_16 = f_gr_faceNeed i := by rw [ev_16]; exact congrArg _ (nI_clamp (by omega))
      refine lv_if_le (tgt := 40) hx hb dX9_hasFallenFace_33 (by decide) (fun c_17 => ?_) (fun c_17 => ?_)
      · skip
        have g_18 : v_16.toInt ≤ (0 : Int) := i_le c_17
        refine lv_iconst (v := 0) hx hb dX9_hasFallenFace_40 (by decide) ?_
        refine lv_istore_n (lv' := [(3, .int 0), (0, .ref st), (1, .ref gr), (2, .int (nI i))]) hx hb dX9_hasFallenFace_41 rfl hl (by decide) rfl (fun ls hl => ?_)
        refine lv_iload_n hx hb dX9_hasFallenFace_42 rfl (lv_at hl 0 rfl) ?_
        refine lv_if_eq (tgt := 62) hx hb dX9_hasFallenFace_43 (by decide) (fun c_19 => ?_) (fun c_19 => ?_)
        · skip
          refine lv_iinc (v := (nI (i + 1))) (lv' := [(2, .int (nI (i + 1))), (3, .int 0), (0, .ref st), (1, .ref gr)]) hx hb dX9_hasFallenFace_62 hl (k := 3) rfl (nI_add _ 1) (by decide) rfl (fun ls hl => ?_)
          refine lv_goto (tgt := 10) hx hb dX9_hasFallenFace_65 (by decide) ?_
          exact ih_1 (i + 1) _ _ _ ⟨(by first | with_reducible assumption | omega | exact vp_in_iff.mpr (by omega) | exact vp_in_nI (by omega) (by omega) | exact ⟨by omega, by omega⟩), hP.sub [0, 1, 2, 3, 4, 5, 6] rfl, hD.sub [0, 1, 2, 3, 4, 5, 6] (by decide) rfl, hS, lv_sub hl [2, 3, 0] rfl⟩ (by omega)
        · exact absurd c_19 (by decide)
      · skip
        have g_20 : (0 : Int) < v_16.toInt := i_nle c_17
        refine lv_iconst (v := 1) hx hb dX9_hasFallenFace_36 (by decide) ?_
        refine lv_goto (tgt := 41) hx hb dX9_hasFallenFace_37 (by decide) ?_
        refine lv_istore_n (lv' := [(3, .int 1), (0, .ref st), (1, .ref gr), (2, .int (nI i))]) hx hb dX9_hasFallenFace_41 rfl hl (by decide) rfl (fun ls hl => ?_)
        refine lv_iload_n hx hb dX9_hasFallenFace_42 rfl (lv_at hl 0 rfl) ?_
        refine lv_if_eq (tgt := 62) hx hb dX9_hasFallenFace_43 (by decide) (fun c_21 => ?_) (fun c_21 => ?_)
        · exact absurd c_21 (by decide)
        refine lv_aload_n hx hb dX9_hasFallenFace_46 rfl (lv_at hl 1 rfl) ?_
        refine va_get (D := (dC, dI)) (ci := 9) (v := .ref st_fallen) (C := RX9) (T := TX9) (N := 8) hx hb hts (fun w h => wM_c (iX9 w h)) hown hK hP 0 rfl rfl 2 (by decide) (hts _ (wM_c wd_396)) (fun _ h9 => h9) rfl dX9_hasFallenFace_47 ?_
        refine lv_aload_n hx hb dX9_hasFallenFace_50 rfl (lv_at hl 2 rfl) ?_
        refine va_get (D := (dC, dI)) (ci := 3) (v := .ref gr_faceWay) (C := RX3) (T := TX3) (N := 13) hx hb hts (fun w h => wM_c (iX3 w h)) hown hK hP 2 rfl rfl 10 (by decide) (hts _ (wM_c wd_199)) (fun _ h9 => h9) rfl dX9_hasFallenFace_51 ?_
        refine lv_iload_n hx hb dX9_hasFallenFace_54 rfl (lv_at hl 3 rfl) ?_
        refine va_iald hx hb hK hP 6 3 rfl rfl (vp_in_nI (n := i) (by omega) (by omega)) dX9_hasFallenFace_55 ?_
        refine lv_topi (fun v_22 ev_22 => ?_)
        have nv_22 : v_22 = f_gr_faceWay i := by rw [ev_22]; exact congrArg _ (nI_clamp (by omega))
        have g_23 : 0 ≤ v_22.toInt ∧ v_22.toInt < 14 := by rw [ev_22]; exact rg_in q_fw (by omega) (by omega)
        refine va_zald hx hb hK hP 3 0 rfl rfl (by first | with_reducible assumption | exact vp_in_iff.mpr (by omega)) dX9_hasFallenFace_56 ?_
        refine lv_topi (fun v_24 ev_24 => ?_)
        refine lv_if_eq (tgt := 62) hx hb dX9_hasFallenFace_57 (by decide) (fun c_25 => ?_) (fun c_25 => ?_)
        · skip
          have g_26 : v_24.toInt = (0 : Int) := i_eq c_25
          refine lv_iinc (v := (nI (i + 1))) (lv' := [(2, .int (nI (i + 1))), (3, .int 1), (0, .ref st), (1, .ref gr)]) hx hb dX9_hasFallenFace_62 hl (k := 3) rfl (nI_add _ 1) (by decide) rfl (fun ls hl => ?_)
          refine lv_goto (tgt := 10) hx hb dX9_hasFallenFace_65 (by decide) ?_
          exact ih_1 (i + 1) _ _ _ ⟨(by first | with_reducible assumption | omega | exact vp_in_iff.mpr (by omega) | exact vp_in_nI (by omega) (by omega) | exact ⟨by omega, by omega⟩), hP.sub [0, 1, 2, 3, 4, 5, 6] rfl, hD.sub [0, 1, 2, 3, 4, 5, 6] (by decide) rfl, hS, lv_sub hl [2, 3, 0] rfl⟩ (by omega)
        · skip
          have g_27 : v_24.toInt ≠ (0 : Int) := i_ne c_25
          refine lv_iconst (v := 1) hx hb dX9_hasFallenFace_60 (by decide) ?_
          have hK9 := hK.sub (tys' := [(k_st_fallen, .boolean), (k_gr_faceGas, .int), (k_gr_faceNeed, .int), (k_gr_faceWay, .int)]) [0, 1, 2, 3] rfl
          exact W.zret (v := 1) hx hb hr rfl (fun t ht hW => ⟨⟨1, (), rfl, (Or.inr rfl), by rw [ht]; exact hP.sub [0, 1, 2, 3, 4, 5, 6] rfl, va_K.moved hW.alike hK9, hD.sub [0, 1, 2, 3, 4, 5, 6] (by decide) rfl⟩, hS.F ht⟩) hS.2.2 dX9_hasFallenFace_61
set_option maxHeartbeats 4000000 in
set_option maxRecDepth 100000 in
theorem c9_reset (l : Launch) (dC : Nat → ClassId) (dI : Nat → Nat → Nat) (n0 : Nat) (atx : Nat → Nat × Nat) (sz : Nat) (st : Nat) (st_open : Nat) (st_speed : Nat) (st_fallen : Nat) (st_fire : Nat) (st_mark : Int32) (st_moreIn : Int32) (st_more : Int32) (bk : Nat) (k_st_open : ClassId) (f_st_open : Nat → Int32) (k_st_speed : ClassId) (f_st_speed : Nat → Int32) (k_st_fallen : ClassId) (f_st_fallen : Nat → Int32) (k_st_fire : ClassId) (f_st_fire : Nat → Int32) : Met l yX9_reset (wM yX9_reset cX9_reset 2 none) ({ frames := 1, cells := 0, slots := 0, locals := 23 }) (va_Pc [.ref st] (fun U => U.heap.size = sz ∧ n0 ≤ sz ∧ GW n0 atx U ∧ va_P (dC, dI) classes [(st, .inr (9, [.ref st_open, .ref st_speed, .ref st_fallen, .ref st_fire, .int st_mark, .int st_moreIn, .int st_more, .ref bk])), (st_open, .inl (k_st_open, 6, .inl f_st_open)), (st_speed, .inl (k_st_speed, 4, .inl f_st_speed)), (st_fallen, .inl (k_st_fallen, 14, .inl f_st_fallen)), (st_fire, .inl (k_st_fire, 14, .inl f_st_fire))] U.heap ∧ va_K (dC, dI) classes [(k_st_open, .boolean), (k_st_speed, .int), (k_st_fallen, .boolean), (k_st_fire, .int)] U ∧ va_D (fun q => n0 ≤ q) [(st, .inr (9, [.ref st_open, .ref st_speed, .ref st_fallen, .ref st_fire, .int st_mark, .int st_moreIn, .int st_more, .ref bk])), (st_open, .inl (k_st_open, 6, .inl f_st_open)), (st_speed, .inl (k_st_speed, 4, .inl f_st_speed)), (st_fallen, .inl (k_st_fallen, 14, .inl f_st_fallen)), (st_fire, .inl (k_st_fire, 14, .inl f_st_fire))])) (va_Qv (fun _ : Unit => True) (fun (_ : Unit) (t : State) => ∃ (op9 : Nat → Int32), ∃ (sp9 : Nat → Int32), ∃ (fa9 : Nat → Int32), ∃ (fi9 : Nat → Int32), (∀ j, j < 6 → op9 j = 0) ∧ (∀ j, j < 4 → sp9 j = 1) ∧ (∀ j, j < 14 → fa9 j = 0) ∧ (∀ j, j < 14 → fi9 j = 0) ∧ va_P (dC, dI) classes [(st, .inr (9, [.ref st_open, .ref st_speed, .ref st_fallen, .ref st_fire, .int 10, .int (-1), .int 0, .ref bk])), (st_open, .inl (k_st_open, 6, .inl op9)), (st_speed, .inl (k_st_speed, 4, .inl sp9)), (st_fallen, .inl (k_st_fallen, 14, .inl fa9)), (st_fire, .inl (k_st_fire, 14, .inl fi9))] t.heap ∧ va_K (dC, dI) classes [(k_st_open, .boolean), (k_st_speed, .int), (k_st_fallen, .boolean), (k_st_fire, .int)] t ∧ va_D (va_A [(st, .inr (9, [.ref st_open, .ref st_speed, .ref st_fallen, .ref st_fire, .int st_mark, .int st_moreIn, .int st_more, .ref bk])), (st_open, .inl (k_st_open, 6, .inl f_st_open)), (st_speed, .inl (k_st_speed, 4, .inl f_st_speed)), (st_fallen, .inl (k_st_fallen, 14, .inl f_st_fallen)), (st_fire, .inl (k_st_fire, 14, .inl f_st_fire))] sz) [(st, .inr (9, [.ref st_open, .ref st_speed, .ref st_fallen, .ref st_fire, .int 10, .int (-1), .int 0, .ref bk])), (st_open, .inl (k_st_open, 6, .inl op9)), (st_speed, .inl (k_st_speed, 4, .inl sp9)), (st_fallen, .inl (k_st_fallen, 14, .inl fa9)), (st_fire, .inl (k_st_fire, 14, .inl fi9))]) (va_A [(st, .inr (9, [.ref st_open, .ref st_speed, .ref st_fallen, .ref st_fire, .int st_mark, .int st_moreIn, .int st_more, .ref bk])), (st_open, .inl (k_st_open, 6, .inl f_st_open)), (st_speed, .inl (k_st_speed, 4, .inl f_st_speed)), (st_fallen, .inl (k_st_fallen, 14, .inl f_st_fallen)), (st_fire, .inl (k_st_fire, 14, .inl f_st_fire))] sz)) 0 0 (va_A [(st, .inr (9, [.ref st_open, .ref st_speed, .ref st_fallen, .ref st_fire, .int st_mark, .int st_moreIn, .int st_more, .ref bk])), (st_open, .inl (k_st_open, 6, .inl f_st_open)), (st_speed, .inl (k_st_speed, 4, .inl f_st_speed)), (st_fallen, .inl (k_st_fallen, 14, .inl f_st_fallen)), (st_fire, .inl (k_st_fire, 14, .inl f_st_fire))] sz) := by
  refine Met.ofW (cc := cX9_reset) (maxL := 2) (ret := none) (by decide) rfl ?_
  intro p e s m args below meth c s₁ B hml hv
  obtain ⟨rfl, hsz, hn0, hG, hP, hK, hD0⟩ := hv
  have hx := B.exec
  have hb := B.bytes
  have hr := B.returns
  have hts := atoms_spec (ws := wM yX9_reset cX9_reset 2 none) B.pre
  have hown : s.vm.findClass RX9 = some m.cls := findClass_of_methodNamed B.named
  have hlocks := B.notSynchronized
  subst hsz
  have hD := hD0.self (sz := s.heap.size)
  have hA0 := vA_n0 hD0 hn0
  generalize hAe : va_A [(st, .inr (9, [.ref st_open, .ref st_speed, .ref st_fallen, .ref st_fire, .int st_mark, .int st_moreIn, .int st_more, .ref bk])), (st_open, .inl (k_st_open, 6, .inl f_st_open)), (st_speed, .inl (k_st_speed, 4, .inl f_st_speed)), (st_fallen, .inl (k_st_fallen, 14, .inl f_st_fallen)), (st_fire, .inl (k_st_fire, 14, .inl f_st_fire))] s.heap.size = A at hD hA0 ⊢
  have hA : ∀ q : Nat, s.heap.size ≤ q → A q := fun q h => by rw [← hAe]; exact Or.inr h
  have hS : va_S A s.heap s.heap [] := va_S.rf
  have hl := lv_entry ([.ref st]) (n := 2) (Nat.le_of_ble_eq_true rfl)
  rw [lg_entry_eq]
  generalize (lg_sl ([.ref st]) ++ List.replicate (2 - (lg_sl ([.ref st])).length) Slot.unset).toArray = ls at hl ⊢
  have hl : lv_has ls 2 [(0, .ref st)] := hl
  refine lv_iconst (v := 0) hx hb dX9_reset_0 (by decide) ?_
  refine lv_istore_n (lv' := [(1, .int 0), (0, .ref st)]) hx hb dX9_reset_1 rfl hl (by decide) rfl (fun ls hl => ?_)
  refine W_lp2 (I := fun (i1 : Nat) (op : Nat → Int32) H locs ls => (i1 ≤ 6) ∧ (∀ j, j < i1 → op j = 0) ∧ va_P (dC, dI) classes [(st, .inr (9, [.ref st_open, .ref st_speed, .ref st_fallen, .ref st_fire, .int st_mark, .int st_moreIn, .int st_more, .ref bk])), (st_open, .inl (k_st_open, 6, .inl op)), (st_speed, .inl (k_st_speed, 4, .inl f_st_speed)), (st_fallen, .inl (k_st_fallen, 14, .inl f_st_fallen)), (st_fire, .inl (k_st_fire, 14, .inl f_st_fire))] H ∧ va_D A [(st, .inr (9, [.ref st_open, .ref st_speed, .ref st_fallen, .ref st_fire, .int st_mark, .int st_moreIn, .int st_more, .ref bk])), (st_open, .inl (k_st_open, 6, .inl op)), (st_speed, .inl (k_st_speed, 4, .inl f_st_speed)), (st_fallen, .inl (k_st_fallen, 14, .inl f_st_fallen)), (st_fire, .inl (k_st_fire, 14, .inl f_st_fire))] ∧ va_S A s.heap H locs ∧ lv_has ls 2 [(0, .ref st), (1, .int (nI i1))]) (μ := fun (i1 : Nat) (op : Nat → Int32) => 6 - i1) ?_ 0 f_st_open _ _ _ ⟨(by first | with_reducible assumption | omega | exact vp_in_iff.mpr (by omega) | exact vp_in_nI (by omega) (by omega) | exact ⟨by omega, by omega⟩), (fun j hj => absurd hj (Nat.not_lt_zero j)), hP, hD, hS, lv_sub hl [1, 0] rfl⟩
  intro i1 op H locs ls hI ih_1
  obtain ⟨hi1, g_op, hP, hD, hS, hl⟩ := hI
  refine lv_iload_n hx hb dX9_reset_2 rfl (lv_at hl 1 rfl) ?_
  refine lv_bipush (v := 6) hx hb dX9_reset_3 (by decide) ?_
  refine lv_icmp_ge (tgt := 21) hx hb dX9_reset_5 (by decide) (fun c_2 => ?_) (fun c_2 => ?_)
  · skip
    have g_3 := n_ge (a := i1) (b := 6) c_2 (by omega) (by omega)
    refine lv_iconst (v := 0) hx hb dX9_reset_21 (by decide) ?_
    refine lv_istore_n (lv' := [(1, .int 0), (0, .ref st)]) hx hb dX9_reset_22 rfl hl (by decide) rfl (fun ls hl => ?_)
    refine W_lp2 (I := fun (i2 : Nat) (fa : Nat → Int32) H locs ls => (i2 ≤ 14) ∧ (∀ j, j < i2 → fa j = 0) ∧ va_P (dC, dI) classes [(st, .inr (9, [.ref st_open, .ref st_speed, .ref st_fallen, .ref st_fire, .int st_mark, .int st_moreIn, .int st_more, .ref bk])), (st_open, .inl (k_st_open, 6, .inl op)), (st_speed, .inl (k_st_speed, 4, .inl f_st_speed)), (st_fallen, .inl (k_st_fallen, 14, .inl fa)), (st_fire, .inl (k_st_fire, 14, .inl f_st_fire))] H ∧ va_D A [(st, .inr (9, [.ref st_open, .ref st_speed, .ref st_fallen, .ref st_fire, .int st_mark, .int st_moreIn, .int st_more, .ref bk])), (st_open, .inl (k_st_open, 6, .inl op)), (st_speed, .inl (k_st_speed, 4, .inl f_st_speed)), (st_fallen, .inl (k_st_fallen, 14, .inl fa)), (st_fire, .inl (k_st_fire, 14, .inl f_st_fire))] ∧ va_S A s.heap H locs ∧ lv_has ls 2 [(0, .ref st), (1, .int (nI i2))]) (μ := fun (i2 : Nat) (fa : Nat → Int32) => 14 - i2) ?_ 0 f_st_fallen _ _ _ ⟨(by first | with_reducible assumption | omega | exact vp_in_iff.mpr (by omega) | exact vp_in_nI (by omega) (by omega) | exact ⟨by omega, by omega⟩), (fun j hj => absurd hj (Nat.not_lt_zero j)), hP, hD, hS, lv_sub hl [1, 0] rfl⟩
    intro i2 fa H locs ls hI ih_4
    obtain ⟨hi2, g_fa, hP, hD, hS, hl⟩ := hI
    refine lv_iload_n hx hb dX9_reset_23 rfl (lv_at hl 1 rfl) ?_
    refine lv_bipush (v := 14) hx hb dX9_reset_24 (by decide) ?_
    refine lv_icmp_ge (tgt := 42) hx hb dX9_reset_26 (by decide) (fun c_5 => ?_) (fun c_5 => ?_)
    · skip
      have g_6 := n_ge (a := i2) (b := 14) c_5 (by omega) (by omega)
      refine lv_aload_n hx hb dX9_reset_42 rfl (lv_at hl 0 rfl) ?_
      refine va_get (D := (dC, dI)) (ci := 9) (v := .ref st_speed) (C := RX9) (T := TX9) (N := 8) hx hb hts (fun w h => wM_c (iX9 w h)) hown hK hP 0 rfl rfl 1 (by decide) (hts _ (wM_c wd_392)) (fun _ h9 => h9) rfl dX9_reset_43 ?_
      refine lv_iconst (v := 1) hx hb dX9_reset_46 (by decide) ?_
      obtain ⟨hPc, hDc, hFc⟩ := s3_c (ws' := [(st_speed, .inl (k_st_speed, 4, .inl f_st_speed))]) [2] hP hD hS hA rfl (by decide)
      have hKc := hK.sub (tys' := [(k_st_speed, .int)]) [1] rfl
      refine va_callv (va_runS (As := [.ref st_speed, .int 1]) (rest := []) ⟨hx, hb, hml, hown, hts⟩ (c_fill4 l dC dI n0 atx H.size st_speed k_st_speed f_st_speed 1 ) (va_cwS 2 hts (gS (fun w h => wM_c h) wd_669 wd_667 wd_668 wd_126) rfl rfl rfl (by decide +kernel) ⟨Nat.le_of_ble_eq_true rfl, Nat.le_of_ble_eq_true rfl⟩) ⟨fun a U g mk q => by obtain ⟨q0, q1, q2, qG, qP, qK, qD⟩ := q; exact ⟨q0, q1, q2, GW.blind qG, qP, va_K.moved (u := U) (U := U.calling g mk a) (Vm.Alike.refl U.vm) qK, qD⟩, fun U hU hW => ⟨rfl, by rw [hU], Nat.le_trans hn0 hS.1, GW.go hW hU hG (fun q hq hA9 => hS.2.1 q hq (fun h => hA9 (hA0 q h))), by rw [hU]; exact hPc, va_K.moved hW.alike hKc, hDc.weaken (fun _ _ _ h => hA0 _ h)⟩⟩ rfl rfl hl.1 rfl (lv_room (Nat.le_of_ble_eq_true rfl)) dX9_reset_47 ⟨Nat.le_of_ble_eq_true rfl, Nat.le_of_ble_eq_true rfl⟩) hS (fun q _ h => hFc q h) hFc (fun u t H1 locs ht hvm hw_8 hB hz1 hk1 hS => ?_)
      obtain ⟨f2_9, hf_10, hP1, hK1, hD1⟩ := hB
      rw [ht] at hP1
      obtain ⟨hP, hD⟩ := s3_j (L := [(st, .inr (9, [.ref st_open, .ref st_speed, .ref st_fallen, .ref st_fire, .int st_mark, .int st_moreIn, .int st_more, .ref bk])), (st_open, .inl (k_st_open, 6, .inl op)), (st_fallen, .inl (k_st_fallen, 14, .inl fa)), (st_fire, .inl (k_st_fire, 14, .inl f_st_fire)), (st_speed, .inl (k_st_speed, 4, .inl f2_9))]) 4 hP hD [2] [0, 1, 3, 4] hk1 hFc hP1 hD1 rfl rfl rfl (by decide) (by decide)
      generalize H1 = H at hP hS ⊢
      refine lv_aload_n hx hb dX9_reset_50 rfl (lv_at hl 0 rfl) ?_
      refine va_get (D := (dC, dI)) (ci := 9) (v := .ref st_fire) (C := RX9) (T := TX9) (N := 8) hx hb hts (fun w h => wM_c (iX9 w h)) hown hK hP 0 rfl rfl 3 (by decide) (hts _ (wM_c wd_402)) (fun _ h9 => h9) rfl dX9_reset_51 ?_
      refine lv_iconst (v := 0) hx hb dX9_reset_54 (by decide) ?_
      obtain ⟨hPc, hDc, hFc⟩ := s3_c (ws' := [(st_fire, .inl (k_st_fire, 14, .inl f_st_fire))]) [3] hP hD hS hA rfl (by decide)
      have hKc := hK.sub (tys' := [(k_st_fire, .int)]) [3] rfl
      refine va_callv (va_runS (As := [.ref st_fire, .int 0]) (rest := []) ⟨hx, hb, hml, hown, hts⟩ (c_fill14 l dC dI n0 atx H.size st_fire k_st_fire f_st_fire 0 ) (va_cwS 2 hts (gS (fun w h => wM_c h) wd_669 wd_667 wd_668 wd_126) rfl rfl rfl (by decide +kernel) ⟨Nat.le_of_ble_eq_true rfl, Nat.le_of_ble_eq_true rfl⟩) ⟨fun a U g mk q => by obtain ⟨q0, q1, q2, qG, qP, qK, qD⟩ := q; exact ⟨q0, q1, q2, GW.blind qG, qP, va_K.moved (u := U) (U := U.calling g mk a) (Vm.Alike.refl U.vm) qK, qD⟩, fun U hU hW => ⟨rfl, by rw [hU], Nat.le_trans hn0 hS.1, GW.go hW hU hG (fun q hq hA9 => hS.2.1 q hq (fun h => hA9 (hA0 q h))), by rw [hU]; exact hPc, va_K.moved hW.alike hKc, hDc.weaken (fun _ _ _ h => hA0 _ h)⟩⟩ rfl rfl hl.1 rfl (lv_room (Nat.le_of_ble_eq_true rfl)) dX9_reset_55 ⟨Nat.le_of_ble_eq_true rfl, Nat.le_of_ble_eq_true rfl⟩) hS (fun q _ h => hFc q h) hFc (fun u t H1 locs ht hvm hw_12 hB hz1 hk1 hS => ?_)
      obtain ⟨f2_13, hf_14, hP1, hK1, hD1⟩ := hB
      rw [ht] at hP1
      obtain ⟨hP, hD⟩ := s3_j (L := [(st, .inr (9, [.ref st_open, .ref st_speed, .ref st_fallen, .ref st_fire, .int st_mark, .int st_moreIn, .int st_more, .ref bk])), (st_open, .inl (k_st_open, 6, .inl op)), (st_fallen, .inl (k_st_fallen, 14, .inl fa)), (st_speed, .inl (k_st_speed, 4, .inl f2_9)), (st_fire, .inl (k_st_fire, 14, .inl f2_13))]) 4 hP hD [3] [0, 1, 2, 4] hk1 hFc hP1 hD1 rfl rfl rfl (by decide) (by decide)
      generalize H1 = H at hP hS ⊢
      refine lv_aload_n hx hb dX9_reset_58 rfl (lv_at hl 0 rfl) ?_
      refine lv_bipush (v := 10) hx hb dX9_reset_59 (by decide) ?_
      refine va_put (D := (dC, dI)) (ci := 9) (v := .int 10) (ty := .int) (C := RX9) (T := TX9) (N := 8) hx hb hts (fun w h => wM_c (iX9 w h)) tyX9 tyX9_ok nmX9 hown hK hP hD hS 0 rfl rfl 4 (by decide) (hts _ (wM_c wd_405)) (fun _ h9 => h9) rfl (by decide +kernel) rfl rfl (Nat.le_of_ble_eq_true rfl) dX9_reset_61 (fun H locs hP hD hS => ?_)
      obtain ⟨hP, hD⟩ : s3_w (dC, dI) classes A [(st, .inr (9, [.ref st_open, .ref st_speed, .ref st_fallen, .ref st_fire, .int 10, .int st_moreIn, .int st_more, .ref bk])), (st_open, .inl (k_st_open, 6, .inl op)), (st_fallen, .inl (k_st_fallen, 14, .inl fa)), (st_speed, .inl (k_st_speed, 4, .inl f2_9)), (st_fire, .inl (k_st_fire, 14, .inl f2_13))] H := ⟨hP, hD⟩
      refine lv_aload_n hx hb dX9_reset_64 rfl (lv_at hl 0 rfl) ?_
      refine lv_iconst (v := (-1)) hx hb dX9_reset_65 (by decide) ?_
      refine va_put (D := (dC, dI)) (ci := 9) (v := .int (-1)) (ty := .int) (C := RX9) (T := TX9) (N := 8) hx hb hts (fun w h => wM_c (iX9 w h)) tyX9 tyX9_ok nmX9 hown hK hP hD hS 0 rfl rfl 5 (by decide) (hts _ (wM_c wd_408)) (fun _ h9 => h9) rfl (by decide +kernel) rfl rfl (Nat.le_of_ble_eq_true rfl) dX9_reset_66 (fun H locs hP hD hS => ?_)
      obtain ⟨hP, hD⟩ : s3_w (dC, dI) classes A [(st, .inr (9, [.ref st_open, .ref st_speed, .ref st_fallen, .ref st_fire, .int 10, .int (-1), .int st_more, .ref bk])), (st_open, .inl (k_st_open, 6, .inl op)), (st_fallen, .inl (k_st_fallen, 14, .inl fa)), (st_speed, .inl (k_st_speed, 4, .inl f2_9)), (st_fire, .inl (k_st_fire, 14, .inl f2_13))] H := ⟨hP, hD⟩
      refine lv_aload_n hx hb dX9_reset_69 rfl (lv_at hl 0 rfl) ?_
      refine lv_iconst (v := 0) hx hb dX9_reset_70 (by decide) ?_
      refine va_put (D := (dC, dI)) (ci := 9) (v := .int 0) (ty := .int) (C := RX9) (T := TX9) (N := 8) hx hb hts (fun w h => wM_c (iX9 w h)) tyX9 tyX9_ok nmX9 hown hK hP hD hS 0 rfl rfl 6 (by decide) (hts _ (wM_c wd_410)) (fun _ h9 => h9) rfl (by decide +kernel) rfl rfl (Nat.le_of_ble_eq_true rfl) dX9_reset_71 (fun H locs hP hD hS => ?_)
      obtain ⟨hP, hD⟩ : s3_w (dC, dI) classes A [(st, .inr (9, [.ref st_open, .ref st_speed, .ref st_fallen, .ref st_fire, .int 10, .int (-1), .int 0, .ref bk])), (st_open, .inl (k_st_open, 6, .inl op)), (st_fallen, .inl (k_st_fallen, 14, .inl fa)), (st_speed, .inl (k_st_speed, 4, .inl f2_9)), (st_fire, .inl (k_st_fire, 14, .inl f2_13))] H := ⟨hP, hD⟩
      have hK9 := hK.sub (tys' := [(k_st_open, .boolean), (k_st_speed, .int), (k_st_fallen, .boolean), (k_st_fire, .int)]) [0, 1, 2, 3] rfl
      exact W.vret hx hb hr (fun t ht hW => ⟨⟨(), rfl, trivial, op, f2_9, fa, f2_13, (fun j hj => g_op j (by omega)), hf_10, (fun j hj => g_fa j (by omega)), hf_14, by rw [ht]; exact hP.sub [0, 1, 3, 2, 4] rfl, va_K.moved hW.alike hK9, hD.sub [0, 1, 3, 2, 4] (by decide) rfl⟩, hS.F ht⟩) hS.2.2 dX9_reset_74
    · skip
      have g_15 := n_nge (a := i2) (b := 14) c_5 (by omega) (by omega)
      refine lv_aload_n hx hb dX9_reset_29 rfl (lv_at hl 0 rfl) ?_
      refine va_get (D := (dC, dI)) (ci := 9) (v := .ref st_fallen) (C := RX9) (T := TX9) (N := 8) hx hb hts (fun w h => wM_c (iX9 w h)) hown hK hP 0 rfl rfl 2 (by decide) (hts _ (wM_c wd_396)) (fun _ h9 => h9) rfl dX9_reset_30 ?_
      refine lv_iload_n hx hb dX9_reset_33 rfl (lv_at hl 1 rfl) ?_
      refine lv_iconst (v := 0) hx hb dX9_reset_34 (by decide) ?_
      refine va_zast hx hb hK hP hD hS 3 2 rfl rfl (vp_in_nI (n := i2) (by omega) (by omega)) dX9_reset_35 (fun H locs hP hD hS => ?_)
      obtain ⟨f_16, ef_16⟩ : ∃ f9, f9 = (upd fa (nI i2).toNatClampNeg (vp_nar .boolean 0)) := ⟨_, rfl⟩
      obtain ⟨hP, hD⟩ : s3_w (dC, dI) classes A [(st, .inr (9, [.ref st_open, .ref st_speed, .ref st_fallen, .ref st_fire, .int st_mark, .int st_moreIn, .int st_more, .ref bk])), (st_open, .inl (k_st_open, 6, .inl op)), (st_speed, .inl (k_st_speed, 4, .inl f_st_speed)), (st_fallen, .inl (k_st_fallen, 14, .inl f_16)), (st_fire, .inl (k_st_fire, 14, .inl f_st_fire))] H := ⟨(by rw [ef_16]; exact hP), (by rw [ef_16]; exact hD)⟩
      refine lv_iinc (v := (nI (i2 + 1))) (lv' := [(1, .int (nI (i2 + 1))), (0, .ref st)]) hx hb dX9_reset_36 hl (k := 1) rfl (nI_add _ 1) (by decide) rfl (fun ls hl => ?_)
      refine lv_goto (tgt := 23) hx hb dX9_reset_39 (by decide) ?_
      exact ih_4 (i2 + 1) f_16 _ _ _ ⟨(by first | with_reducible assumption | omega | exact vp_in_iff.mpr (by omega) | exact vp_in_nI (by omega) (by omega) | exact ⟨by omega, by omega⟩), (fill_s g_fa ef_16 (by decide) (by omega)), hP.sub [0, 1, 2, 3, 4] rfl, hD.sub [0, 1, 2, 3, 4] (by decide) rfl, hS, lv_sub hl [1, 0] rfl⟩ (by omega)
  · skip
    have g_17 := n_nge (a := i1) (b := 6) c_2 (by omega) (by omega)
    refine lv_aload_n hx hb dX9_reset_8 rfl (lv_at hl 0 rfl) ?_
    refine va_get (D := (dC, dI)) (ci := 9) (v := .ref st_open) (C := RX9) (T := TX9) (N := 8) hx hb hts (fun w h => wM_c (iX9 w h)) hown hK hP 0 rfl rfl 0 (by decide) (hts _ (wM_c wd_389)) (fun _ h9 => h9) rfl dX9_reset_9 ?_
    refine lv_iload_n hx hb dX9_reset_12 rfl (lv_at hl 1 rfl) ?_
    refine lv_iconst (v := 0) hx hb dX9_reset_13 (by decide) ?_
    refine va_zast hx hb hK hP hD hS 1 0 rfl rfl (vp_in_nI (n := i1) (by omega) (by omega)) dX9_reset_14 (fun H locs hP hD hS => ?_)
    obtain ⟨f_18, ef_18⟩ : ∃ f9, f9 = (upd op (nI i1).toNatClampNeg (vp_nar .boolean 0)) := ⟨_, rfl⟩
    obtain ⟨hP, hD⟩ : s3_w (dC, dI) classes A [(st, .inr (9, [.ref st_open, .ref st_speed, .ref st_fallen, .ref st_fire, .int st_mark, .int st_moreIn, .int st_more, .ref bk])), (st_open, .inl (k_st_open, 6, .inl f_18)), (st_speed, .inl (k_st_speed, 4, .inl f_st_speed)), (st_fallen, .inl (k_st_fallen, 14, .inl f_st_fallen)), (st_fire, .inl (k_st_fire, 14, .inl f_st_fire))] H := ⟨(by rw [ef_18]; exact hP), (by rw [ef_18]; exact hD)⟩
    refine lv_iinc (v := (nI (i1 + 1))) (lv' := [(1, .int (nI (i1 + 1))), (0, .ref st)]) hx hb dX9_reset_15 hl (k := 1) rfl (nI_add _ 1) (by decide) rfl (fun ls hl => ?_)
    refine lv_goto (tgt := 2) hx hb dX9_reset_18 (by decide) ?_
    exact ih_1 (i1 + 1) f_18 _ _ _ ⟨(by first | with_reducible assumption | omega | exact vp_in_iff.mpr (by omega) | exact vp_in_nI (by omega) (by omega) | exact ⟨by omega, by omega⟩), (fill_s g_op ef_18 (by decide) (by omega)), hP.sub [0, 1, 2, 3, 4] rfl, hD.sub [0, 1, 2, 3, 4] (by decide) rfl, hS, lv_sub hl [1, 0] rfl⟩ (by omega)
