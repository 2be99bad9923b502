theorem wd_81 : Cond.selects "MineAirModel" (⟨"MineAirModel", "hindrance", "(I)I"⟩ : MethodName) (⟨"MineAirModel", "hindrance", "(I)I"⟩ : MethodName) ∈ wG := wG_of 81 (by decide +kernel) (by decide +kernel)
theorem wd_91 : Cond.selects "MineAirModel" (⟨"MineAirModel", "step", "(II)J"⟩ : MethodName) (⟨"MineAirModel", "step", "(II)J"⟩ : MethodName) ∈ wG := wG_of 91 (by decide +kernel) (by decide +kernel)
theorem wd_127 : Cond.initialized "MineAirModel" ∈ wG := wG_of 127 (by decide +kernel) (by decide +kernel)
theorem wd_1454 : Cond.fieldLink "MineAirModel" 9 "MineAirModel" "power" "[J" ∈ wG := wG_of 1454 (by decide +kernel) (by decide +kernel)
theorem wd_1458 : Cond.fieldLink "MineAirModel" 363 "MineAirModel" "book" "LMineAirModel$Book;" ∈ wG := wG_of 1458 (by decide +kernel) (by decide +kernel)
theorem wd_1470 : Cond.fieldLink "MineAirModel" 28 "MineAirModel" "isOpen" "[Z" ∈ wG := wG_of 1470 (by decide +kernel) (by decide +kernel)
theorem wd_1471 : Cond.fieldLink "MineAirModel" 32 "MineAirModel" "isFallen" "[Z" ∈ wG := wG_of 1471 (by decide +kernel) (by decide +kernel)
theorem wd_1472 : Cond.fieldLink "MineAirModel" 35 "MineAirModel" "speed" "[I" ∈ wG := wG_of 1472 (by decide +kernel) (by decide +kernel)
theorem wd_1473 : Cond.fieldLink "MineAirModel" 39 "MineAirModel" "fire" "[I" ∈ wG := wG_of 1473 (by decide +kernel) (by decide +kernel)
theorem wd_1475 : Cond.fieldLink "MineAirModel" 45 "MineAirModel" "hindered" "I" ∈ wG := wG_of 1475 (by decide +kernel) (by decide +kernel)
theorem wd_1476 : Cond.fieldLink "MineAirModel" 378 "MineAirModel" "hinderedBy" "I" ∈ wG := wG_of 1476 (by decide +kernel) (by decide +kernel)
theorem wd_1477 : Cond.fieldLink "MineAirModel" 48 "MineAirModel" "air" "[I" ∈ wG := wG_of 1477 (by decide +kernel) (by decide +kernel)
theorem wd_1649 : Cond.fieldLinkNest "MineAirModel" 276 "MineAirModel$Book" "hinder" "[I" "MineAirModel" ∈ wN := wN_of 1649 (by decide +kernel) rfl
theorem wd_1655 : Cond.fieldLinkNest "MineAirModel" 300 "MineAirModel$Book" "draught" "[I" "MineAirModel" ∈ wN := wN_of 1655 (by decide +kernel) rfl
theorem wd_1657 : Cond.fieldLinkNest "MineAirModel" 289 "MineAirModel$Book" "doorIn" "[I" "MineAirModel" ∈ wN := wN_of 1657 (by decide +kernel) rfl
theorem wd_1659 : Cond.fieldLinkNest "MineAirModel" 292 "MineAirModel$Book" "fanIn" "[I" "MineAirModel" ∈ wN := wN_of 1659 (by decide +kernel) rfl
theorem wd_1663 : Cond.fieldLinkNest "MineAirModel" 315 "MineAirModel$Book" "by" "[I" "MineAirModel" ∈ wN := wN_of 1663 (by decide +kernel) rfl
theorem wd_1669 : Cond.fieldLinkNest "MineAirModel" 331 "MineAirModel$Book" "push" "[I" "MineAirModel" ∈ wN := wN_of 1669 (by decide +kernel) rfl
theorem wd_1671 : Cond.fieldLinkNest "MineAirModel" 335 "MineAirModel$Book" "fall" "[I" "MineAirModel" ∈ wN := wN_of 1671 (by decide +kernel) rfl
theorem wd_1871 : Cond.methodLink "MineAirModel" 387 (⟨"MineAirModel", "hindrance", "(I)I"⟩ : MethodName) ∈ wG := wG_of 1871 (by decide +kernel) (by decide +kernel)
theorem wd_1873 : Cond.instanceMethod (⟨"MineAirModel", "hindrance", "(I)I"⟩ : MethodName) ∈ wG := wG_of 1873 (by decide +kernel) (by decide +kernel)
theorem wd_1874 : Cond.code (⟨"MineAirModel", "hindrance", "(I)I"⟩ : MethodName) prog_14_method_36_code 3 (Option.some Jvm.ClassFile.FieldType.int) ∈ wG := wG_of 1874 (by decide +kernel) (by decide +kernel)
theorem wd_1935 : Cond.methodLink "MineAirModel" 402 (⟨"MineAirModel", "step", "(II)J"⟩ : MethodName) ∈ wG := wG_of 1935 (by decide +kernel) (by decide +kernel)
theorem wd_1937 : Cond.instanceMethod (⟨"MineAirModel", "step", "(II)J"⟩ : MethodName) ∈ wG := wG_of 1937 (by decide +kernel) (by decide +kernel)
theorem wd_1938 : Cond.code (⟨"MineAirModel", "step", "(II)J"⟩ : MethodName) prog_14_method_43_code 8 (Option.some Jvm.ClassFile.FieldType.long) ∈ wG := wG_of 1938 (by decide +kernel) (by decide +kernel)
theorem dX14_abs_0 : decode cX14_abs 0 = .ok (.iload_n 0, 1) := by decide +kernel
theorem dX14_abs_1 : decode cX14_abs 1 = .ok (.ifCond .ge 8, 3) := by decide +kernel
theorem dX14_abs_4 : decode cX14_abs 4 = .ok (.iload_n 0, 1) := by decide +kernel
theorem dX14_abs_5 : decode cX14_abs 5 = .ok (.ineg, 1) := by decide +kernel
theorem dX14_abs_6 : decode cX14_abs 6 = .ok (.goto 4, 3) := by decide +kernel
theorem dX14_abs_9 : decode cX14_abs 9 = .ok (.iload_n 0, 1) := by decide +kernel
theorem dX14_abs_10 : decode cX14_abs 10 = .ok (.ireturn, 1) := by decide +kernel
theorem dX14_both_0 : decode cX14_both 0 = .ok (.aload_n 0, 1) := by decide +kernel
theorem dX14_both_1 : decode cX14_both 1 = .ok (.iload_n 1, 1) := by decide +kernel
theorem dX14_both_2 : decode cX14_both 2 = .ok (.iload_n 2, 1) := by decide +kernel
theorem dX14_both_3 : decode cX14_both 3 = .ok (.invokevirtual 402, 3) := by decide +kernel
theorem dX14_both_6 : decode cX14_both 6 = .ok (.bipush 26, 2) := by decide +kernel
theorem dX14_both_8 : decode cX14_both 8 = .ok (.lshl, 1) := by decide +kernel
theorem dX14_both_9 : decode cX14_both 9 = .ok (.iload_n 2, 1) := by decide +kernel
theorem dX14_both_10 : decode cX14_both 10 = .ok (.ifCond .le 12, 3) := by decide +kernel
theorem dX14_both_13 : decode cX14_both 13 = .ok (.aload_n 0, 1) := by decide +kernel
theorem dX14_both_14 : decode cX14_both 14 = .ok (.getfield 9, 3) := by decide +kernel
theorem dX14_both_17 : decode cX14_both 17 = .ok (.iload_n 1, 1) := by decide +kernel
theorem dX14_both_18 : decode cX14_both 18 = .ok (.laload, 1) := by decide +kernel
theorem dX14_both_19 : decode cX14_both 19 = .ok (.goto 10, 3) := by decide +kernel
theorem dX14_both_22 : decode cX14_both 22 = .ok (.aload_n 0, 1) := by decide +kernel
theorem dX14_both_23 : decode cX14_both 23 = .ok (.getfield 9, 3) := by decide +kernel
theorem dX14_both_26 : decode cX14_both 26 = .ok (.iload_n 1, 1) := by decide +kernel
theorem dX14_both_27 : decode cX14_both 27 = .ok (.laload, 1) := by decide +kernel
theorem dX14_both_28 : decode cX14_both 28 = .ok (.lneg, 1) := by decide +kernel
theorem dX14_both_29 : decode cX14_both 29 = .ok (.ladd, 1) := by decide +kernel
theorem dX14_both_30 : decode cX14_both 30 = .ok (.lreturn, 1) := by decide +kernel
theorem dX14_hindrance_0 : decode cX14_hindrance 0 = .ok (.aload_n 0, 1) := by decide +kernel
theorem dX14_hindrance_1 : decode cX14_hindrance 1 = .ok (.getfield 363, 3) := by decide +kernel
theorem dX14_hindrance_4 : decode cX14_hindrance 4 = .ok (.getfield 289, 3) := by decide +kernel
theorem dX14_hindrance_7 : decode cX14_hindrance 7 = .ok (.iload_n 1, 1) := by decide +kernel
theorem dX14_hindrance_8 : decode cX14_hindrance 8 = .ok (.iaload, 1) := by decide +kernel
theorem dX14_hindrance_9 : decode cX14_hindrance 9 = .ok (.istore_n 2, 1) := by decide +kernel
theorem dX14_hindrance_10 : decode cX14_hindrance 10 = .ok (.aload_n 0, 1) := by decide +kernel
theorem dX14_hindrance_11 : decode cX14_hindrance 11 = .ok (.getfield 363, 3) := by decide +kernel
theorem dX14_hindrance_14 : decode cX14_hindrance 14 = .ok (.getfield 276, 3) := by decide +kernel
theorem dX14_hindrance_17 : decode cX14_hindrance 17 = .ok (.iload_n 1, 1) := by decide +kernel
theorem dX14_hindrance_18 : decode cX14_hindrance 18 = .ok (.iaload, 1) := by decide +kernel
theorem dX14_hindrance_19 : decode cX14_hindrance 19 = .ok (.iload_n 2, 1) := by decide +kernel
theorem dX14_hindrance_20 : decode cX14_hindrance 20 = .ok (.ifCond .lt 24, 3) := by decide +kernel
theorem dX14_hindrance_23 : decode cX14_hindrance 23 = .ok (.aload_n 0, 1) := by decide +kernel
theorem dX14_hindrance_24 : decode cX14_hindrance 24 = .ok (.getfield 28, 3) := by decide +kernel
theorem dX14_hindrance_27 : decode cX14_hindrance 27 = .ok (.iload_n 2, 1) := by decide +kernel
theorem dX14_hindrance_28 : decode cX14_hindrance 28 = .ok (.baload, 1) := by decide +kernel
theorem dX14_hindrance_29 : decode cX14_hindrance 29 = .ok (.ifCond .ne 15, 3) := by decide +kernel
theorem dX14_hindrance_32 : decode cX14_hindrance 32 = .ok (.aload_n 0, 1) := by decide +kernel
theorem dX14_hindrance_33 : decode cX14_hindrance 33 = .ok (.getfield 363, 3) := by decide +kernel
theorem dX14_hindrance_36 : decode cX14_hindrance 36 = .ok (.getfield 315, 3) := by decide +kernel
theorem dX14_hindrance_39 : decode cX14_hindrance 39 = .ok (.iload_n 2, 1) := by decide +kernel
theorem dX14_hindrance_40 : decode cX14_hindrance 40 = .ok (.iaload, 1) := by decide +kernel
theorem dX14_hindrance_41 : decode cX14_hindrance 41 = .ok (.goto 4, 3) := by decide +kernel
theorem dX14_hindrance_44 : decode cX14_hindrance 44 = .ok (.iconst 0, 1) := by decide +kernel
theorem dX14_hindrance_45 : decode cX14_hindrance 45 = .ok (.iadd, 1) := by decide +kernel
theorem dX14_hindrance_46 : decode cX14_hindrance 46 = .ok (.iload_n 1, 1) := by decide +kernel
theorem dX14_hindrance_47 : decode cX14_hindrance 47 = .ok (.aload_n 0, 1) := by decide +kernel
theorem dX14_hindrance_48 : decode cX14_hindrance 48 = .ok (.getfield 45, 3) := by decide +kernel
theorem dX14_hindrance_51 : decode cX14_hindrance 51 = .ok (.if_icmp .ne 10, 3) := by decide +kernel
theorem dX14_hindrance_54 : decode cX14_hindrance 54 = .ok (.aload_n 0, 1) := by decide +kernel
theorem dX14_hindrance_55 : decode cX14_hindrance 55 = .ok (.getfield 378, 3) := by decide +kernel
theorem dX14_hindrance_58 : decode cX14_hindrance 58 = .ok (.goto 4, 3) := by decide +kernel
theorem dX14_hindrance_61 : decode cX14_hindrance 61 = .ok (.iconst 0, 1) := by decide +kernel
theorem dX14_hindrance_62 : decode cX14_hindrance 62 = .ok (.iadd, 1) := by decide +kernel
theorem dX14_hindrance_63 : decode cX14_hindrance 63 = .ok (.ireturn, 1) := by decide +kernel
theorem dX14_may_0 : decode cX14_may 0 = .ok (.aload_n 0, 1) := by decide +kernel
theorem dX14_may_1 : decode cX14_may 1 = .ok (.getfield 32, 3) := by decide +kernel
theorem dX14_may_4 : decode cX14_may 4 = .ok (.iload_n 1, 1) := by decide +kernel
theorem dX14_may_5 : decode cX14_may 5 = .ok (.baload, 1) := by decide +kernel
theorem dX14_may_6 : decode cX14_may 6 = .ok (.ifCond .ne 36, 3) := by decide +kernel
theorem dX14_may_9 : decode cX14_may 9 = .ok (.iload_n 2, 1) := by decide +kernel
theorem dX14_may_10 : decode cX14_may 10 = .ok (.ifCond .eq 17, 3) := by decide +kernel
theorem dX14_may_13 : decode cX14_may 13 = .ok (.aload_n 0, 1) := by decide +kernel
theorem dX14_may_14 : decode cX14_may 14 = .ok (.getfield 48, 3) := by decide +kernel
theorem dX14_may_17 : decode cX14_may 17 = .ok (.iload_n 1, 1) := by decide +kernel
theorem dX14_may_18 : decode cX14_may 18 = .ok (.iaload, 1) := by decide +kernel
theorem dX14_may_19 : decode cX14_may 19 = .ok (.bipush 60, 2) := by decide +kernel
theorem dX14_may_21 : decode cX14_may 21 = .ok (.if_icmp .ge 21, 3) := by decide +kernel
theorem dX14_may_24 : decode cX14_may 24 = .ok (.goto 14, 3) := by decide +kernel
theorem dX14_may_27 : decode cX14_may 27 = .ok (.aload_n 0, 1) := by decide +kernel
theorem dX14_may_28 : decode cX14_may 28 = .ok (.getfield 48, 3) := by decide +kernel
theorem dX14_may_31 : decode cX14_may 31 = .ok (.iload_n 1, 1) := by decide +kernel
theorem dX14_may_32 : decode cX14_may 32 = .ok (.iaload, 1) := by decide +kernel
theorem dX14_may_33 : decode cX14_may 33 = .ok (.bipush (-60), 2) := by decide +kernel
theorem dX14_may_35 : decode cX14_may 35 = .ok (.if_icmp .le 7, 3) := by decide +kernel
theorem dX14_may_38 : decode cX14_may 38 = .ok (.iconst 1, 1) := by decide +kernel
theorem dX14_may_39 : decode cX14_may 39 = .ok (.goto 4, 3) := by decide +kernel
theorem dX14_may_42 : decode cX14_may 42 = .ok (.iconst 0, 1) := by decide +kernel
theorem dX14_may_43 : decode cX14_may 43 = .ok (.ireturn, 1) := by decide +kernel
theorem dX14_step_0 : decode cX14_step 0 = .ok (.aload_n 0, 1) := by decide +kernel
theorem dX14_step_1 : decode cX14_step 1 = .ok (.iload_n 1, 1) := by decide +kernel
theorem dX14_step_2 : decode cX14_step 2 = .ok (.invokevirtual 387, 3) := by decide +kernel
theorem dX14_step_5 : decode cX14_step 5 = .ok (.i2l, 1) := by decide +kernel
theorem dX14_step_6 : decode cX14_step 6 = .ok (.lstore_n 3, 1) := by decide +kernel
theorem dX14_step_7 : decode cX14_step 7 = .ok (.iload_n 2, 1) := by decide +kernel
theorem dX14_step_8 : decode cX14_step 8 = .ok (.ifCond .le 13, 3) := by decide +kernel
theorem dX14_step_11 : decode cX14_step 11 = .ok (.lload_n 3, 1) := by decide +kernel
theorem dX14_step_12 : decode cX14_step 12 = .ok (.iload_n 2, 1) := by decide +kernel
theorem dX14_step_13 : decode cX14_step 13 = .ok (.i2l, 1) := by decide +kernel
theorem dX14_step_14 : decode cX14_step 14 = .ok (.lmul, 1) := by decide +kernel
theorem dX14_step_15 : decode cX14_step 15 = .ok (.iload_n 2, 1) := by decide +kernel
theorem dX14_step_16 : decode cX14_step 16 = .ok (.i2l, 1) := by decide +kernel
theorem dX14_step_17 : decode cX14_step 17 = .ok (.lmul, 1) := by decide +kernel
theorem dX14_step_18 : decode cX14_step 18 = .ok (.goto 15, 3) := by decide +kernel
theorem dX14_step_21 : decode cX14_step 21 = .ok (.lload_n 3, 1) := by decide +kernel
theorem dX14_step_22 : decode cX14_step 22 = .ok (.lneg, 1) := by decide +kernel
theorem dX14_step_23 : decode cX14_step 23 = .ok (.iconst 1, 1) := by decide +kernel
theorem dX14_step_24 : decode cX14_step 24 = .ok (.iload_n 2, 1) := by decide +kernel
theorem dX14_step_25 : decode cX14_step 25 = .ok (.isub, 1) := by decide +kernel
theorem dX14_step_26 : decode cX14_step 26 = .ok (.i2l, 1) := by decide +kernel
theorem dX14_step_27 : decode cX14_step 27 = .ok (.lmul, 1) := by decide +kernel
theorem dX14_step_28 : decode cX14_step 28 = .ok (.iconst 1, 1) := by decide +kernel
theorem dX14_step_29 : decode cX14_step 29 = .ok (.iload_n 2, 1) := by decide +kernel
theorem dX14_step_30 : decode cX14_step 30 = .ok (.isub, 1) := by decide +kernel
theorem dX14_step_31 : decode cX14_step 31 = .ok (.i2l, 1) := by decide +kernel
theorem dX14_step_32 : decode cX14_step 32 = .ok (.lmul, 1) := by decide +kernel
theorem dX14_step_33 : decode cX14_step 33 = .ok (.lstore 5, 2) := by decide +kernel
theorem dX14_step_35 : decode cX14_step 35 = .ok (.lload 5, 2) := by decide +kernel
theorem dX14_step_37 : decode cX14_step 37 = .ok (.aload_n 0, 1) := by decide +kernel
theorem dX14_step_38 : decode cX14_step 38 = .ok (.getfield 363, 3) := by decide +kernel
theorem dX14_step_41 : decode cX14_step 41 = .ok (.getfield 300, 3) := by decide +kernel
theorem dX14_step_44 : decode cX14_step 44 = .ok (.iload_n 1, 1) := by decide +kernel
theorem dX14_step_45 : decode cX14_step 45 = .ok (.iaload, 1) := by decide +kernel
theorem dX14_step_46 : decode cX14_step 46 = .ok (.aload_n 0, 1) := by decide +kernel
theorem dX14_step_47 : decode cX14_step 47 = .ok (.getfield 39, 3) := by decide +kernel
theorem dX14_step_50 : decode cX14_step 50 = .ok (.iload_n 1, 1) := by decide +kernel
theorem dX14_step_51 : decode cX14_step 51 = .ok (.iaload, 1) := by decide +kernel
theorem dX14_step_52 : decode cX14_step 52 = .ok (.iadd, 1) := by decide +kernel
theorem dX14_step_53 : decode cX14_step 53 = .ok (.i2l, 1) := by decide +kernel
theorem dX14_step_54 : decode cX14_step 54 = .ok (.lsub, 1) := by decide +kernel
theorem dX14_step_55 : decode cX14_step 55 = .ok (.lstore 5, 2) := by decide +kernel
theorem dX14_step_57 : decode cX14_step 57 = .ok (.aload_n 0, 1) := by decide +kernel
theorem dX14_step_58 : decode cX14_step 58 = .ok (.getfield 363, 3) := by decide +kernel
theorem dX14_step_61 : decode cX14_step 61 = .ok (.getfield 292, 3) := by decide +kernel
theorem dX14_step_64 : decode cX14_step 64 = .ok (.iload_n 1, 1) := by decide +kernel
theorem dX14_step_65 : decode cX14_step 65 = .ok (.iaload, 1) := by decide +kernel
theorem dX14_step_66 : decode cX14_step 66 = .ok (.istore 7, 2) := by decide +kernel
theorem dX14_step_68 : decode cX14_step 68 = .ok (.iload 7, 2) := by decide +kernel
theorem dX14_step_70 : decode cX14_step 70 = .ok (.ifCond .ge 8, 3) := by decide +kernel
theorem dX14_step_73 : decode cX14_step 73 = .ok (.lload 5, 2) := by decide +kernel
theorem dX14_step_75 : decode cX14_step 75 = .ok (.goto 39, 3) := by decide +kernel
theorem dX14_step_78 : decode cX14_step 78 = .ok (.lload 5, 2) := by decide +kernel
theorem dX14_step_80 : decode cX14_step 80 = .ok (.aload_n 0, 1) := by decide +kernel
theorem dX14_step_81 : decode cX14_step 81 = .ok (.getfield 363, 3) := by decide +kernel
theorem dX14_step_84 : decode cX14_step 84 = .ok (.getfield 331, 3) := by decide +kernel
theorem dX14_step_87 : decode cX14_step 87 = .ok (.iload 7, 2) := by decide +kernel
theorem dX14_step_89 : decode cX14_step 89 = .ok (.iaload, 1) := by decide +kernel
theorem dX14_step_90 : decode cX14_step 90 = .ok (.aload_n 0, 1) := by decide +kernel
theorem dX14_step_91 : decode cX14_step 91 = .ok (.getfield 35, 3) := by decide +kernel
theorem dX14_step_94 : decode cX14_step 94 = .ok (.iload 7, 2) := by decide +kernel
theorem dX14_step_96 : decode cX14_step 96 = .ok (.iaload, 1) := by decide +kernel
theorem dX14_step_97 : decode cX14_step 97 = .ok (.imul, 1) := by decide +kernel
theorem dX14_step_98 : decode cX14_step 98 = .ok (.i2l, 1) := by decide +kernel
theorem dX14_step_99 : decode cX14_step 99 = .ok (.lsub, 1) := by decide +kernel
theorem dX14_step_100 : decode cX14_step 100 = .ok (.aload_n 0, 1) := by decide +kernel
theorem dX14_step_101 : decode cX14_step 101 = .ok (.getfield 363, 3) := by decide +kernel
theorem dX14_step_104 : decode cX14_step 104 = .ok (.getfield 335, 3) := by decide +kernel
theorem dX14_step_107 : decode cX14_step 107 = .ok (.iload 7, 2) := by decide +kernel
theorem dX14_step_109 : decode cX14_step 109 = .ok (.iaload, 1) := by decide +kernel
theorem dX14_step_110 : decode cX14_step 110 = .ok (.iload_n 2, 1) := by decide +kernel
theorem dX14_step_111 : decode cX14_step 111 = .ok (.imul, 1) := by decide +kernel
theorem dX14_step_112 : decode cX14_step 112 = .ok (.i2l, 1) := by decide +kernel
theorem dX14_step_113 : decode cX14_step 113 = .ok (.ladd, 1) := by decide +kernel
theorem dX14_step_114 : decode cX14_step 114 = .ok (.lreturn, 1) := by decide +kernel
def hinF (fd fh fb fo : Nat → Int32) (hi hb w : Int32) : Int32 := fh w.toNatClampNeg + (if fd w.toNatClampNeg < 0 then 0 else if fo (fd w.toNatClampNeg).toNatClampNeg = 0 then fb (fd w.toNatClampNeg).toNatClampNeg else 0) + (if w = hi then hb else 0)
set_option maxHeartbeats 4000000 in
set_option maxRecDepth 100000 in
theorem m_hindrance (l : Launch) (dC : Nat → ClassId) (dI : Nat → Nat → Nat) (n0 : Nat) (atx : Nat → Nat × Nat) (sz : Nat) (m0 : Nat) (m0_thrown : Int32) (m0_power : Nat) (m0_trouble : Int32) (m0_where : Int32) (m0_fault : Int32) (bk : Nat) (fv : Value) (sp : Nat) (m0_tape : Nat) (tp : Nat) (m0_size : Int32) (m0_at : Int32) (m0_sort : Int32) (m0_place : Int32) (m0_mark : Int32) (m0_number : Int32) (m0_word : Int64) (m0_isOpen : Nat) (m0_isFallen : Nat) (m0_speed : Nat) (m0_fire : Nat) (m0_most : Int32) (m0_hindered : Int32) (m0_hinderedBy : Int32) (m0_air : Nat) (m0_cameBy : Nat) (m0_least : Nat) (m0_before : Nat) (m0_gas : Nat) (m0_into : Nat) (m0_rest : Nat) (m0_isTold : Nat) (m0_isPast : Nat) (m0_kept : Nat) (m0_smoke : Nat) (m0_early : Nat) (mn : Nat) (m0_manAt : Nat) (nc : Nat) (m0_changeKind : Nat) (m0_changeOf : Nat) (m0_changeTo : Nat) (m0_row : Nat) (m0_openWas : Nat) (m0_fallenWas : Nat) (m0_speedWas : Nat) (nr : Nat) (m0_readingOf : Nat) (m0_low : Nat) (m0_high : Nat) (m0_back : Nat) (nw : Nat) (nk : Nat) (nd : Nat) (np : Nat) (nf : Nat) (ne : Nat) (nn : Nat) (bk_knot : Nat) (bk_name : Nat) (bk_kind : Nat) (bk_number : Nat) (bk_from : Nat) (bk_to : Nat) (bk_hinder : Nat) (bk_size : Nat) (bk_walk : Nat) (bk_draught : Nat) (bk_doorIn : Nat) (bk_fanIn : Nat) (bk_faceIn : Nat) (bk_by : Nat) (bk_one : Nat) (bk_two : Nat) (bk_push : Nat) (bk_fall : Nat) (bk_cost : Nat) (bk_gas : Nat) (bk_need : Nat) (k_bk_doorIn : ClassId) (f_bk_doorIn : Nat → Int32) (k_bk_hinder : ClassId) (f_bk_hinder : Nat → Int32) (k_bk_by : ClassId) (f_bk_by : Nat → Int32) (k_m0_isOpen : ClassId) (f_m0_isOpen : Nat → Int32) (w : Int32) (r_doorIn : rg f_bk_doorIn 14 (-2) 6) (hw : vp_in w 14) : Met l yX14_hindrance (wM yX14_hindrance cX14_hindrance 3 (some .int)) ({ frames := 0, cells := 0, slots := 0, locals := 0 }) (va_Pc [.ref m0, .int w] (fun U => U.heap.size = sz ∧ n0 ≤ sz ∧ GW n0 atx U ∧ va_P (dC, dI) classes [(m0, .inr (14, fX14 (.int m0_thrown) (.ref m0_power) (.int m0_trouble) (.int m0_where) (.int m0_fault) (.ref bk) fv (.ref sp) (.ref m0_tape) (.int (nI tp)) (.int m0_size) (.int m0_at) (.int m0_sort) (.int m0_place) (.int m0_mark) (.int m0_number) (.long m0_word) (.ref m0_isOpen) (.ref m0_isFallen) (.ref m0_speed) (.ref m0_fire) (.int m0_most) (.int m0_hindered) (.int m0_hinderedBy) (.ref m0_air) (.ref m0_cameBy) (.ref m0_least) (.ref m0_before) (.ref m0_gas) (.ref m0_into) (.ref m0_rest) (.ref m0_isTold) (.ref m0_isPast) (.ref m0_kept) (.ref m0_smoke) (.ref m0_early) (.int (nI mn)) (.ref m0_manAt) (.int (nI nc)) (.ref m0_changeKind) (.ref m0_changeOf) (.ref m0_changeTo) (.ref m0_row) (.ref m0_openWas) (.ref m0_fallenWas) (.ref m0_speedWas) (.int (nI nr)) (.ref m0_readingOf) (.ref m0_low) (.ref m0_high) (.ref m0_back))), (bk, .inr (12, [.int (nI nw), .int (nI nk), .int (nI nd), .int (nI np), .int (nI nf), .int (nI ne), .int (nI nn), .ref bk_knot, .ref bk_name, .ref bk_kind, .ref bk_number, .ref bk_from, .ref bk_to, .ref bk_hinder, .ref bk_size, .ref bk_walk, .ref bk_draught, .ref bk_doorIn, .ref bk_fanIn, .ref bk_faceIn, .ref bk_by, .ref bk_one, .ref bk_two, .ref bk_push, .ref bk_fall, .ref bk_cost, .ref bk_gas, .ref bk_need])), (bk_doorIn, .inl (k_bk_doorIn, 14, .inl f_bk_doorIn)), (bk_hinder, .inl (k_bk_hinder, 14, .inl f_bk_hinder)), (bk_by, .inl (k_bk_by, 6, .inl f_bk_by)), (m0_isOpen, .inl (k_m0_isOpen, 6, .inl f_m0_isOpen))] U.heap ∧ va_K (dC, dI) classes [(k_bk_doorIn, .int), (k_bk_hinder, .int), (k_bk_by, .int), (k_m0_isOpen, .boolean)] U ∧ va_D (fun q => n0 ≤ q) [(m0, .inr (14, fX14 (.int m0_thrown) (.ref m0_power) (.int m0_trouble) (.int m0_where) (.int m0_fault) (.ref bk) fv (.ref sp) (.ref m0_tape) (.int (nI tp)) (.int m0_size) (.int m0_at) (.int m0_sort) (.int m0_place) (.int m0_mark) (.int m0_number) (.long m0_word) (.ref m0_isOpen) (.ref m0_isFallen) (.ref m0_speed) (.ref m0_fire) (.int m0_most) (.int m0_hindered) (.int m0_hinderedBy) (.ref m0_air) (.ref m0_cameBy) (.ref m0_least) (.ref m0_before) (.ref m0_gas) (.ref m0_into) (.ref m0_rest) (.ref m0_isTold) (.ref m0_isPast) (.ref m0_kept) (.ref m0_smoke) (.ref m0_early) (.int (nI mn)) (.ref m0_manAt) (.int (nI nc)) (.ref m0_changeKind) (.ref m0_changeOf) (.ref m0_changeTo) (.ref m0_row) (.ref m0_openWas) (.ref m0_fallenWas) (.ref m0_speedWas) (.int (nI nr)) (.ref m0_readingOf) (.ref m0_low) (.ref m0_high) (.ref m0_back))), (bk, .inr (12, [.int (nI nw), .int (nI nk), .int (nI nd), .int (nI np), .int (nI nf), .int (nI ne), .int (nI nn), .ref bk_knot, .ref bk_name, .ref bk_kind, .ref bk_number, .ref bk_from, .ref bk_to, .ref bk_hinder, .ref bk_size, .ref bk_walk, .ref bk_draught, .ref bk_doorIn, .ref bk_fanIn, .ref bk_faceIn, .ref bk_by, .ref bk_one, .ref bk_two, .ref bk_push, .ref bk_fall, .ref bk_cost, .ref bk_gas, .ref bk_need])), (bk_doorIn, .inl (k_bk_doorIn, 14, .inl f_bk_doorIn)), (bk_hinder, .inl (k_bk_hinder, 14, .inl f_bk_hinder)), (bk_by, .inl (k_bk_by, 6, .inl f_bk_by)), (m0_isOpen, .inl (k_m0_isOpen, 6, .inl f_m0_isOpen))])) (va_Qi (fun (r : Int32) (_ : Unit) => r = hinF f_bk_doorIn f_bk_hinder f_bk_by f_m0_isOpen m0_hindered m0_hinderedBy w) (fun (_ : Unit) (t : State) => va_P (dC, dI) classes [(m0, .inr (14, fX14 (.int m0_thrown) (.ref m0_power) (.int m0_trouble) (.int m0_where) (.int m0_fault) (.ref bk) fv (.ref sp) (.ref m0_tape) (.int (nI tp)) (.int m0_size) (.int m0_at) (.int m0_sort) (.int m0_place) (.int m0_mark) (.int m0_number) (.long m0_word) (.ref m0_isOpen) (.ref m0_isFallen) (.ref m0_speed) (.ref m0_fire) (.int m0_most) (.int m0_hindered) (.int m0_hinderedBy) (.ref m0_air) (.ref m0_cameBy) (.ref m0_least) (.ref m0_before) (.ref m0_gas) (.ref m0_into) (.ref m0_rest) (.ref m0_isTold) (.ref m0_isPast) (.ref m0_kept) (.ref m0_smoke) (.ref m0_early) (.int (nI mn)) (.ref m0_manAt) (.int (nI nc)) (.ref m0_changeKind) (.ref m0_changeOf) (.ref m0_changeTo) (.ref m0_row) (.ref m0_openWas) (.ref m0_fallenWas) (.ref m0_speedWas) (.int (nI nr)) (.ref m0_readingOf) (.ref m0_low) (.ref m0_high) (.ref m0_back))), (bk, .inr (12, [.int (nI nw), .int (nI nk), .int (nI nd), .int (nI np), .int (nI nf), .int (nI ne), .int (nI nn), .ref bk_knot, .ref bk_name, .ref bk_kind, .ref bk_number, .ref bk_from, .ref bk_to, .ref bk_hinder, .ref bk_size, .ref bk_walk, .ref bk_draught, .ref bk_doorIn, .ref bk_fanIn, .ref bk_faceIn, .ref bk_by, .ref bk_one, .ref bk_two, .ref bk_push, .ref bk_fall, .ref bk_cost, .ref bk_gas, .ref bk_need])), (bk_doorIn, .inl (k_bk_doorIn, 14, .inl f_bk_doorIn)), (bk_hinder, .inl (k_bk_hinder, 14, .inl f_bk_hinder)), (bk_by, .inl (k_bk_by, 6, .inl f_bk_by)), (m0_isOpen, .inl (k_m0_isOpen, 6, .inl f_m0_isOpen))] t.heap ∧ va_K (dC, dI) classes [(k_bk_doorIn, .int), (k_bk_hinder, .int), (k_bk_by, .int), (k_m0_isOpen, .boolean)] t ∧ va_D (va_A [(m0, .inr (14, fX14 (.int m0_thrown) (.ref m0_power) (.int m0_trouble) (.int m0_where) (.int m0_fault) (.ref bk) fv (.ref sp) (.ref m0_tape) (.int (nI tp)) (.int m0_size) (.int m0_at) (.int m0_sort) (.int m0_place) (.int m0_mark) (.int m0_number) (.long m0_word) (.ref m0_isOpen) (.ref m0_isFallen) (.ref m0_speed) (.ref m0_fire) (.int m0_most) (.int m0_hindered) (.int m0_hinderedBy) (.ref m0_air) (.ref m0_cameBy) (.ref m0_least) (.ref m0_before) (.ref m0_gas) (.ref m0_into) (.ref m0_rest) (.ref m0_isTold) (.ref m0_isPast) (.ref m0_kept) (.ref m0_smoke) (.ref m0_early) (.int (nI mn)) (.ref m0_manAt) (.int (nI nc)) (.ref m0_changeKind) (.ref m0_changeOf) (.ref m0_changeTo) (.ref m0_row) (.ref m0_openWas) (.ref m0_fallenWas) (.ref m0_speedWas) (.int (nI nr)) (.ref m0_readingOf) (.ref m0_low) (.ref m0_high) (.ref m0_back))), (bk, .inr (12, [.int (nI nw), .int (nI nk), .int (nI nd), .int (nI np), .int (nI nf), .int (nI ne), .int (nI nn), .ref bk_knot, .ref bk_name, .ref bk_kind, .ref bk_number, .ref bk_from, .ref bk_to, .ref bk_hinder, .ref bk_size, .ref bk_walk, .ref bk_draught, .ref bk_doorIn, .ref bk_fanIn, .ref bk_faceIn, .ref bk_by, .ref bk_one, .ref bk_two, .ref bk_push, .ref bk_fall, .ref bk_cost, .ref bk_gas, .ref bk_need])), (bk_doorIn, .inl (k_bk_doorIn, 14, .inl f_bk_doorIn)), (bk_hinder, .inl (k_bk_hinder, 14, .inl f_bk_hinder)), (bk_by, .inl (k_bk_by, 6, .inl f_bk_by)), (m0_isOpen, .inl (k_m0_isOpen, 6, .inl f_m0_isOpen))] sz) [(m0, .inr (14, fX14 (.int m0_thrown) (.ref m0_power) (.int m0_trouble) (.int m0_where) (.int m0_fault) (.ref bk) fv (.ref sp) (.ref m0_tape) (.int (nI tp)) (.int m0_size) (.int m0_at) (.int m0_sort) (.int m0_place) (.int m0_mark) (.int m0_number) (.long m0_word) (.ref m0_isOpen) (.ref m0_isFallen) (.ref m0_speed) (.ref m0_fire) (.int m0_most) (.int m0_hindered) (.int m0_hinderedBy) (.ref m0_air) (.ref m0_cameBy) (.ref m0_least) (.ref m0_before) (.ref m0_gas) (.ref m0_into) (.ref m0_rest) (.ref m0_isTold) (.ref m0_isPast) (.ref m0_kept) (.ref m0_smoke) (.ref m0_early) (.int (nI mn)) (.ref m0_manAt) (.int (nI nc)) (.ref m0_changeKind) (.ref m0_changeOf) (.ref m0_changeTo) (.ref m0_row) (.ref m0_openWas) (.ref m0_fallenWas) (.ref m0_speedWas) (.int (nI nr)) (.ref m0_readingOf) (.ref m0_low) (.ref m0_high) (.ref m0_back))), (bk, .inr (12, [.int (nI nw), .int (nI nk), .int (nI nd), .int (nI np), .int (nI nf), .int (nI ne), .int (nI nn), .ref bk_knot, .ref bk_name, .ref bk_kind, .ref bk_number, .ref bk_from, .ref bk_to, .ref bk_hinder, .ref bk_size, .ref bk_walk, .ref bk_draught, .ref bk_doorIn, .ref bk_fanIn, .ref bk_faceIn, .ref bk_by, .ref bk_one, .ref bk_two, .ref bk_push, .ref bk_fall, .ref bk_cost, .ref bk_gas, .ref bk_need])), (bk_doorIn, .inl (k_bk_doorIn, 14, .inl f_bk_doorIn)), (bk_hinder, .inl (k_bk_hinder, 14, .inl f_bk_hinder)), (bk_by, .inl (k_bk_by, 6, .inl f_bk_by)), (m0_isOpen, .inl (k_m0_isOpen, 6, .inl f_m0_isOpen))]) (va_A [(m0, .inr (14, fX14 (.int m0_thrown) (.ref m0_power) (.int m0_trouble) (.int m0_where) (.int m0_fault) (.ref bk) fv (.ref sp) (.ref m0_tape) (.int (nI tp)) (.int m0_size) (.int m0_at) (.int m0_sort) (.int m0_place) (.int m0_mark) (.int m0_number) (.long m0_word) (.ref m0_isOpen) (.ref m0_isFallen) (.ref m0_speed) (.ref m0_fire) (.int m0_most) (.int m0_hindered) (.int m0_hinderedBy) (.ref m0_air) (.ref m0_cameBy) (.ref m0_least) (.ref m0_before) (.ref m0_gas) (.ref m0_into) (.ref m0_rest) (.ref m0_isTold) (.ref m0_isPast) (.ref m0_kept) (.ref m0_smoke) (.ref m0_early) (.int (nI mn)) (.ref m0_manAt) (.int (nI nc)) (.ref m0_changeKind) (.ref m0_changeOf) (.ref m0_changeTo) (.ref m0_row) (.ref m0_openWas) (.ref m0_fallenWas) (.ref m0_speedWas) (.int (nI nr)) (.ref m0_readingOf) (.ref m0_low) (.ref m0_high) (.ref m0_back))), (bk, .inr (12, [.int (nI nw), .int (nI nk), .int (nI nd), .int (nI np), .int (nI nf), .int (nI ne), .int (nI nn), .ref bk_knot, .ref bk_name, .ref bk_kind, .ref bk_number, .ref bk_from, .ref bk_to, .ref bk_hinder, .ref bk_size, .ref bk_walk, .ref bk_draught, .ref bk_doorIn, .ref bk_fanIn, .ref bk_faceIn, .ref bk_by, .ref bk_one, .ref bk_two, .ref bk_push, .ref bk_fall, .ref bk_cost, .ref bk_gas, .ref bk_need])), (bk_doorIn, .inl (k_bk_doorIn, 14, .inl f_bk_doorIn)), (bk_hinder, .inl (k_bk_hinder, 14, .inl f_bk_hinder)), (bk_by, .inl (k_bk_by, 6, .inl f_bk_by)), (m0_isOpen, .inl (k_m0_isOpen, 6, .inl f_m0_isOpen))] sz)) 0 0 (va_A [(m0, .inr (14, fX14 (.int m0_thrown) (.ref m0_power) (.int m0_trouble) (.int m0_where) (.int m0_fault) (.ref bk) fv (.ref sp) (.ref m0_tape) (.int (nI tp)) (.int m0_size) (.int m0_at) (.int m0_sort) (.int m0_place) (.int m0_mark) (.int m0_number) (.long m0_word) (.ref m0_isOpen) (.ref m0_isFallen) (.ref m0_speed) (.ref m0_fire) (.int m0_most) (.int m0_hindered) (.int m0_hinderedBy) (.ref m0_air) (.ref m0_cameBy) (.ref m0_least) (.ref m0_before) (.ref m0_gas) (.ref m0_into) (.ref m0_rest) (.ref m0_isTold) (.ref m0_isPast) (.ref m0_kept) (.ref m0_smoke) (.ref m0_early) (.int (nI mn)) (.ref m0_manAt) (.int (nI nc)) (.ref m0_changeKind) (.ref m0_changeOf) (.ref m0_changeTo) (.ref m0_row) (.ref m0_openWas) (.ref m0_fallenWas) (.ref m0_speedWas) (.int (nI nr)) (.ref m0_readingOf) (.ref m0_low) (.ref m0_high) (.ref m0_back))), (bk, .inr (12, [.int (nI nw), .int (nI nk), .int (nI nd), .int (nI np), .int (nI nf), .int (nI ne), .int (nI nn), .ref bk_knot, .ref bk_name, .ref bk_kind, .ref bk_number, .ref bk_from, .ref bk_to, .ref bk_hinder, .ref bk_size, .ref bk_walk, .ref bk_draught, .ref bk_doorIn, .ref bk_fanIn, .ref bk_faceIn, .ref bk_by, .ref bk_one, .ref bk_two, .ref bk_push, .ref bk_fall, .ref bk_cost, .ref bk_gas, .ref bk_need])), (bk_doorIn, .inl (k_bk_doorIn, 14, .inl f_bk_doorIn)), (bk_hinder, .inl (k_bk_hinder, 14, .inl f_bk_hinder)), (bk_by, .inl (k_bk_by, 6, .inl f_bk_by)), (m0_isOpen, .inl (k_m0_isOpen, 6, .inl f_m0_isOpen))] sz) := by
  refine Met.ofW (cc := cX14_hindrance) (maxL := 3) (ret := (some .int)) (by decide) rfl ?_
  intro p e s m args below meth c s₁ B hml hv
  obtain ⟨rfl, hsz, hn0, hG, hP, hK, hD0⟩ := hv
  have hx := B.exec
  have hb := B.bytes
  have hr := B.returns
  have hts := atoms_spec (ws := wM yX14_hindrance cX14_hindrance 3 (some .int)) B.pre
  have hown : s.vm.findClass RX14 = some m.cls := findClass_of_methodNamed B.named
  have hlocks := B.notSynchronized
  subst hsz
  have hD := hD0.self (sz := s.heap.size)
  have hA0 := vA_n0 hD0 hn0
  generalize hAe : va_A [(m0, .inr (14, fX14 (.int m0_thrown) (.ref m0_power) (.int m0_trouble) (.int m0_where) (.int m0_fault) (.ref bk) fv (.ref sp) (.ref m0_tape) (.int (nI tp)) (.int m0_size) (.int m0_at) (.int m0_sort) (.int m0_place) (.int m0_mark) (.int m0_number) (.long m0_word) (.ref m0_isOpen) (.ref m0_isFallen) (.ref m0_speed) (.ref m0_fire) (.int m0_most) (.int m0_hindered) (.int m0_hinderedBy) (.ref m0_air) (.ref m0_cameBy) (.ref m0_least) (.ref m0_before) (.ref m0_gas) (.ref m0_into) (.ref m0_rest) (.ref m0_isTold) (.ref m0_isPast) (.ref m0_kept) (.ref m0_smoke) (.ref m0_early) (.int (nI mn)) (.ref m0_manAt) (.int (nI nc)) (.ref m0_changeKind) (.ref m0_changeOf) (.ref m0_changeTo) (.ref m0_row) (.ref m0_openWas) (.ref m0_fallenWas) (.ref m0_speedWas) (.int (nI nr)) (.ref m0_readingOf) (.ref m0_low) (.ref m0_high) (.ref m0_back))), (bk, .inr (12, [.int (nI nw), .int (nI nk), .int (nI nd), .int (nI np), .int (nI nf), .int (nI ne), .int (nI nn), .ref bk_knot, .ref bk_name, .ref bk_kind, .ref bk_number, .ref bk_from, .ref bk_to, .ref bk_hinder, .ref bk_size, .ref bk_walk, .ref bk_draught, .ref bk_doorIn, .ref bk_fanIn, .ref bk_faceIn, .ref bk_by, .ref bk_one, .ref bk_two, .ref bk_push, .ref bk_fall, .ref bk_cost, .ref bk_gas, .ref bk_need])), (bk_doorIn, .inl (k_bk_doorIn, 14, .inl f_bk_doorIn)), (bk_hinder, .inl (k_bk_hinder, 14, .inl f_bk_hinder)), (bk_by, .inl (k_bk_by, 6, .inl f_bk_by)), (m0_isOpen, .inl (k_m0_isOpen, 6, .inl f_m0_isOpen))] s.heap.size = A at hD hA0 ⊢
  have hA : ∀ q : Nat, s.heap.size ≤ q → A q := fun q h => by rw [← hAe]; exact Or.inr h
  have hS : va_S A s.heap s.heap [] := va_S.rf
  have hl := lv_entry ([.ref m0, .int w]) (n := 3) (Nat.le_of_ble_eq_true rfl)
  rw [lg_entry_eq]
  generalize (lg_sl ([.ref m0, .int w]) ++ List.replicate (3 - (lg_sl ([.ref m0, .int w])).length) Slot.unset).toArray = ls at hl ⊢
  have hl : lv_has ls 3 [(0, .ref m0), (1, .int w)] := hl
  refine lv_aload_n hx hb dX14_hindrance_0 rfl (lv_at hl 0 rfl) ?_
  refine va_get (D := (dC, dI)) (ci := 14) (v := .ref bk) (C := RX14) (T := TX14) (N := 51) hx hb hts (fun w h => wM_c (iX14 w h)) hown hK hP 0 rfl rfl 5 (by decide) (hts _ (wM_c wd_1458)) (fun _ h9 => h9) rfl dX14_hindrance_1 ?_
  refine va_getN (D := (dC, dI)) (ci := 12) (v := .ref bk_doorIn) (C := RX12) (T := TX12) (N := 28) hx hb hts (fun w h => wM_c (iX12 w h)) hown hK hP 1 rfl rfl 17 (by decide) (va_Nw.use rfl (hG.1 _ wd_1657)) (fun _ h9 => h9) rfl dX14_hindrance_4 ?_
  refine lv_iload_n hx hb dX14_hindrance_7 rfl (lv_at hl 1 rfl) ?_
  refine va_iald hx hb hK hP 2 0 rfl rfl (by first | with_reducible assumption | exact vp_in_iff.mpr (by omega)) dX14_hindrance_8 ?_
  refine lv_topi (fun v_1 ev_1 => ?_)
  have g_2 : (-2) ≤ v_1.toInt ∧ v_1.toInt < 6 := by rw [ev_1]; exact rg_inx r_doorIn (by first | with_reducible assumption | exact vp_in_iff.mpr (by omega))
  refine lv_istore_n (lv' := [(2, .int v_1), (0, .ref m0), (1, .int w)]) hx hb dX14_hindrance_9 rfl hl (by decide) rfl (fun ls hl => ?_)
  refine lv_aload_n hx hb dX14_hindrance_10 rfl (lv_at hl 1 rfl) ?_
  refine va_get (D := (dC, dI)) (ci := 14) (v := .ref bk) (C := RX14) (T := TX14) (N := 51) hx hb hts (fun w h => wM_c (iX14 w h)) hown hK hP 0 rfl rfl 5 (by decide) (hts _ (wM_c wd_1458)) (fun _ h9 => h9) rfl dX14_hindrance_11 ?_
  refine va_getN (D := (dC, dI)) (ci := 12) (v := .ref bk_hinder) (C := RX12) (T := TX12) (N := 28) hx hb hts (fun w h => wM_c (iX12 w h)) hown hK hP 1 rfl rfl 13 (by decide) (va_Nw.use rfl (hG.1 _ wd_1649)) (fun _ h9 => h9) rfl dX14_hindrance_14 ?_
  refine lv_iload_n hx hb dX14_hindrance_17 rfl (lv_at hl 2 rfl) ?_
  refine va_iald hx hb hK hP 3 1 rfl rfl (by first | with_reducible assumption | exact vp_in_iff.mpr (by omega)) dX14_hindrance_18 ?_
  refine lv_topi (fun v_3 ev_3 => ?_)
  refine lv_iload_n hx hb dX14_hindrance_19 rfl (lv_at hl 0 rfl) ?_
  refine lv_if_lt (tgt := 44) hx hb dX14_hindrance_20 (by decide) (fun c_4 => ?_) (fun c_4 => ?_)
  · skip
    have g_5 : v_1.toInt < (0 : Int) := i_lt c_4
    refine lv_iconst (v := 0) hx hb dX14_hindrance_44 (by decide) ?_
    refine lv_iadd hx hb dX14_hindrance_45 ?_
    refine lv_topi (fun v_6 ev_6 => ?_)
    refine lv_iload_n hx hb dX14_hindrance_46 rfl (lv_at hl 2 rfl) ?_
    refine lv_aload_n hx hb dX14_hindrance_47 rfl (lv_at hl 1 rfl) ?_
    refine va_get (D := (dC, dI)) (ci := 14) (v := .int m0_hindered) (C := RX14) (T := TX14) (N := 51) hx hb hts (fun w h => wM_c (iX14 w h)) hown hK hP 0 rfl rfl 22 (by decide) (hts _ (wM_c wd_1475)) (fun _ h9 => h9) rfl dX14_hindrance_48 ?_
    refine lv_icmp_ne (tgt := 61) hx hb dX14_hindrance_51 (by decide) (fun c_7 => ?_) (fun c_7 => ?_)
    · skip
      have g_8 : w.toInt ≠ m0_hindered.toInt := i_ne c_7
      refine lv_iconst (v := 0) hx hb dX14_hindrance_61 (by decide) ?_
      refine lv_iadd hx hb dX14_hindrance_62 ?_
      refine lv_topi (fun v_9 ev_9 => ?_)
      have hK9 := hK.sub (tys' := [(k_bk_doorIn, .int), (k_bk_hinder, .int), (k_bk_by, .int), (k_m0_isOpen, .boolean)]) [0, 1, 2, 3] rfl
      exact W.iret (v := v_9) hx hb hr (fun t ht hW => ⟨⟨v_9, (), rfl, (by subst ev_1 ev_3 ev_6 ev_9; unfold hinF; rw [if_pos c_4, if_neg c_7]), by rw [ht]; exact hP.sub [0, 1, 2, 3, 4, 5] rfl, va_K.moved hW.alike hK9, hD.sub [0, 1, 2, 3, 4, 5] (by decide) rfl⟩, hS.F ht⟩) hS.2.2 dX14_hindrance_63
    · skip
      have g_10 : w.toInt = m0_hindered.toInt := i_eq c_7
      refine lv_aload_n hx hb dX14_hindrance_54 rfl (lv_at hl 1 rfl) ?_
      refine va_get (D := (dC, dI)) (ci := 14) (v := .int m0_hinderedBy) (C := RX14) (T := TX14) (N := 51) hx hb hts (fun w h => wM_c (iX14 w h)) hown hK hP 0 rfl rfl 23 (by decide) (hts _ (wM_c wd_1476)) (fun _ h9 => h9) rfl dX14_hindrance_55 ?_
      refine lv_goto (tgt := 62) hx hb dX14_hindrance_58 (by decide) ?_
      refine lv_iadd hx hb dX14_hindrance_62 ?_
      refine lv_topi (fun v_11 ev_11 => ?_)
      have hK9 := hK.sub (tys' := [(k_bk_doorIn, .int), (k_bk_hinder, .int), (k_bk_by, .int), (k_m0_isOpen, .boolean)]) [0, 1, 2, 3] rfl
      exact W.iret (v := v_11) hx hb hr (fun t ht hW => ⟨⟨v_11, (), rfl, (by subst ev_1 ev_3 ev_6 ev_11; unfold hinF; rw [if_pos c_4, if_pos c_7]), by rw [ht]; exact hP.sub [0, 1, 2, 3, 4, 5] rfl, va_K.moved hW.alike hK9, hD.sub [0, 1, 2, 3, 4, 5] (by decide) rfl⟩, hS.F ht⟩) hS.2.2 dX14_hindrance_63
  · skip
    have g_12 : (0 : Int) ≤ v_1.toInt := i_nlt c_4
    refine lv_aload_n hx hb dX14_hindrance_23 rfl (lv_at hl 1 rfl) ?_
    refine va_get (D := (dC, dI)) (ci := 14) (v := .ref m0_isOpen) (C := RX14) (T := TX14) (N := 51) hx hb hts (fun w h => wM_c (iX14 w h)) hown hK hP 0 rfl rfl 17 (by decide) (hts _ (wM_c wd_1470)) (fun _ h9 => h9) rfl dX14_hindrance_24 ?_
    refine lv_iload_n hx hb dX14_hindrance_27 rfl (lv_at hl 0 rfl) ?_
    refine va_zald hx hb hK hP 5 3 rfl rfl (by first | with_reducible assumption | exact vp_in_iff.mpr (by omega)) dX14_hindrance_28 ?_
    refine lv_topi (fun v_13 ev_13 => ?_)
    refine lv_if_ne (tgt := 44) hx hb dX14_hindrance_29 (by decide) (fun c_14 => ?_) (fun c_14 => ?_)
    · skip
      have g_15 : v_13.toInt ≠ (0 : Int) := i_ne c_14
      refine lv_iconst (v := 0) hx hb dX14_hindrance_44 (by decide) ?_
      refine lv_iadd hx hb dX14_hindrance_45 ?_
      refine lv_topi (fun v_16 ev_16 => ?_)
      refine lv_iload_n hx hb dX14_hindrance_46 rfl (lv_at hl 2 rfl) ?_
      refine lv_aload_n hx hb dX14_hindrance_47 rfl (lv_at hl 1 rfl) ?_
      refine va_get (D := (dC, dI)) (ci := 14) (v := .int m0_hindered) (C := RX14) (T := TX14) (N := 51) hx hb hts (fun w h => wM_c (iX14 w h)) hown hK hP 0 rfl rfl 22 (by decide) (hts _ (wM_c wd_1475)) (fun _ h9 => h9) rfl dX14_hindrance_48 ?_
      refine lv_icmp_ne (tgt := 61) hx hb dX14_hindrance_51 (by decide) (fun c_17 => ?_) (fun c_17 => ?_)
      · skip
        have g_18 : w.toInt ≠ m0_hindered.toInt := i_ne c_17
        refine lv_iconst (v := 0) hx hb dX14_hindrance_61 (by decide) ?_
        refine lv_iadd hx hb dX14_hindrance_62 ?_
        refine lv_topi (fun v_19 ev_19 => ?_)
        have hK9 := hK.sub (tys' := [(k_bk_doorIn, .int), (k_bk_hinder, .int), (k_bk_by, .int), (k_m0_isOpen, .boolean)]) [0, 1, 2, 3] rfl
        exact W.iret (v := v_19) hx hb hr (fun t ht hW => ⟨⟨v_19, (), rfl, (by subst ev_1 ev_3 ev_13 ev_16 ev_19; unfold hinF; rw [if_neg c_4, if_neg c_14, if_neg c_17]), by rw [ht]; exact hP.sub [0, 1, 2, 3, 4, 5] rfl, va_K.moved hW.alike hK9, hD.sub [0, 1, 2, 3, 4, 5] (by decide) rfl⟩, hS.F ht⟩) hS.2.2 dX14_hindrance_63
      · skip
        have g_20 : w.toInt = m0_hindered.toInt := i_eq c_17
        refine lv_aload_n hx hb dX14_hindrance_54 rfl (lv_at hl 1 rfl) ?_
        refine va_get (D := (dC, dI)) (ci := 14) (v := .int m0_hinderedBy) (C := RX14) (T := TX14) (N := 51) hx hb hts (fun w h => wM_c (iX14 w h)) hown hK hP 0 rfl rfl 23 (by decide) (hts _ (wM_c wd_1476)) (fun _ h9 => h9) rfl dX14_hindrance_55 ?_
        refine lv_goto (tgt := 62) hx hb dX14_hindrance_58 (by decide) ?_
        refine lv_iadd hx hb dX14_hindrance_62 ?_
        refine lv_topi (fun v_21 ev_21 => ?_)
        have hK9 := hK.sub (tys' := [(k_bk_doorIn, .int), (k_bk_hinder, .int), (k_bk_by, .int), (k_m0_isOpen, .boolean)]) [0, 1, 2, 3] rfl
        exact W.iret (v := v_21) hx hb hr (fun t ht hW => ⟨⟨v_21, (), rfl, (by subst ev_1 ev_3 ev_13 ev_16 ev_21; unfold hinF; rw [if_neg c_4, if_neg c_14, if_pos c_17]), by rw [ht]; exact hP.sub [0, 1, 2, 3, 4, 5] rfl, va_K.moved hW.alike hK9, hD.sub [0, 1, 2, 3, 4, 5] (by decide) rfl⟩, hS.F ht⟩) hS.2.2 dX14_hindrance_63
    · skip
      have g_22 : v_13.toInt = (0 : Int) := i_eq c_14
      refine lv_aload_n hx hb dX14_hindrance_32 rfl (lv_at hl 1 rfl) ?_
      refine va_get (D := (dC, dI)) (ci := 14) (v := .ref bk) (C := RX14) (T := TX14) (N := 51) hx hb hts (fun w h => wM_c (iX14 w h)) hown hK hP 0 rfl rfl 5 (by decide) (hts _ (wM_c wd_1458)) (fun _ h9 => h9) rfl dX14_hindrance_33 ?_
      refine va_getN (D := (dC, dI)) (ci := 12) (v := .ref bk_by) (C := RX12) (T := TX12) (N := 28) hx hb hts (fun w h => wM_c (iX12 w h)) hown hK hP 1 rfl rfl 20 (by decide) (va_Nw.use rfl (hG.1 _ wd_1663)) (fun _ h9 => h9) rfl dX14_hindrance_36 ?_
      refine lv_iload_n hx hb dX14_hindrance_39 rfl (lv_at hl 0 rfl) ?_
      refine va_iald hx hb hK hP 4 2 rfl rfl (by first | with_reducible assumption | exact vp_in_iff.mpr (by omega)) dX14_hindrance_40 ?_
      refine lv_topi (fun v_23 ev_23 => ?_)
      refine lv_goto (tgt := 45) hx hb dX14_hindrance_41 (by decide) ?_
      refine lv_iadd hx hb dX14_hindrance_45 ?_
      refine lv_topi (fun v_24 ev_24 => ?_)
      refine lv_iload_n hx hb dX14_hindrance_46 rfl (lv_at hl 2 rfl) ?_
      refine lv_aload_n hx hb dX14_hindrance_47 rfl (lv_at hl 1 rfl) ?_
      refine va_get (D := (dC, dI)) (ci := 14) (v := .int m0_hindered) (C := RX14) (T := TX14) (N := 51) hx hb hts (fun w h => wM_c (iX14 w h)) hown hK hP 0 rfl rfl 22 (by decide) (hts _ (wM_c wd_1475)) (fun _ h9 => h9) rfl dX14_hindrance_48 ?_
      refine lv_icmp_ne (tgt := 61) hx hb dX14_hindrance_51 (by decide) (fun c_25 => ?_) (fun c_25 => ?_)
      · skip
        have g_26 : w.toInt ≠ m0_hindered.toInt := i_ne c_25
        refine lv_iconst (v := 0) hx hb dX14_hindrance_61 (by decide) ?_
        refine lv_iadd hx hb dX14_hindrance_62 ?_
        refine lv_topi (fun v_27 ev_27 => ?_)
        have hK9 := hK.sub (tys' := [(k_bk_doorIn, .int), (k_bk_hinder, .int), (k_bk_by, .int), (k_m0_isOpen, .boolean)]) [0, 1, 2, 3] rfl
        exact W.iret (v := v_27) hx hb hr (fun t ht hW => ⟨⟨v_27, (), rfl, (by subst ev_1 ev_3 ev_13 ev_23 ev_24 ev_27; unfold hinF; rw [if_neg c_4, if_pos c_14, if_neg c_25]), by rw [ht]; exact hP.sub [0, 1, 2, 3, 4, 5] rfl, va_K.moved hW.alike hK9, hD.sub [0, 1, 2, 3, 4, 5] (by decide) rfl⟩, hS.F ht⟩) hS.2.2 dX14_hindrance_63
      · skip
        have g_28 : w.toInt = m0_hindered.toInt := i_eq c_25
        refine lv_aload_n hx hb dX14_hindrance_54 rfl (lv_at hl 1 rfl) ?_
        refine va_get (D := (dC, dI)) (ci := 14) (v := .int m0_hinderedBy) (C := RX14) (T := TX14) (N := 51) hx hb hts (fun w h => wM_c (iX14 w h)) hown hK hP 0 rfl rfl 23 (by decide) (hts _ (wM_c wd_1476)) (fun _ h9 => h9) rfl dX14_hindrance_55 ?_
        refine lv_goto (tgt := 62) hx hb dX14_hindrance_58 (by decide) ?_
        refine lv_iadd hx hb dX14_hindrance_62 ?_
        refine lv_topi (fun v_29 ev_29 => ?_)
        have hK9 := hK.sub (tys' := [(k_bk_doorIn, .int), (k_bk_hinder, .int), (k_bk_by, .int), (k_m0_isOpen, .boolean)]) [0, 1, 2, 3] rfl
        exact W.iret (v := v_29) hx hb hr (fun t ht hW => ⟨⟨v_29, (), rfl, (by subst ev_1 ev_3 ev_13 ev_23 ev_24 ev_29; unfold hinF; rw [if_neg c_4, if_pos c_14, if_pos c_25]), by rw [ht]; exact hP.sub [0, 1, 2, 3, 4, 5] rfl, va_K.moved hW.alike hK9, hD.sub [0, 1, 2, 3, 4, 5] (by decide) rfl⟩, hS.F ht⟩) hS.2.2 dX14_hindrance_63
def stepA (fd ff : Nat → Int32) (h w q : Int32) : Int64 := (if q ≤ 0 then -h.toInt64 * (1 - q).toInt64 * (1 - q).toInt64 else h.toInt64 * q.toInt64 * q.toInt64) - (fd w.toNatClampNeg + ff w.toNatClampNeg).toInt64
def stepF (fd ff fi fp fs fl : Nat → Int32) (h w q : Int32) : Int64 := if 0 ≤ fi w.toNatClampNeg then stepA fd ff h w q - (fp (fi w.toNatClampNeg).toNatClampNeg * fs (fi w.toNatClampNeg).toNatClampNeg).toInt64 + (fl (fi w.toNatClampNeg).toNatClampNeg * q).toInt64 else stepA fd ff h w q
set_option maxHeartbeats 4000000 in
set_option maxRecDepth 100000 in
theorem m_step (l : Launch) (dC : Nat → ClassId) (dI : Nat → Nat → Nat) (n0 : Nat) (atx : Nat → Nat × Nat) (sz : Nat) (m0 : Nat) (m0_thrown : Int32) (m0_power : Nat) (m0_trouble : Int32) (m0_where : Int32) (m0_fault : Int32) (bk : Nat) (fv : Value) (sp : Nat) (m0_tape : Nat) (tp : Nat) (m0_size : Int32) (m0_at : Int32) (m0_sort : Int32) (m0_place : Int32) (m0_mark : Int32) (m0_number : Int32) (m0_word : Int64) (m0_isOpen : Nat) (m0_isFallen : Nat) (m0_speed : Nat) (m0_fire : Nat) (m0_most : Int32) (m0_hindered : Int32) (m0_hinderedBy : Int32) (m0_air : Nat) (m0_cameBy : Nat) (m0_least : Nat) (m0_before : Nat) (m0_gas : Nat) (m0_into : Nat) (m0_rest : Nat) (m0_isTold : Nat) (m0_isPast : Nat) (m0_kept : Nat) (m0_smoke : Nat) (m0_early : Nat) (mn : Nat) (m0_manAt : Nat) (nc : Nat) (m0_changeKind : Nat) (m0_changeOf : Nat) (m0_changeTo : Nat) (m0_row : Nat) (m0_openWas : Nat) (m0_fallenWas : Nat) (m0_speedWas : Nat) (nr : Nat) (m0_readingOf : Nat) (m0_low : Nat) (m0_high : Nat) (m0_back : Nat) (nw : Nat) (nk : Nat) (nd : Nat) (np : Nat) (nf : Nat) (ne : Nat) (nn : Nat) (bk_knot : Nat) (bk_name : Nat) (bk_kind : Nat) (bk_number : Nat) (bk_from : Nat) (bk_to : Nat) (bk_hinder : Nat) (bk_size : Nat) (bk_walk : Nat) (bk_draught : Nat) (bk_doorIn : Nat) (bk_fanIn : Nat) (bk_faceIn : Nat) (bk_by : Nat) (bk_one : Nat) (bk_two : Nat) (bk_push : Nat) (bk_fall : Nat) (bk_cost : Nat) (bk_gas : Nat) (bk_need : Nat) (k_bk_doorIn : ClassId) (f_bk_doorIn : Nat → Int32) (k_bk_hinder : ClassId) (f_bk_hinder : Nat → Int32) (k_bk_by : ClassId) (f_bk_by : Nat → Int32) (k_m0_isOpen : ClassId) (f_m0_isOpen : Nat → Int32) (k_bk_draught : ClassId) (f_bk_draught : Nat → Int32) (k_m0_fire : ClassId) (f_m0_fire : Nat → Int32) (k_bk_fanIn : ClassId) (f_bk_fanIn : Nat → Int32) (k_bk_push : ClassId) (f_bk_push : Nat → Int32) (k_m0_speed : ClassId) (f_m0_speed : Nat → Int32) (k_bk_fall : ClassId) (f_bk_fall : Nat → Int32) (w : Int32) (q : Int32) (r_doorIn : rg f_bk_doorIn 14 (-2) 6) (r_fanIn : rg f_bk_fanIn 14 (-2) 4) (hw : vp_in w 14) : Met l yX14_step (wM yX14_step cX14_step 8 (some .long)) ({ frames := 1, cells := 0, slots := 0, locals := 22 }) (va_Pc [.ref m0, .int w, .int q] (fun U => U.heap.size = sz ∧ n0 ≤ sz ∧ GW n0 atx U ∧ va_P (dC, dI) classes [(m0, .inr (14, fX14 (.int m0_thrown) (.ref m0_power) (.int m0_trouble) (.int m0_where) (.int m0_fault) (.ref bk) fv (.ref sp) (.ref m0_tape) (.int (nI tp)) (.int m0_size) (.int m0_at) (.int m0_sort) (.int m0_place) (.int m0_mark) (.int m0_number) (.long m0_word) (.ref m0_isOpen) (.ref m0_isFallen) (.ref m0_speed) (.ref m0_fire) (.int m0_most) (.int m0_hindered) (.int m0_hinderedBy) (.ref m0_air) (.ref m0_cameBy) (.ref m0_least) (.ref m0_before) (.ref m0_gas) (.ref m0_into) (.ref m0_rest) (.ref m0_isTold) (.ref m0_isPast) (.ref m0_kept) (.ref m0_smoke) (.ref m0_early) (.int (nI mn)) (.ref m0_manAt) (.int (nI nc)) (.ref m0_changeKind) (.ref m0_changeOf) (.ref m0_changeTo) (.ref m0_row) (.ref m0_openWas) (.ref m0_fallenWas) (.ref m0_speedWas) (.int (nI nr)) (.ref m0_readingOf) (.ref m0_low) (.ref m0_high) (.ref m0_back))), (bk, .inr (12, [.int (nI nw), .int (nI nk), .int (nI nd), .int (nI np), .int (nI nf), .int (nI ne), .int (nI nn), .ref bk_knot, .ref bk_name, .ref bk_kind, .ref bk_number, .ref bk_from, .ref bk_to, .ref bk_hinder, .ref bk_size, .ref bk_walk, .ref bk_draught, .ref bk_doorIn, .ref bk_fanIn, .ref bk_faceIn, .ref bk_by, .ref bk_one, .ref bk_two, .ref bk_push, .ref bk_fall, .ref bk_cost, .ref bk_gas, .ref bk_need])), (bk_doorIn, .inl (k_bk_doorIn, 14, .inl f_bk_doorIn)), (bk_hinder, .inl (k_bk_hinder, 14, .inl f_bk_hinder)), (bk_by, .inl (k_bk_by, 6, .inl f_bk_by)), (m0_isOpen, .inl (k_m0_isOpen, 6, .inl f_m0_isOpen)), (bk_draught, .inl (k_bk_draught, 14, .inl f_bk_draught)), (m0_fire, .inl (k_m0_fire, 14, .inl f_m0_fire)), (bk_fanIn, .inl (k_bk_fanIn, 14, .inl f_bk_fanIn)), (bk_push, .inl (k_bk_push, 4, .inl f_bk_push)), (m0_speed, .inl (k_m0_speed, 4, .inl f_m0_speed)), (bk_fall, .inl (k_bk_fall, 4, .inl f_bk_fall))] U.heap ∧ va_K (dC, dI) classes [(k_bk_doorIn, .int), (k_bk_hinder, .int), (k_bk_by, .int), (k_m0_isOpen, .boolean), (k_bk_draught, .int), (k_m0_fire, .int), (k_bk_fanIn, .int), (k_bk_push, .int), (k_m0_speed, .int), (k_bk_fall, .int)] U ∧ va_D (fun q => n0 ≤ q) [(m0, .inr (14, fX14 (.int m0_thrown) (.ref m0_power) (.int m0_trouble) (.int m0_where) (.int m0_fault) (.ref bk) fv (.ref sp) (.ref m0_tape) (.int (nI tp)) (.int m0_size) (.int m0_at) (.int m0_sort) (.int m0_place) (.int m0_mark) (.int m0_number) (.long m0_word) (.ref m0_isOpen) (.ref m0_isFallen) (.ref m0_speed) (.ref m0_fire) (.int m0_most) (.int m0_hindered) (.int m0_hinderedBy) (.ref m0_air) (.ref m0_cameBy) (.ref m0_least) (.ref m0_before) (.ref m0_gas) (.ref m0_into) (.ref m0_rest) (.ref m0_isTold) (.ref m0_isPast) (.ref m0_kept) (.ref m0_smoke) (.ref m0_early) (.int (nI mn)) (.ref m0_manAt) (.int (nI nc)) (.ref m0_changeKind) (.ref m0_changeOf) (.ref m0_changeTo) (.ref m0_row) (.ref m0_openWas) (.ref m0_fallenWas) (.ref m0_speedWas) (.int (nI nr)) (.ref m0_readingOf) (.ref m0_low) (.ref m0_high) (.ref m0_back))), (bk, .inr (12, [.int (nI nw), .int (nI nk), .int (nI nd), .int (nI np), .int (nI nf), .int (nI ne), .int (nI nn), .ref bk_knot, .ref bk_name, .ref bk_kind, .ref bk_number, .ref bk_from, .ref bk_to, .ref bk_hinder, .ref bk_size, .ref bk_walk, .ref bk_draught, .ref bk_doorIn, .ref bk_fanIn, .ref bk_faceIn, .ref bk_by, .ref bk_one, .ref bk_two, .ref bk_push, .ref bk_fall, .ref bk_cost, .ref bk_gas, .ref bk_need])), (bk_doorIn, .inl (k_bk_doorIn, 14, .inl f_bk_doorIn)), (bk_hinder, .inl (k_bk_hinder, 14, .inl f_bk_hinder)), (bk_by, .inl (k_bk_by, 6, .inl f_bk_by)), (m0_isOpen, .inl (k_m0_isOpen, 6, .inl f_m0_isOpen)), (bk_draught, .inl (k_bk_draught, 14, .inl f_bk_draught)), (m0_fire, .inl (k_m0_fire, 14, .inl f_m0_fire)), (bk_fanIn, .inl (k_bk_fanIn, 14, .inl f_bk_fanIn)), (bk_push, .inl (k_bk_push, 4, .inl f_bk_push)), (m0_speed, .inl (k_m0_speed, 4, .inl f_m0_speed)), (bk_fall, .inl (k_bk_fall, 4, .inl f_bk_fall))])) (va_Ql (fun (r : Int64) (_ : Unit) => r = stepF f_bk_draught f_m0_fire f_bk_fanIn f_bk_push f_m0_speed f_bk_fall (hinF f_bk_doorIn f_bk_hinder f_bk_by f_m0_isOpen m0_hindered m0_hinderedBy w) w q) (fun (_ : Unit) (t : State) => va_P (dC, dI) classes [(m0, .inr (14, fX14 (.int m0_thrown) (.ref m0_power) (.int m0_trouble) (.int m0_where) (.int m0_fault) (.ref bk) fv (.ref sp) (.ref m0_tape) (.int (nI tp)) (.int m0_size) (.int m0_at) (.int m0_sort) (.int m0_place) (.int m0_mark) (.int m0_number) (.long m0_word) (.ref m0_isOpen) (.ref m0_isFallen) (.ref m0_speed) (.ref m0_fire) (.int m0_most) (.int m0_hindered) (.int m0_hinderedBy) (.ref m0_air) (.ref m0_cameBy) (.ref m0_least) (.ref m0_before) (.ref m0_gas) (.ref m0_into) (.ref m0_rest) (.ref m0_isTold) (.ref m0_isPast) (.ref m0_kept) (.ref m0_smoke) (.ref m0_early) (.int (nI mn)) (.ref m0_manAt) (.int (nI nc)) (.ref m0_changeKind) (.ref m0_changeOf) (.ref m0_changeTo) (.ref m0_row) (.ref m0_openWas) (.ref m0_fallenWas) (.ref m0_speedWas) (.int (nI nr)) (.ref m0_readingOf) (.ref m0_low) (.ref m0_high) (.ref m0_back))), (bk, .inr (12, [.int (nI nw), .int (nI nk), .int (nI nd), .int (nI np), .int (nI nf), .int (nI ne), .int (nI nn), .ref bk_knot, .ref bk_name, .ref bk_kind, .ref bk_number, .ref bk_from, .ref bk_to, .ref bk_hinder, .ref bk_size, .ref bk_walk, .ref bk_draught, .ref bk_doorIn, .ref bk_fanIn, .ref bk_faceIn, .ref bk_by, .ref bk_one, .ref bk_two, .ref bk_push, .ref bk_fall, .ref bk_cost, .ref bk_gas, .ref bk_need])), (bk_doorIn, .inl (k_bk_doorIn, 14, .inl f_bk_doorIn)), (bk_hinder, .inl (k_bk_hinder, 14, .inl f_bk_hinder)), (bk_by, .inl (k_bk_by, 6, .inl f_bk_by)), (m0_isOpen, .inl (k_m0_isOpen, 6, .inl f_m0_isOpen)), (bk_draught, .inl (k_bk_draught, 14, .inl f_bk_draught)), (m0_fire, .inl (k_m0_fire, 14, .inl f_m0_fire)), (bk_fanIn, .inl (k_bk_fanIn, 14, .inl f_bk_fanIn)), (bk_push, .inl (k_bk_push, 4, .inl f_bk_push)), (m0_speed, .inl (k_m0_speed, 4, .inl f_m0_speed)), (bk_fall, .inl (k_bk_fall, 4, .inl f_bk_fall))] t.heap ∧ va_K (dC, dI) classes [(k_bk_doorIn, .int), (k_bk_hinder, .int), (k_bk_by, .int), (k_m0_isOpen, .boolean), (k_bk_draught, .int), (k_m0_fire, .int), (k_bk_fanIn, .int), (k_bk_push, .int), (k_m0_speed, .int), (k_bk_fall, .int)] t ∧ va_D (va_A [(m0, .inr (14, fX14 (.int m0_thrown) (.ref m0_power) (.int m0_trouble) (.int m0_where) (.int m0_fault) (.ref bk) fv (.ref sp) (.ref m0_tape) (.int (nI tp)) (.int m0_size) (.int m0_at) (.int m0_sort) (.int m0_place) (.int m0_mark) (.int m0_number) (.long m0_word) (.ref m0_isOpen) (.ref m0_isFallen) (.ref m0_speed) (.ref m0_fire) (.int m0_most) (.int m0_hindered) (.int m0_hinderedBy) (.ref m0_air) (.ref m0_cameBy) (.ref m0_least) (.ref m0_before) (.ref m0_gas) (.ref m0_into) (.ref m0_rest) (.ref m0_isTold) (.ref m0_isPast) (.ref m0_kept) (.ref m0_smoke) (.ref m0_early) (.int (nI mn)) (.ref m0_manAt) (.int (nI nc)) (.ref m0_changeKind) (.ref m0_changeOf) (.ref m0_changeTo) (.ref m0_row) (.ref m0_openWas) (.ref m0_fallenWas) (.ref m0_speedWas) (.int (nI nr)) (.ref m0_readingOf) (.ref m0_low) (.ref m0_high) (.ref m0_back))), (bk, .inr (12, [.int (nI nw), .int (nI nk), .int (nI nd), .int (nI np), .int (nI nf), .int (nI ne), .int (nI nn), .ref bk_knot, .ref bk_name, .ref bk_kind, .ref bk_number, .ref bk_from, .ref bk_to, .ref bk_hinder, .ref bk_size, .ref bk_walk, .ref bk_draught, .ref bk_doorIn, .ref bk_fanIn, .ref bk_faceIn, .ref bk_by, .ref bk_one, .ref bk_two, .ref bk_push, .ref bk_fall, .ref bk_cost, .ref bk_gas, .ref bk_need])), (bk_doorIn, .inl (k_bk_doorIn, 14, .inl f_bk_doorIn)), (bk_hinder, .inl (k_bk_hinder, 14, .inl f_bk_hinder)), (bk_by, .inl (k_bk_by, 6, .inl f_bk_by)), (m0_isOpen, .inl (k_m0_isOpen, 6, .inl f_m0_isOpen)), (bk_draught, .inl (k_bk_draught, 14, .inl f_bk_draught)), (m0_fire, .inl (k_m0_fire, 14, .inl f_m0_fire)), (bk_fanIn, .inl (k_bk_fanIn, 14, .inl f_bk_fanIn)), (bk_push, .inl (k_bk_push, 4, .inl f_bk_push)), (m0_speed, .inl (k_m0_speed, 4, .inl f_m0_speed)), (bk_fall, .inl (k_bk_fall, 4, .inl f_bk_fall))] sz) [(m0, .inr (14, fX14 (.int m0_thrown) (.ref m0_power) (.int m0_trouble) (.int m0_where) (.int m0_fault) (.ref bk) fv (.ref sp) (.ref m0_tape) (.int (nI tp)) (.int m0_size) (.int m0_at) (.int m0_sort) (.int m0_place) (.int m0_mark) (.int m0_number) (.long m0_word) (.ref m0_isOpen) (.ref m0_isFallen) (.ref m0_speed) (.ref m0_fire) (.int m0_most) (.int m0_hindered) (.int m0_hinderedBy) (.ref m0_air) (.ref m0_cameBy) (.ref m0_least) (.ref m0_before) (.ref m0_gas) (.ref m0_into) (.ref m0_rest) (.ref m0_isTold) (.ref m0_isPast) (.ref m0_kept) (.ref m0_smoke) (.ref m0_early) (.int (nI mn)) (.ref m0_manAt) (.int (nI nc)) (.ref m0_changeKind) (.ref m0_changeOf) (.ref m0_changeTo) (.ref m0_row) (.ref m0_openWas) (.ref m0_fallenWas) (.ref m0_speedWas) (.int (nI nr)) (.ref m0_readingOf) (.ref m0_low) (.ref m0_high) (.ref m0_back))), (bk, .inr (12, [.int (nI nw), .int (nI nk), .int (nI nd), .int (nI np), .int (nI nf), .int (nI ne), .int (nI nn), .ref bk_knot, .ref bk_name, .ref bk_kind, .ref bk_number, .ref bk_from, .ref bk_to, .ref bk_hinder, .ref bk_size, .ref bk_walk, .ref bk_draught, .ref bk_doorIn, .ref bk_fanIn, .ref bk_faceIn, .ref bk_by, .ref bk_one, .ref bk_two, .ref bk_push, .ref bk_fall, .ref bk_cost, .ref bk_gas, .ref bk_need])), (bk_doorIn, .inl (k_bk_doorIn, 14, .inl f_bk_doorIn)), (bk_hinder, .inl (k_bk_hinder, 14, .inl f_bk_hinder)), (bk_by, .inl (k_bk_by, 6, .inl f_bk_by)), (m0_isOpen, .inl (k_m0_isOpen, 6, .inl f_m0_isOpen)), (bk_draught, .inl (k_bk_draught, 14, .inl f_bk_draught)), (m0_fire, .inl (k_m0_fire, 14, .inl f_m0_fire)), (bk_fanIn, .inl (k_bk_fanIn, 14, .inl f_bk_fanIn)), (bk_push, .inl (k_bk_push, 4, .inl f_bk_push)), (m0_speed, .inl (k_m0_speed, 4, .inl f_m0_speed)), (bk_fall, .inl (k_bk_fall, 4, .inl f_bk_fall))]) (va_A [(m0, .inr (14, fX14 (.int m0_thrown) (.ref m0_power) (.int m0_trouble) (.int m0_where) (.int m0_fault) (.ref bk) fv (.ref sp) (.ref m0_tape) (.int (nI tp)) (.int m0_size) (.int m0_at) (.int m0_sort) (.int m0_place) (.int m0_mark) (.int m0_number) (.long m0_word) (.ref m0_isOpen) (.ref m0_isFallen) (.ref m0_speed) (.ref m0_fire) (.int m0_most) (.int m0_hindered) (.int m0_hinderedBy) (.ref m0_air) (.ref m0_cameBy) (.ref m0_least) (.ref m0_before) (.ref m0_gas) (.ref m0_into) (.ref m0_rest) (.ref m0_isTold) (.ref m0_isPast) (.ref m0_kept) (.ref m0_smoke) (.ref m0_early) (.int (nI mn)) (.ref m0_manAt) (.int (nI nc)) (.ref m0_changeKind) (.ref m0_changeOf) (.ref m0_changeTo) (.ref m0_row) (.ref m0_openWas) (.ref m0_fallenWas) (.ref m0_speedWas) (.int (nI nr)) (.ref m0_readingOf) (.ref m0_low) (.ref m0_high) (.ref m0_back))), (bk, .inr (12, [.int (nI nw), .int (nI nk), .int (nI nd), .int (nI np), .int (nI nf), .int (nI ne), .int (nI nn), .ref bk_knot, .ref bk_name, .ref bk_kind, .ref bk_number, .ref bk_from, .ref bk_to, .ref bk_hinder, .ref bk_size, .ref bk_walk, .ref bk_draught, .ref bk_doorIn, .ref bk_fanIn, .ref bk_faceIn, .ref bk_by, .ref bk_one, .ref bk_two, .ref bk_push, .ref bk_fall, .ref bk_cost, .ref bk_gas, .ref bk_need])), (bk_doorIn, .inl (k_bk_doorIn, 14, .inl f_bk_doorIn)), (bk_hinder, .inl (k_bk_hinder, 14, .inl f_bk_hinder)), (bk_by, .inl (k_bk_by, 6, .inl f_bk_by)), (m0_isOpen, .inl (k_m0_isOpen, 6, .inl f_m0_isOpen)), (bk_draught, .inl (k_bk_draught, 14, .inl f_bk_draught)), (m0_fire, .inl (k_m0_fire, 14, .inl f_m0_fire)), (bk_fanIn, .inl (k_bk_fanIn, 14, .inl f_bk_fanIn)), (bk_push, .inl (k_bk_push, 4, .inl f_bk_push)), (m0_speed, .inl (k_m0_speed, 4, .inl f_m0_speed)), (bk_fall, .inl (k_bk_fall, 4, .inl f_bk_fall))] sz)) 0 0 (va_A [(m0, .inr (14, fX14 (.int m0_thrown) (.ref m0_power) (.int m0_trouble) (.int m0_where) (.int m0_fault) (.ref bk) fv (.ref sp) (.ref m0_tape) (.int (nI tp)) (.int m0_size) (.int m0_at) (.int m0_sort) (.int m0_place) (.int m0_mark) (.int m0_number) (.long m0_word) (.ref m0_isOpen) (.ref m0_isFallen) (.ref m0_speed) (.ref m0_fire) (.int m0_most) (.int m0_hindered) (.int m0_hinderedBy) (.ref m0_air) (.ref m0_cameBy) (.ref m0_least) (.ref m0_before) (.ref m0_gas) (.ref m0_into) (.ref m0_rest) (.ref m0_isTold) (.ref m0_isPast) (.ref m0_kept) (.ref m0_smoke) (.ref m0_early) (.int (nI mn)) (.ref m0_manAt) (.int (nI nc)) (.ref m0_changeKind) (.ref m0_changeOf) (.ref m0_changeTo) (.ref m0_row) (.ref m0_openWas) (.ref m0_fallenWas) (.ref m0_speedWas) (.int (nI nr)) (.ref m0_readingOf) (.ref m0_low) (.ref m0_high) (.ref m0_back))), (bk, .inr (12, [.int (nI nw), .int (nI nk), .int (nI nd), .int (nI np), .int (nI nf), .int (nI ne), .int (nI nn), .ref bk_knot, .ref bk_name, .ref bk_kind, .ref bk_number, .ref bk_from, .ref bk_to, .ref bk_hinder, .ref bk_size, .ref bk_walk, .ref bk_draught, .ref bk_doorIn, .ref bk_fanIn, .ref bk_faceIn, .ref bk_by, .ref bk_one, .ref bk_two, .ref bk_push, .ref bk_fall, .ref bk_cost, .ref bk_gas, .ref bk_need])), (bk_doorIn, .inl (k_bk_doorIn, 14, .inl f_bk_doorIn)), (bk_hinder, .inl (k_bk_hinder, 14, .inl f_bk_hinder)), (bk_by, .inl (k_bk_by, 6, .inl f_bk_by)), (m0_isOpen, .inl (k_m0_isOpen, 6, .inl f_m0_isOpen)), (bk_draught, .inl (k_bk_draught, 14, .inl f_bk_draught)), (m0_fire, .inl (k_m0_fire, 14, .inl f_m0_fire)), (bk_fanIn, .inl (k_bk_fanIn, 14, .inl f_bk_fanIn)), (bk_push, .inl (k_bk_push, 4, .inl f_bk_push)), (m0_speed, .inl (k_m0_speed, 4, .inl f_m0_speed)), (bk_fall, .inl (k_bk_fall, 4, .inl f_bk_fall))] sz) := by
  refine Met.ofW (cc := cX14_step) (maxL := 8) (ret := (some .long)) (by decide) rfl ?_
  intro p e s m args below meth c s₁ B hml hv
  obtain ⟨rfl, hsz, hn0, hG, hP, hK, hD0⟩ := hv
  have hx := B.exec
  have hb := B.bytes
  have hr := B.returns
  have hts := atoms_spec (ws := wM yX14_step cX14_step 8 (some .long)) B.pre
  have hown : s.vm.findClass RX14 = some m.cls := findClass_of_methodNamed B.named
  have hlocks := B.notSynchronized
  subst hsz
  have hD := hD0.self (sz := s.heap.size)
  have hA0 := vA_n0 hD0 hn0
  generalize hAe : va_A [(m0, .inr (14, fX14 (.int m0_thrown) (.ref m0_power) (.int m0_trouble) (.int m0_where) (.int m0_fault) (.ref bk) fv (.ref sp) (.ref m0_tape) (.int (nI tp)) (.int m0_size) (.int m0_at) (.int m0_sort) (.int m0_place) (.int m0_mark) (.int m0_number) (.long m0_word) (.ref m0_isOpen) (.ref m0_isFallen) (.ref m0_speed) (.ref m0_fire) (.int m0_most) (.int m0_hindered) (.int m0_hinderedBy) (.ref m0_air) (.ref m0_cameBy) (.ref m0_least) (.ref m0_before) (.ref m0_gas) (.ref m0_into) (.ref m0_rest) (.ref m0_isTold) (.ref m0_isPast) (.ref m0_kept) (.ref m0_smoke) (.ref m0_early) (.int (nI mn)) (.ref m0_manAt) (.int (nI nc)) (.ref m0_changeKind) (.ref m0_changeOf) (.ref m0_changeTo) (.ref m0_row) (.ref m0_openWas) (.ref m0_fallenWas) (.ref m0_speedWas) (.int (nI nr)) (.ref m0_readingOf) (.ref m0_low) (.ref m0_high) (.ref m0_back))), (bk, .inr (12, [.int (nI nw), .int (nI nk), .int (nI nd), .int (nI np), .int (nI nf), .int (nI ne), .int (nI nn), .ref bk_knot, .ref bk_name, .ref bk_kind, .ref bk_number, .ref bk_from, .ref bk_to, .ref bk_hinder, .ref bk_size, .ref bk_walk, .ref bk_draught, .ref bk_doorIn, .ref bk_fanIn, .ref bk_faceIn, .ref bk_by, .ref bk_one, .ref bk_two, .ref bk_push, .ref bk_fall, .ref bk_cost, .ref bk_gas, .ref bk_need])), (bk_doorIn, .inl (k_bk_doorIn, 14, .inl f_bk_doorIn)), (bk_hinder, .inl (k_bk_hinder, 14, .inl f_bk_hinder)), (bk_by, .inl (k_bk_by, 6, .inl f_bk_by)), (m0_isOpen, .inl (k_m0_isOpen, 6, .inl f_m0_isOpen)), (bk_draught, .inl (k_bk_draught, 14, .inl f_bk_draught)), (m0_fire, .inl (k_m0_fire, 14, .inl f_m0_fire)), (bk_fanIn, .inl (k_bk_fanIn, 14, .inl f_bk_fanIn)), (bk_push, .inl (k_bk_push, 4, .inl f_bk_push)), (m0_speed, .inl (k_m0_speed, 4, .inl f_m0_speed)), (bk_fall, .inl (k_bk_fall, 4, .inl f_bk_fall))] s.heap.size = A at hD hA0 ⊢
  have hA : ∀ q : Nat, s.heap.size ≤ q → A q := fun q h => by rw [← hAe]; exact Or.inr h
  have hS : va_S A s.heap s.heap [] := va_S.rf
  have hl := lv_entry ([.ref m0, .int w, .int q]) (n := 8) (Nat.le_of_ble_eq_true rfl)
  rw [lg_entry_eq]
  generalize (lg_sl ([.ref m0, .int w, .int q]) ++ List.replicate (8 - (lg_sl ([.ref m0, .int w, .int q])).length) Slot.unset).toArray = ls at hl ⊢
  have hl : lv_has ls 8 [(0, .ref m0), (1, .int w), (2, .int q)] := hl
  refine lv_aload_n hx hb dX14_step_0 rfl (lv_at hl 0 rfl) ?_
  refine lv_iload_n hx hb dX14_step_1 rfl (lv_at hl 1 rfl) ?_
  obtain ⟨hPc, hDc, hFc⟩ := s3_c (ws' := [(m0, .inr (14, fX14 (.int m0_thrown) (.ref m0_power) (.int m0_trouble) (.int m0_where) (.int m0_fault) (.ref bk) fv (.ref sp) (.ref m0_tape) (.int (nI tp)) (.int m0_size) (.int m0_at) (.int m0_sort) (.int m0_place) (.int m0_mark) (.int m0_number) (.long m0_word) (.ref m0_isOpen) (.ref m0_isFallen) (.ref m0_speed) (.ref m0_fire) (.int m0_most) (.int m0_hindered) (.int m0_hinderedBy) (.ref m0_air) (.ref m0_cameBy) (.ref m0_least) (.ref m0_before) (.ref m0_gas) (.ref m0_into) (.ref m0_rest) (.ref m0_isTold) (.ref m0_isPast) (.ref m0_kept) (.ref m0_smoke) (.ref m0_early) (.int (nI mn)) (.ref m0_manAt) (.int (nI nc)) (.ref m0_changeKind) (.ref m0_changeOf) (.ref m0_changeTo) (.ref m0_row) (.ref m0_openWas) (.ref m0_fallenWas) (.ref m0_speedWas) (.int (nI nr)) (.ref m0_readingOf) (.ref m0_low) (.ref m0_high) (.ref m0_back))), (bk, .inr (12, [.int (nI nw), .int (nI nk), .int (nI nd), .int (nI np), .int (nI nf), .int (nI ne), .int (nI nn), .ref bk_knot, .ref bk_name, .ref bk_kind, .ref bk_number, .ref bk_from, .ref bk_to, .ref bk_hinder, .ref bk_size, .ref bk_walk, .ref bk_draught, .ref bk_doorIn, .ref bk_fanIn, .ref bk_faceIn, .ref bk_by, .ref bk_one, .ref bk_two, .ref bk_push, .ref bk_fall, .ref bk_cost, .ref bk_gas, .ref bk_need])), (bk_doorIn, .inl (k_bk_doorIn, 14, .inl f_bk_doorIn)), (bk_hinder, .inl (k_bk_hinder, 14, .inl f_bk_hinder)), (bk_by, .inl (k_bk_by, 6, .inl f_bk_by)), (m0_isOpen, .inl (k_m0_isOpen, 6, .inl f_m0_isOpen))]) [0, 1, 2, 3, 4, 5] hP hD hS hA rfl (by decide)
  have hKc := hK.sub (tys' := [(k_bk_doorIn, .int), (k_bk_hinder, .int), (k_bk_by, .int), (k_m0_isOpen, .boolean)]) [0, 1, 2, 3] rfl
  refine va_calli (va_runV (As := [.int w]) (rest := []) ⟨hx, hb, hml, hown, hts⟩ (m_hindrance l dC dI n0 atx s.heap.size m0 m0_thrown m0_power m0_trouble m0_where m0_fault bk fv sp m0_tape tp m0_size m0_at m0_sort m0_place m0_mark m0_number m0_word m0_isOpen m0_isFallen m0_speed m0_fire m0_most m0_hindered m0_hinderedBy m0_air m0_cameBy m0_least m0_before m0_gas m0_into m0_rest m0_isTold m0_isPast m0_kept m0_smoke m0_early mn m0_manAt nc m0_changeKind m0_changeOf m0_changeTo m0_row m0_openWas m0_fallenWas m0_speedWas nr m0_readingOf m0_low m0_high m0_back nw nk nd np nf ne nn bk_knot bk_name bk_kind bk_number bk_from bk_to bk_hinder bk_size bk_walk bk_draught bk_doorIn bk_fanIn bk_faceIn bk_by bk_one bk_two bk_push bk_fall bk_cost bk_gas bk_need k_bk_doorIn f_bk_doorIn k_bk_hinder f_bk_hinder k_bk_by f_bk_by k_m0_isOpen f_m0_isOpen w (by first | with_reducible assumption | omega | exact vp_in_iff.mpr (by omega) | exact vp_in_nI (by omega) (by omega) | exact ⟨by omega, by omega⟩) (by first | with_reducible assumption | omega | exact vp_in_iff.mpr (by omega) | exact vp_in_nI (by omega) (by omega) | exact ⟨by omega, by omega⟩)) (cwV 1 hts (gV (fun w h => wM_c h) wd_1874 wd_1871 wd_1873 wd_81 wd_127) rfl rfl rfl (by decide +kernel) ⟨Nat.le_of_ble_eq_true rfl, Nat.le_of_ble_eq_true rfl⟩) ⟨fun a U g mk q => by obtain ⟨q0, q1, q2, qG, qP, qK, qD⟩ := q; exact ⟨q0, q1, q2, GW.blind qG, qP, va_K.moved (u := U) (U := U.calling g mk a) (Vm.Alike.refl U.vm) qK, qD⟩, va_recv hKc hPc (ci := 14) (q0 := 0) rfl rfl, fun U hU hW => ⟨rfl, by rw [hU], Nat.le_trans hn0 hS.1, GW.go hW hU hG (fun q hq hA9 => hS.2.1 q hq (fun h => hA9 (hA0 q h))), by rw [hU]; exact hPc, va_K.moved hW.alike hKc, hDc.weaken (fun _ _ _ h => hA0 _ h)⟩⟩ rfl rfl hl.1 rfl (lv_room (Nat.le_of_ble_eq_true rfl)) dX14_step_2 ⟨Nat.le_of_ble_eq_true rfl, Nat.le_of_ble_eq_true rfl⟩) hS (fun q _ h => hFc q h) hFc (fun r_1 u t H1 locs ht hvm hw_2 hB hz1 hk1 hS => ?_)
  obtain ⟨hP1, hK1, hD1⟩ := hB
  rw [ht] at hP1
  obtain ⟨hP, hD⟩ := s3_j (L := [(bk_draught, .inl (k_bk_draught, 14, .inl f_bk_draught)), (m0_fire, .inl (k_m0_fire, 14, .inl f_m0_fire)), (bk_fanIn, .inl (k_bk_fanIn, 14, .inl f_bk_fanIn)), (bk_push, .inl (k_bk_push, 4, .inl f_bk_push)), (m0_speed, .inl (k_m0_speed, 4, .inl f_m0_speed)), (bk_fall, .inl (k_bk_fall, 4, .inl f_bk_fall)), (m0, .inr (14, fX14 (.int m0_thrown) (.ref m0_power) (.int m0_trouble) (.int m0_where) (.int m0_fault) (.ref bk) fv (.ref sp) (.ref m0_tape) (.int (nI tp)) (.int m0_size) (.int m0_at) (.int m0_sort) (.int m0_place) (.int m0_mark) (.int m0_number) (.long m0_word) (.ref m0_isOpen) (.ref m0_isFallen) (.ref m0_speed) (.ref m0_fire) (.int m0_most) (.int m0_hindered) (.int m0_hinderedBy) (.ref m0_air) (.ref m0_cameBy) (.ref m0_least) (.ref m0_before) (.ref m0_gas) (.ref m0_into) (.ref m0_rest) (.ref m0_isTold) (.ref m0_isPast) (.ref m0_kept) (.ref m0_smoke) (.ref m0_early) (.int (nI mn)) (.ref m0_manAt) (.int (nI nc)) (.ref m0_changeKind) (.ref m0_changeOf) (.ref m0_changeTo) (.ref m0_row) (.ref m0_openWas) (.ref m0_fallenWas) (.ref m0_speedWas) (.int (nI nr)) (.ref m0_readingOf) (.ref m0_low) (.ref m0_high) (.ref m0_back))), (bk, .inr (12, [.int (nI nw), .int (nI nk), .int (nI nd), .int (nI np), .int (nI nf), .int (nI ne), .int (nI nn), .ref bk_knot, .ref bk_name, .ref bk_kind, .ref bk_number, .ref bk_from, .ref bk_to, .ref bk_hinder, .ref bk_size, .ref bk_walk, .ref bk_draught, .ref bk_doorIn, .ref bk_fanIn, .ref bk_faceIn, .ref bk_by, .ref bk_one, .ref bk_two, .ref bk_push, .ref bk_fall, .ref bk_cost, .ref bk_gas, .ref bk_need])), (bk_doorIn, .inl (k_bk_doorIn, 14, .inl f_bk_doorIn)), (bk_hinder, .inl (k_bk_hinder, 14, .inl f_bk_hinder)), (bk_by, .inl (k_bk_by, 6, .inl f_bk_by)), (m0_isOpen, .inl (k_m0_isOpen, 6, .inl f_m0_isOpen))]) 6 hP hD [0, 1, 2, 3, 4, 5] [6, 7, 8, 9, 10, 11] hk1 hFc hP1 hD1 rfl rfl rfl (by decide) (by decide)
  generalize H1 = H at hP hS ⊢
  refine lv_i2l (v := r_1.toInt64) hx hb dX14_step_5 rfl ?_
  refine lv_topl (fun v_3 ev_3 => ?_)
  refine lv_lstore_n (lv' := [(3, .long v_3), (0, .ref m0), (1, .int w), (2, .int q)]) hx hb dX14_step_6 rfl hl (by decide) rfl (fun ls hl => ?_)
  refine lv_iload_n hx hb dX14_step_7 rfl (lv_at hl 3 rfl) ?_
  refine lv_if_le (tgt := 21) hx hb dX14_step_8 (by decide) (fun c_4 => ?_) (fun c_4 => ?_)
  · skip
    have g_5 : q.toInt ≤ (0 : Int) := i_le c_4
    refine lv_lload_n hx hb dX14_step_21 rfl (lv_at hl 0 rfl) ?_
    refine lv_lneg hx hb dX14_step_22 ?_
    refine lv_topl (fun v_6 ev_6 => ?_)
    refine lv_iconst (v := 1) hx hb dX14_step_23 (by decide) ?_
    refine lv_iload_n hx hb dX14_step_24 rfl (lv_at hl 3 rfl) ?_
    refine lv_isub hx hb dX14_step_25 ?_
    refine lv_topi (fun v_7 ev_7 => ?_)
    refine lv_i2l (v := v_7.toInt64) hx hb dX14_step_26 rfl ?_
    refine lv_topl (fun v_8 ev_8 => ?_)
    refine lv_lmul hx hb dX14_step_27 ?_
    refine lv_topl (fun v_9 ev_9 => ?_)
    refine lv_iconst (v := 1) hx hb dX14_step_28 (by decide) ?_
    refine lv_iload_n hx hb dX14_step_29 rfl (lv_at hl 3 rfl) ?_
    refine lv_isub hx hb dX14_step_30 ?_
    refine lv_topi (fun v_10 ev_10 => ?_)
    refine lv_i2l (v := v_10.toInt64) hx hb dX14_step_31 rfl ?_
    refine lv_topl (fun v_11 ev_11 => ?_)
    refine lv_lmul hx hb dX14_step_32 ?_
    refine lv_topl (fun v_12 ev_12 => ?_)
    refine lv_lstore (lv' := [(5, .long v_12), (3, .long v_3), (0, .ref m0), (1, .int w), (2, .int q)]) hx hb dX14_step_33 hl (by decide) rfl (fun ls hl => ?_)
    refine lv_lload hx hb dX14_step_35 (lv_at hl 0 rfl) ?_
    refine lv_aload_n hx hb dX14_step_37 rfl (lv_at hl 2 rfl) ?_
    refine va_get (D := (dC, dI)) (ci := 14) (v := .ref bk) (C := RX14) (T := TX14) (N := 51) hx hb hts (fun w h => wM_c (iX14 w h)) hown hK hP 6 rfl rfl 5 (by decide) (hts _ (wM_c wd_1458)) (fun _ h9 => h9) rfl dX14_step_38 ?_
    refine va_getN (D := (dC, dI)) (ci := 12) (v := .ref bk_draught) (C := RX12) (T := TX12) (N := 28) hx hb hts (fun w h => wM_c (iX12 w h)) hown hK hP 7 rfl rfl 16 (by decide) (va_Nw.use rfl (hG.1 _ wd_1655)) (fun _ h9 => h9) rfl dX14_step_41 ?_
    refine lv_iload_n hx hb dX14_step_44 rfl (lv_at hl 3 rfl) ?_
    refine va_iald hx hb hK hP 0 4 rfl rfl (by first | with_reducible assumption | exact vp_in_iff.mpr (by omega)) dX14_step_45 ?_
    refine lv_topi (fun v_13 ev_13 => ?_)
    refine lv_aload_n hx hb dX14_step_46 rfl (lv_at hl 2 rfl) ?_
    refine va_get (D := (dC, dI)) (ci := 14) (v := .ref m0_fire) (C := RX14) (T := TX14) (N := 51) hx hb hts (fun w h => wM_c (iX14 w h)) hown hK hP 6 rfl rfl 20 (by decide) (hts _ (wM_c wd_1473)) (fun _ h9 => h9) rfl dX14_step_47 ?_
    refine lv_iload_n hx hb dX14_step_50 rfl (lv_at hl 3 rfl) ?_
    refine va_iald hx hb hK hP 1 5 rfl rfl (by first | with_reducible assumption | exact vp_in_iff.mpr (by omega)) dX14_step_51 ?_
    refine lv_topi (fun v_14 ev_14 => ?_)
    refine lv_iadd hx hb dX14_step_52 ?_
    refine lv_topi (fun v_15 ev_15 => ?_)
    refine lv_i2l (v := v_15.toInt64) hx hb dX14_step_53 rfl ?_
    refine lv_topl (fun v_16 ev_16 => ?_)
    refine lv_lsub hx hb dX14_step_54 ?_
    refine lv_topl (fun v_17 ev_17 => ?_)
    refine lv_lstore (lv' := [(5, .long v_17), (3, .long v_3), (0, .ref m0), (1, .int w), (2, .int q)]) hx hb dX14_step_55 hl (by decide) rfl (fun ls hl => ?_)
    refine lv_aload_n hx hb dX14_step_57 rfl (lv_at hl 2 rfl) ?_
    refine va_get (D := (dC, dI)) (ci := 14) (v := .ref bk) (C := RX14) (T := TX14) (N := 51) hx hb hts (fun w h => wM_c (iX14 w h)) hown hK hP 6 rfl rfl 5 (by decide) (hts _ (wM_c wd_1458)) (fun _ h9 => h9) rfl dX14_step_58 ?_
    refine va_getN (D := (dC, dI)) (ci := 12) (v := .ref bk_fanIn) (C := RX12) (T := TX12) (N := 28) hx hb hts (fun w h => wM_c (iX12 w h)) hown hK hP 7 rfl rfl 18 (by decide) (va_Nw.use rfl (hG.1 _ wd_1659)) (fun _ h9 => h9) rfl dX14_step_61 ?_
    refine lv_iload_n hx hb dX14_step_64 rfl (lv_at hl 3 rfl) ?_
    refine va_iald hx hb hK hP 2 6 rfl rfl (by first | with_reducible assumption | exact vp_in_iff.mpr (by omega)) dX14_step_65 ?_
    refine lv_topi (fun v_18 ev_18 => ?_)
    have g_19 : (-2) ≤ v_18.toInt ∧ v_18.toInt < 4 := by rw [ev_18]; exact rg_inx r_fanIn (by first | with_reducible assumption | exact vp_in_iff.mpr (by omega))
    refine lv_istore (lv' := [(7, .int v_18), (5, .long v_17), (3, .long v_3), (0, .ref m0), (1, .int w), (2, .int q)]) hx hb dX14_step_66 hl (by decide) rfl (fun ls hl => ?_)
    refine lv_iload hx hb dX14_step_68 (lv_at hl 0 rfl) ?_
    refine lv_if_ge (tgt := 78) hx hb dX14_step_70 (by decide) (fun c_20 => ?_) (fun c_20 => ?_)
    · skip
      have g_21 : (0 : Int) ≤ v_18.toInt := i_le c_20
      refine lv_lload hx hb dX14_step_78 (lv_at hl 1 rfl) ?_
      refine lv_aload_n hx hb dX14_step_80 rfl (lv_at hl 3 rfl) ?_
      refine va_get (D := (dC, dI)) (ci := 14) (v := .ref bk) (C := RX14) (T := TX14) (N := 51) hx hb hts (fun w h => wM_c (iX14 w h)) hown hK hP 6 rfl rfl 5 (by decide) (hts _ (wM_c wd_1458)) (fun _ h9 => h9) rfl dX14_step_81 ?_
      refine va_getN (D := (dC, dI)) (ci := 12) (v := .ref bk_push) (C := RX12) (T := TX12) (N := 28) hx hb hts (fun w h => wM_c (iX12 w h)) hown hK hP 7 rfl rfl 23 (by decide) (va_Nw.use rfl (hG.1 _ wd_1669)) (fun _ h9 => h9) rfl dX14_step_84 ?_
      refine lv_iload hx hb dX14_step_87 (lv_at hl 0 rfl) ?_
      refine va_iald hx hb hK hP 3 7 rfl rfl (by first | with_reducible assumption | exact vp_in_iff.mpr (by omega)) dX14_step_89 ?_
      refine lv_topi (fun v_22 ev_22 => ?_)
      refine lv_aload_n hx hb dX14_step_90 rfl (lv_at hl 3 rfl) ?_
      refine va_get (D := (dC, dI)) (ci := 14) (v := .ref m0_speed) (C := RX14) (T := TX14) (N := 51) hx hb hts (fun w h => wM_c (iX14 w h)) hown hK hP 6 rfl rfl 19 (by decide) (hts _ (wM_c wd_1472)) (fun _ h9 => h9) rfl dX14_step_91 ?_
      refine lv_iload hx hb dX14_step_94 (lv_at hl 0 rfl) ?_
      refine va_iald hx hb hK hP 4 8 rfl rfl (by first | with_reducible assumption | exact vp_in_iff.mpr (by omega)) dX14_step_96 ?_
      refine lv_topi (fun v_23 ev_23 => ?_)
      refine lv_imul hx hb dX14_step_97 ?_
      refine lv_topi (fun v_24 ev_24 => ?_)
      refine lv_i2l (v := v_24.toInt64) hx hb dX14_step_98 rfl ?_
      refine lv_topl (fun v_25 ev_25 => ?_)
      refine lv_lsub hx hb dX14_step_99 ?_
      refine lv_topl (fun v_26 ev_26 => ?_)
      refine lv_aload_n hx hb dX14_step_100 rfl (lv_at hl 3 rfl) ?_
      refine va_get (D := (dC, dI)) (ci := 14) (v := .ref bk) (C := RX14) (T := TX14) (N := 51) hx hb hts (fun w h => wM_c (iX14 w h)) hown hK hP 6 rfl rfl 5 (by decide) (hts _ (wM_c wd_1458)) (fun _ h9 => h9) rfl dX14_step_101 ?_
      refine va_getN (D := (dC, dI)) (ci := 12) (v := .ref bk_fall) (C := RX12) (T := TX12) (N := 28) hx hb hts (fun w h => wM_c (iX12 w h)) hown hK hP 7 rfl rfl 24 (by decide) (va_Nw.use rfl (hG.1 _ wd_1671)) (fun _ h9 => h9) rfl dX14_step_104 ?_
      refine lv_iload hx hb dX14_step_107 (lv_at hl 0 rfl) ?_
      refine va_iald hx hb hK hP 5 9 rfl rfl (by first | with_reducible assumption | exact vp_in_iff.mpr (by omega)) dX14_step_109 ?_
      refine lv_topi (fun v_27 ev_27 => ?_)
      refine lv_iload_n hx hb dX14_step_110 rfl (lv_at hl 5 rfl) ?_
      refine lv_imul hx hb dX14_step_111 ?_
      refine lv_topi (fun v_28 ev_28 => ?_)
      refine lv_i2l (v := v_28.toInt64) hx hb dX14_step_112 rfl ?_
      refine lv_topl (fun v_29 ev_29 => ?_)
      refine lv_ladd hx hb dX14_step_113 ?_
      refine lv_topl (fun v_30 ev_30 => ?_)
      have hK9 := hK.sub (tys' := [(k_bk_doorIn, .int), (k_bk_hinder, .int), (k_bk_by, .int), (k_m0_isOpen, .boolean), (k_bk_draught, .int), (k_m0_fire, .int), (k_bk_fanIn, .int), (k_bk_push, .int), (k_m0_speed, .int), (k_bk_fall, .int)]) [0, 1, 2, 3, 4, 5, 6, 7, 8, 9] rfl
      exact W.lret (v := v_30) hx hb hr (fun t ht hW => ⟨⟨v_30, (), rfl, (by subst hw_2; subst ev_3 ev_6 ev_7 ev_8 ev_9 ev_10 ev_11 ev_12 ev_13 ev_14 ev_15 ev_16 ev_17 ev_18 ev_22 ev_23 ev_24 ev_25 ev_26 ev_27 ev_28 ev_29 ev_30; unfold stepF stepA; rw [if_pos c_4, if_pos c_20]), by rw [ht]; exact hP.sub [6, 7, 8, 9, 10, 11, 0, 1, 2, 3, 4, 5] rfl, va_K.moved hW.alike hK9, hD.sub [6, 7, 8, 9, 10, 11, 0, 1, 2, 3, 4, 5] (by decide) rfl⟩, hS.F ht⟩) hS.2.2 dX14_step_114
    · skip
      have g_31 : v_18.toInt < (0 : Int) := i_nle c_20
      refine lv_lload hx hb dX14_step_73 (lv_at hl 1 rfl) ?_
      refine lv_goto (tgt := 114) hx hb dX14_step_75 (by decide) ?_
      have hK9 := hK.sub (tys' := [(k_bk_doorIn, .int), (k_bk_hinder, .int), (k_bk_by, .int), (k_m0_isOpen, .boolean), (k_bk_draught, .int), (k_m0_fire, .int), (k_bk_fanIn, .int), (k_bk_push, .int), (k_m0_speed, .int), (k_bk_fall, .int)]) [0, 1, 2, 3, 4, 5, 6, 7, 8, 9] rfl
      exact W.lret (v := v_17) hx hb hr (fun t ht hW => ⟨⟨v_17, (), rfl, (by subst hw_2; subst ev_3 ev_6 ev_7 ev_8 ev_9 ev_10 ev_11 ev_12 ev_13 ev_14 ev_15 ev_16 ev_17 ev_18; unfold stepF stepA; rw [if_pos c_4, if_neg c_20]), by rw [ht]; exact hP.sub [6, 7, 8, 9, 10, 11, 0, 1, 2, 3, 4, 5] rfl, va_K.moved hW.alike hK9, hD.sub [6, 7, 8, 9, 10, 11, 0, 1, 2, 3, 4, 5] (by decide) rfl⟩, hS.F ht⟩) hS.2.2 dX14_step_114
  · skip
    have g_32 : (0 : Int) < q.toInt := i_nle c_4
    refine lv_lload_n hx hb dX14_step_11 rfl (lv_at hl 0 rfl) ?_
    refine lv_iload_n hx hb dX14_step_12 rfl (lv_at hl 3 rfl) ?_
    refine lv_i2l (v := q.toInt64) hx hb dX14_step_13 rfl ?_
    refine lv_topl (fun v_33 ev_33 => ?_)
    refine lv_lmul hx hb dX14_step_14 ?_
    refine lv_topl (fun v_34 ev_34 => ?_)
    refine lv_iload_n hx hb dX14_step_15 rfl (lv_at hl 3 rfl) ?_
    refine lv_i2l (v := q.toInt64) hx hb dX14_step_16 rfl ?_
    refine lv_topl (fun v_35 ev_35 => ?_)
    refine lv_lmul hx hb dX14_step_17 ?_
    refine lv_topl (fun v_36 ev_36 => ?_)
    refine lv_goto (tgt := 33) hx hb dX14_step_18 (by decide) ?_
    refine lv_lstore (lv' := [(5, .long v_36), (3, .long v_3), (0, .ref m0), (1, .int w), (2, .int q)]) hx hb dX14_step_33 hl (by decide) rfl (fun ls hl => ?_)
    refine lv_lload hx hb dX14_step_35 (lv_at hl 0 rfl) ?_
    refine lv_aload_n hx hb dX14_step_37 rfl (lv_at hl 2 rfl) ?_
    refine va_get (D := (dC, dI)) (ci := 14) (v := .ref bk) (C := RX14) (T := TX14) (N := 51) hx hb hts (fun w h => wM_c (iX14 w h)) hown hK hP 6 rfl rfl 5 (by decide) (hts _ (wM_c wd_1458)) (fun _ h9 => h9) rfl dX14_step_38 ?_
    refine va_getN (D := (dC, dI)) (ci := 12) (v := .ref bk_draught) (C := RX12) (T := TX12) (N := 28) hx hb hts (fun w h => wM_c (iX12 w h)) hown hK hP 7 rfl rfl 16 (by decide) (va_Nw.use rfl (hG.1 _ wd_1655)) (fun _ h9 => h9) rfl dX14_step_41 ?_
    refine lv_iload_n hx hb dX14_step_44 rfl (lv_at hl 3 rfl) ?_
    refine va_iald hx hb hK hP 0 4 rfl rfl (by first | with_reducible assumption | exact vp_in_iff.mpr (by omega)) dX14_step_45 ?_
    refine lv_topi (fun v_37 ev_37 => ?_)
    refine lv_aload_n hx hb dX14_step_46 rfl (lv_at hl 2 rfl) ?_
    refine va_get (D := (dC, dI)) (ci := 14) (v := .ref m0_fire) (C := RX14) (T := TX14) (N := 51) hx hb hts (fun w h => wM_c (iX14 w h)) hown hK hP 6 rfl rfl 20 (by decide) (hts _ (wM_c wd_1473)) (fun _ h9 => h9) rfl dX14_step_47 ?_
    refine lv_iload_n hx hb dX14_step_50 rfl (lv_at hl 3 rfl) ?_
    refine va_iald hx hb hK hP 1 5 rfl rfl (by first | with_reducible assumption | exact vp_in_iff.mpr (by omega)) dX14_step_51 ?_
    refine lv_topi (fun v_38 ev_38 => ?_)
    refine lv_iadd hx hb dX14_step_52 ?_
    refine lv_topi (fun v_39 ev_39 => ?_)
    refine lv_i2l (v := v_39.toInt64) hx hb dX14_step_53 rfl ?_
    refine lv_topl (fun v_40 ev_40 => ?_)
    refine lv_lsub hx hb dX14_step_54 ?_
    refine lv_topl (fun v_41 ev_41 => ?_)
    refine lv_lstore (lv' := [(5, .long v_41), (3, .long v_3), (0, .ref m0), (1, .int w), (2, .int q)]) hx hb dX14_step_55 hl (by decide) rfl (fun ls hl => ?_)
    refine lv_aload_n hx hb dX14_step_57 rfl (lv_at hl 2 rfl) ?_
    refine va_get (D := (dC, dI)) (ci := 14) (v := .ref bk) (C := RX14) (T := TX14) (N := 51) hx hb hts (fun w h => wM_c (iX14 w h)) hown hK hP 6 rfl rfl 5 (by decide) (hts _ (wM_c wd_1458)) (fun _ h9 => h9) rfl dX14_step_58 ?_
    refine va_getN (D := (dC, dI)) (ci := 12) (v := .ref bk_fanIn) (C := RX12) (T := TX12) (N := 28) hx hb hts (fun w h => wM_c (iX12 w h)) hown hK hP 7 rfl rfl 18 (by decide) (va_Nw.use rfl (hG.1 _ wd_1659)) (fun _ h9 => h9) rfl dX14_step_61 ?_
    refine lv_iload_n hx hb dX14_step_64 rfl (lv_at hl 3 rfl) ?_
    refine va_iald hx hb hK hP 2 6 rfl rfl (by first | with_reducible assumption | exact vp_in_iff.mpr (by omega)) dX14_step_65 ?_
    refine lv_topi (fun v_42 ev_42 => ?_)
    have g_43 : (-2) ≤ v_42.toInt ∧ v_42.toInt < 4 := by rw [ev_42]; exact rg_inx r_fanIn (by first | with_reducible assumption | exact vp_in_iff.mpr (by omega))
    refine lv_istore (lv' := [(7, .int v_42), (5, .long v_41), (3, .long v_3), (0, .ref m0), (1, .int w), (2, .int q)]) hx hb dX14_step_66 hl (by decide) rfl (fun ls hl => ?_)
    refine lv_iload hx hb dX14_step_68 (lv_at hl 0 rfl) ?_
    refine lv_if_ge (tgt := 78) hx hb dX14_step_70 (by decide) (fun c_44 => ?_) (fun c_44 => ?_)
    · skip
      have g_45 : (0 : Int) ≤ v_42.toInt := i_le c_44
      refine lv_lload hx hb dX14_step_78 (lv_at hl 1 rfl) ?_
      refine lv_aload_n hx hb dX14_step_80 rfl (lv_at hl 3 rfl) ?_
      refine va_get (D := (dC, dI)) (ci := 14) (v := .ref bk) (C := RX14) (T := TX14) (N := 51) hx hb hts (fun w h => wM_c (iX14 w h)) hown hK hP 6 rfl rfl 5 (by decide) (hts _ (wM_c wd_1458)) (fun _ h9 => h9) rfl dX14_step_81 ?_
      refine va_getN (D := (dC, dI)) (ci := 12) (v := .ref bk_push) (C := RX12) (T := TX12) (N := 28) hx hb hts (fun w h => wM_c (iX12 w h)) hown hK hP 7 rfl rfl 23 (by decide) (va_Nw.use rfl (hG.1 _ wd_1669)) (fun _ h9 => h9) rfl dX14_step_84 ?_
      refine lv_iload hx hb dX14_step_87 (lv_at hl 0 rfl) ?_
      refine va_iald hx hb hK hP 3 7 rfl rfl (by first | with_reducible assumption | exact vp_in_iff.mpr (by omega)) dX14_step_89 ?_
      refine lv_topi (fun v_46 ev_46 => ?_)
      refine lv_aload_n hx hb dX14_step_90 rfl (lv_at hl 3 rfl) ?_
      refine va_get (D := (dC, dI)) (ci := 14) (v := .ref m0_speed) (C := RX14) (T := TX14) (N := 51) hx hb hts (fun w h => wM_c (iX14 w h)) hown hK hP 6 rfl rfl 19 (by decide) (hts _ (wM_c wd_1472)) (fun _ h9 => h9) rfl dX14_step_91 ?_
      refine lv_iload hx hb dX14_step_94 (lv_at hl 0 rfl) ?_
      refine va_iald hx hb hK hP 4 8 rfl rfl (by first | with_reducible assumption | exact vp_in_iff.mpr (by omega)) dX14_step_96 ?_
      refine lv_topi (fun v_47 ev_47 => ?_)
      refine lv_imul hx hb dX14_step_97 ?_
      refine lv_topi (fun v_48 ev_48 => ?_)
      refine lv_i2l (v := v_48.toInt64) hx hb dX14_step_98 rfl ?_
      refine lv_topl (fun v_49 ev_49 => ?_)
      refine lv_lsub hx hb dX14_step_99 ?_
      refine lv_topl (fun v_50 ev_50 => ?_)
      refine lv_aload_n hx hb dX14_step_100 rfl (lv_at hl 3 rfl) ?_
      refine va_get (D := (dC, dI)) (ci := 14) (v := .ref bk) (C := RX14) (T := TX14) (N := 51) hx hb hts (fun w h => wM_c (iX14 w h)) hown hK hP 6 rfl rfl 5 (by decide) (hts _ (wM_c wd_1458)) (fun _ h9 => h9) rfl dX14_step_101 ?_
      refine va_getN (D := (dC, dI)) (ci := 12) (v := .ref bk_fall) (C := RX12) (T := TX12) (N := 28) hx hb hts (fun w h => wM_c (iX12 w h)) hown hK hP 7 rfl rfl 24 (by decide) (va_Nw.use rfl (hG.1 _ wd_1671)) (fun _ h9 => h9) rfl dX14_step_104 ?_
      refine lv_iload hx hb dX14_step_107 (lv_at hl 0 rfl) ?_
      refine va_iald hx hb hK hP 5 9 rfl rfl (by first | with_reducible assumption | exact vp_in_iff.mpr (by omega)) dX14_step_109 ?_
      refine lv_topi (fun v_51 ev_51 => ?_)
      refine lv_iload_n hx hb dX14_step_110 rfl (lv_at hl 5 rfl) ?_
      refine lv_imul hx hb dX14_step_111 ?_
      refine lv_topi (fun v_52 ev_52 => ?_)
      refine lv_i2l (v := v_52.toInt64) hx hb dX14_step_112 rfl ?_
      refine lv_topl (fun v_53 ev_53 => ?_)
      refine lv_ladd hx hb dX14_step_113 ?_
      refine lv_topl (fun v_54 ev_54 => ?_)
      have hK9 := hK.sub (tys' := [(k_bk_doorIn, .int), (k_bk_hinder, .int), (k_bk_by, .int), (k_m0_isOpen, .boolean), (k_bk_draught, .int), (k_m0_fire, .int), (k_bk_fanIn, .int), (k_bk_push, .int), (k_m0_speed, .int), (k_bk_fall, .int)]) [0, 1, 2, 3, 4, 5, 6, 7, 8, 9] rfl
      exact W.lret (v := v_54) hx hb hr (fun t ht hW => ⟨⟨v_54, (), rfl, (by subst hw_2; subst ev_3 ev_33 ev_34 ev_35 ev_36 ev_37 ev_38 ev_39 ev_40 ev_41 ev_42 ev_46 ev_47 ev_48 ev_49 ev_50 ev_51 ev_52 ev_53 ev_54; unfold stepF stepA; rw [if_neg c_4, if_pos c_44]), by rw [ht]; exact hP.sub [6, 7, 8, 9, 10, 11, 0, 1, 2, 3, 4, 5] rfl, va_K.moved hW.alike hK9, hD.sub [6, 7, 8, 9, 10, 11, 0, 1, 2, 3, 4, 5] (by decide) rfl⟩, hS.F ht⟩) hS.2.2 dX14_step_114
    · skip
      have g_55 : v_42.toInt < (0 : Int) := i_nle c_44
      refine lv_lload hx hb dX14_step_73 (lv_at hl 1 rfl) ?_
      refine lv_goto (tgt := 114) hx hb dX14_step_75 (by decide) ?_
      have hK9 := hK.sub (tys' := [(k_bk_doorIn, .int), (k_bk_hinder, .int), (k_bk_by, .int), (k_m0_isOpen, .boolean), (k_bk_draught, .int), (k_m0_fire, .int), (k_bk_fanIn, .int), (k_bk_push, .int), (k_m0_speed, .int), (k_bk_fall, .int)]) [0, 1, 2, 3, 4, 5, 6, 7, 8, 9] rfl
      exact W.lret (v := v_41) hx hb hr (fun t ht hW => ⟨⟨v_41, (), rfl, (by subst hw_2; subst ev_3 ev_33 ev_34 ev_35 ev_36 ev_37 ev_38 ev_39 ev_40 ev_41 ev_42; unfold stepF stepA; rw [if_neg c_4, if_neg c_44]), by rw [ht]; exact hP.sub [6, 7, 8, 9, 10, 11, 0, 1, 2, 3, 4, 5] rfl, va_K.moved hW.alike hK9, hD.sub [6, 7, 8, 9, 10, 11, 0, 1, 2, 3, 4, 5] (by decide) rfl⟩, hS.F ht⟩) hS.2.2 dX14_step_114
def bothF (fp : Nat → Int64) (s : Int64) (w q : Int32) : Int64 := s <<< ((26 : Int32).toInt64 &&& 63) + (if q ≤ 0 then -fp w.toNatClampNeg else fp w.toNatClampNeg)
set_option maxHeartbeats 4000000 in
set_option maxRecDepth 100000 in
theorem m_both (l : Launch) (dC : Nat → ClassId) (dI : Nat → Nat → Nat) (n0 : Nat) (atx : Nat → Nat × Nat) (sz : Nat) (m0 : Nat) (m0_thrown : Int32) (m0_power : Nat) (m0_trouble : Int32) (m0_where : Int32) (m0_fault : Int32) (bk : Nat) (fv : Value) (sp : Nat) (m0_tape : Nat) (tp : Nat) (m0_size : Int32) (m0_at : Int32) (m0_sort : Int32) (m0_place : Int32) (m0_mark : Int32) (m0_number : Int32) (m0_word : Int64) (m0_isOpen : Nat) (m0_isFallen : Nat) (m0_speed : Nat) (m0_fire : Nat) (m0_most : Int32) (m0_hindered : Int32) (m0_hinderedBy : Int32) (m0_air : Nat) (m0_cameBy : Nat) (m0_least : Nat) (m0_before : Nat) (m0_gas : Nat) (m0_into : Nat) (m0_rest : Nat) (m0_isTold : Nat) (m0_isPast : Nat) (m0_kept : Nat) (m0_smoke : Nat) (m0_early : Nat) (mn : Nat) (m0_manAt : Nat) (nc : Nat) (m0_changeKind : Nat) (m0_changeOf : Nat) (m0_changeTo : Nat) (m0_row : Nat) (m0_openWas : Nat) (m0_fallenWas : Nat) (m0_speedWas : Nat) (nr : Nat) (m0_readingOf : Nat) (m0_low : Nat) (m0_high : Nat) (m0_back : Nat) (nw : Nat) (nk : Nat) (nd : Nat) (np : Nat) (nf : Nat) (ne : Nat) (nn : Nat) (bk_knot : Nat) (bk_name : Nat) (bk_kind : Nat) (bk_number : Nat) (bk_from : Nat) (bk_to : Nat) (bk_hinder : Nat) (bk_size : Nat) (bk_walk : Nat) (bk_draught : Nat) (bk_doorIn : Nat) (bk_fanIn : Nat) (bk_faceIn : Nat) (bk_by : Nat) (bk_one : Nat) (bk_two : Nat) (bk_push : Nat) (bk_fall : Nat) (bk_cost : Nat) (bk_gas : Nat) (bk_need : Nat) (k_bk_doorIn : ClassId) (f_bk_doorIn : Nat → Int32) (k_bk_hinder : ClassId) (f_bk_hinder : Nat → Int32) (k_bk_by : ClassId) (f_bk_by : Nat → Int32) (k_m0_isOpen : ClassId) (f_m0_isOpen : Nat → Int32) (k_bk_draught : ClassId) (f_bk_draught : Nat → Int32) (k_m0_fire : ClassId) (f_m0_fire : Nat → Int32) (k_bk_fanIn : ClassId) (f_bk_fanIn : Nat → Int32) (k_bk_push : ClassId) (f_bk_push : Nat → Int32) (k_m0_speed : ClassId) (f_m0_speed : Nat → Int32) (k_bk_fall : ClassId) (f_bk_fall : Nat → Int32) (k_m0_power : ClassId) (f_m0_power : Nat → Int64) (w : Int32) (q : Int32) (r_doorIn : rg f_bk_doorIn 14 (-2) 6) (r_fanIn : rg f_bk_fanIn 14 (-2) 4) (hw : vp_in w 14) : Met l yX14_both (wM yX14_both cX14_both 3 (some .long)) ({ frames := 2, cells := 0, slots := 0, locals := 49 }) (va_Pc [.ref m0, .int w, .int q] (fun U => U.heap.size = sz ∧ n0 ≤ sz ∧ GW n0 atx U ∧ va_P (dC, dI) classes [(m0, .inr (14, fX14 (.int m0_thrown) (.ref m0_power) (.int m0_trouble) (.int m0_where) (.int m0_fault) (.ref bk) fv (.ref sp) (.ref m0_tape) (.int (nI tp)) (.int m0_size) (.int m0_at) (.int m0_sort) (.int m0_place) (.int m0_mark) (.int m0_number) (.long m0_word) (.ref m0_isOpen) (.ref m0_isFallen) (.ref m0_speed) (.ref m0_fire) (.int m0_most) (.int m0_hindered) (.int m0_hinderedBy) (.ref m0_air) (.ref m0_cameBy) (.ref m0_least) (.ref m0_before) (.ref m0_gas) (.ref m0_into) (.ref m0_rest) (.ref m0_isTold) (.ref m0_isPast) (.ref m0_kept) (.ref m0_smoke) (.ref m0_early) (.int (nI mn)) (.ref m0_manAt) (.int (nI nc)) (.ref m0_changeKind) (.ref m0_changeOf) (.ref m0_changeTo) (.ref m0_row) (.ref m0_openWas) (.ref m0_fallenWas) (.ref m0_speedWas) (.int (nI nr)) (.ref m0_readingOf) (.ref m0_low) (.ref m0_high) (.ref m0_back))), (bk, .inr (12, [.int (nI nw), .int (nI nk), .int (nI nd), .int (nI np), .int (nI nf), .int (nI ne), .int (nI nn), .ref bk_knot, .ref bk_name, .ref bk_kind, .ref bk_number, .ref bk_from, .ref bk_to, .ref bk_hinder, .ref bk_size, .ref bk_walk, .ref bk_draught, .ref bk_doorIn, .ref bk_fanIn, .ref bk_faceIn, .ref bk_by, .ref bk_one, .ref bk_two, .ref bk_push, .ref bk_fall, .ref bk_cost, .ref bk_gas, .ref bk_need])), (bk_doorIn, .inl (k_bk_doorIn, 14, .inl f_bk_doorIn)), (bk_hinder, .inl (k_bk_hinder, 14, .inl f_bk_hinder)), (bk_by, .inl (k_bk_by, 6, .inl f_bk_by)), (m0_isOpen, .inl (k_m0_isOpen, 6, .inl f_m0_isOpen)), (bk_draught, .inl (k_bk_draught, 14, .inl f_bk_draught)), (m0_fire, .inl (k_m0_fire, 14, .inl f_m0_fire)), (bk_fanIn, .inl (k_bk_fanIn, 14, .inl f_bk_fanIn)), (bk_push, .inl (k_bk_push, 4, .inl f_bk_push)), (m0_speed, .inl (k_m0_speed, 4, .inl f_m0_speed)), (bk_fall, .inl (k_bk_fall, 4, .inl f_bk_fall)), (m0_power, .inl (k_m0_power, 14, .inr (.inl f_m0_power)))] U.heap ∧ va_K (dC, dI) classes [(k_bk_doorIn, .int), (k_bk_hinder, .int), (k_bk_by, .int), (k_m0_isOpen, .boolean), (k_bk_draught, .int), (k_m0_fire, .int), (k_bk_fanIn, .int), (k_bk_push, .int), (k_m0_speed, .int), (k_bk_fall, .int), (k_m0_power, .long)] U ∧ va_D (fun q => n0 ≤ q) [(m0, .inr (14, fX14 (.int m0_thrown) (.ref m0_power) (.int m0_trouble) (.int m0_where) (.int m0_fault) (.ref bk) fv (.ref sp) (.ref m0_tape) (.int (nI tp)) (.int m0_size) (.int m0_at) (.int m0_sort) (.int m0_place) (.int m0_mark) (.int m0_number) (.long m0_word) (.ref m0_isOpen) (.ref m0_isFallen) (.ref m0_speed) (.ref m0_fire) (.int m0_most) (.int m0_hindered) (.int m0_hinderedBy) (.ref m0_air) (.ref m0_cameBy) (.ref m0_least) (.ref m0_before) (.ref m0_gas) (.ref m0_into) (.ref m0_rest) (.ref m0_isTold) (.ref m0_isPast) (.ref m0_kept) (.ref m0_smoke) (.ref m0_early) (.int (nI mn)) (.ref m0_manAt) (.int (nI nc)) (.ref m0_changeKind) (.ref m0_changeOf) (.ref m0_changeTo) (.ref m0_row) (.ref m0_openWas) (.ref m0_fallenWas) (.ref m0_speedWas) (.int (nI nr)) (.ref m0_readingOf) (.ref m0_low) (.ref m0_high) (.ref m0_back))), (bk, .inr (12, [.int (nI nw), .int (nI nk), .int (nI nd), .int (nI np), .int (nI nf), .int (nI ne), .int (nI nn), .ref bk_knot, .ref bk_name, .ref bk_kind, .ref bk_number, .ref bk_from, .ref bk_to, .ref bk_hinder, .ref bk_size, .ref bk_walk, .ref bk_draught, .ref bk_doorIn, .ref bk_fanIn, .ref bk_faceIn, .ref bk_by, .ref bk_one, .ref bk_two, .ref bk_push, .ref bk_fall, .ref bk_cost, .ref bk_gas, .ref bk_need])), (bk_doorIn, .inl (k_bk_doorIn, 14, .inl f_bk_doorIn)), (bk_hinder, .inl (k_bk_hinder, 14, .inl f_bk_hinder)), (bk_by, .inl (k_bk_by, 6, .inl f_bk_by)), (m0_isOpen, .inl (k_m0_isOpen, 6, .inl f_m0_isOpen)), (bk_draught, .inl (k_bk_draught, 14, .inl f_bk_draught)), (m0_fire, .inl (k_m0_fire, 14, .inl f_m0_fire)), (bk_fanIn, .inl (k_bk_fanIn, 14, .inl f_bk_fanIn)), (bk_push, .inl (k_bk_push, 4, .inl f_bk_push)), (m0_speed, .inl (k_m0_speed, 4, .inl f_m0_speed)), (bk_fall, .inl (k_bk_fall, 4, .inl f_bk_fall)), (m0_power, .inl (k_m0_power, 14, .inr (.inl f_m0_power)))])) (va_Ql (fun (r : Int64) (_ : Unit) => r = bothF f_m0_power (stepF f_bk_draught f_m0_fire f_bk_fanIn f_bk_push f_m0_speed f_bk_fall (hinF f_bk_doorIn f_bk_hinder f_bk_by f_m0_isOpen m0_hindered m0_hinderedBy w) w q) w q) (fun (_ : Unit) (t : State) => va_P (dC, dI) classes [(m0, .inr (14, fX14 (.int m0_thrown) (.ref m0_power) (.int m0_trouble) (.int m0_where) (.int m0_fault) (.ref bk) fv (.ref sp) (.ref m0_tape) (.int (nI tp)) (.int m0_size) (.int m0_at) (.int m0_sort) (.int m0_place) (.int m0_mark) (.int m0_number) (.long m0_word) (.ref m0_isOpen) (.ref m0_isFallen) (.ref m0_speed) (.ref m0_fire) (.int m0_most) (.int m0_hindered) (.int m0_hinderedBy) (.ref m0_air) (.ref m0_cameBy) (.ref m0_least) (.ref m0_before) (.ref m0_gas) (.ref m0_into) (.ref m0_rest) (.ref m0_isTold) (.ref m0_isPast) (.ref m0_kept) (.ref m0_smoke) (.ref m0_early) (.int (nI mn)) (.ref m0_manAt) (.int (nI nc)) (.ref m0_changeKind) (.ref m0_changeOf) (.ref m0_changeTo) (.ref m0_row) (.ref m0_openWas) (.ref m0_fallenWas) (.ref m0_speedWas) (.int (nI nr)) (.ref m0_readingOf) (.ref m0_low) (.ref m0_high) (.ref m0_back))), (bk, .inr (12, [.int (nI nw), .int (nI nk), .int (nI nd), .int (nI np), .int (nI nf), .int (nI ne), .int (nI nn), .ref bk_knot, .ref bk_name, .ref bk_kind, .ref bk_number, .ref bk_from, .ref bk_to, .ref bk_hinder, .ref bk_size, .ref bk_walk, .ref bk_draught, .ref bk_doorIn, .ref bk_fanIn, .ref bk_faceIn, .ref bk_by, .ref bk_one, .ref bk_two, .ref bk_push, .ref bk_fall, .ref bk_cost, .ref bk_gas, .ref bk_need])), (bk_doorIn, .inl (k_bk_doorIn, 14, .inl f_bk_doorIn)), (bk_hinder, .inl (k_bk_hinder, 14, .inl f_bk_hinder)), (bk_by, .inl (k_bk_by, 6, .inl f_bk_by)), (m0_isOpen, .inl (k_m0_isOpen, 6, .inl f_m0_isOpen)), (bk_draught, .inl (k_bk_draught, 14, .inl f_bk_draught)), (m0_fire, .inl (k_m0_fire, 14, .inl f_m0_fire)), (bk_fanIn, .inl (k_bk_fanIn, 14, .inl f_bk_fanIn)), (bk_push, .inl (k_bk_push, 4, .inl f_bk_push)), (m0_speed, .inl (k_m0_speed, 4, .inl f_m0_speed)), (bk_fall, .inl (k_bk_fall, 4, .inl f_bk_fall)), (m0_power, .inl (k_m0_power, 14, .inr (.inl f_m0_power)))] t.heap ∧ va_K (dC, dI) classes [(k_bk_doorIn, .int), (k_bk_hinder, .int), (k_bk_by, .int), (k_m0_isOpen, .boolean), (k_bk_draught, .int), (k_m0_fire, .int), (k_bk_fanIn, .int), (k_bk_push, .int), (k_m0_speed, .int), (k_bk_fall, .int), (k_m0_power, .long)] t ∧ va_D (va_A [(m0, .inr (14, fX14 (.int m0_thrown) (.ref m0_power) (.int m0_trouble) (.int m0_where) (.int m0_fault) (.ref bk) fv (.ref sp) (.ref m0_tape) (.int (nI tp)) (.int m0_size) (.int m0_at) (.int m0_sort) (.int m0_place) (.int m0_mark) (.int m0_number) (.long m0_word) (.ref m0_isOpen) (.ref m0_isFallen) (.ref m0_speed) (.ref m0_fire) (.int m0_most) (.int m0_hindered) (.int m0_hinderedBy) (.ref m0_air) (.ref m0_cameBy) (.ref m0_least) (.ref m0_before) (.ref m0_gas) (.ref m0_into) (.ref m0_rest) (.ref m0_isTold) (.ref m0_isPast) (.ref m0_kept) (.ref m0_smoke) (.ref m0_early) (.int (nI mn)) (.ref m0_manAt) (.int (nI nc)) (.ref m0_changeKind) (.ref m0_changeOf) (.ref m0_changeTo) (.ref m0_row) (.ref m0_openWas) (.ref m0_fallenWas) (.ref m0_speedWas) (.int (nI nr)) (.ref m0_readingOf) (.ref m0_low) (.ref m0_high) (.ref m0_back))), (bk, .inr (12, [.int (nI nw), .int (nI nk), .int (nI nd), .int (nI np), .int (nI nf), .int (nI ne), .int (nI nn), .ref bk_knot, .ref bk_name, .ref bk_kind, .ref bk_number, .ref bk_from, .ref bk_to, .ref bk_hinder, .ref bk_size, .ref bk_walk, .ref bk_draught, .ref bk_doorIn, .ref bk_fanIn, .ref bk_faceIn, .ref bk_by, .ref bk_one, .ref bk_two, .ref bk_push, .ref bk_fall, .ref bk_cost, .ref bk_gas, .ref bk_need])), (bk_doorIn, .inl (k_bk_doorIn, 14, .inl f_bk_doorIn)), (bk_hinder, .inl (k_bk_hinder, 14, .inl f_bk_hinder)), (bk_by, .inl (k_bk_by, 6, .inl f_bk_by)), (m0_isOpen, .inl (k_m0_isOpen, 6, .inl f_m0_isOpen)), (bk_draught, .inl (k_bk_draught, 14, .inl f_bk_draught)), (m0_fire, .inl (k_m0_fire, 14, .inl f_m0_fire)), (bk_fanIn, .inl (k_bk_fanIn, 14, .inl f_bk_fanIn)), (bk_push, .inl (k_bk_push, 4, .inl f_bk_push)), (m0_speed, .inl (k_m0_speed, 4, .inl f_m0_speed)), (bk_fall, .inl (k_bk_fall, 4, .inl f_bk_fall)), (m0_power, .inl (k_m0_power, 14, .inr (.inl f_m0_power)))] sz) [(m0, .inr (14, fX14 (.int m0_thrown) (.ref m0_power) (.int m0_trouble) (.int m0_where) (.int m0_fault) (.ref bk) fv (.ref sp) (.ref m0_tape) (.int (nI tp)) (.int m0_size) (.int m0_at) (.int m0_sort) (.int m0_place) (.int m0_mark) (.int m0_number) (.long m0_word) (.ref m0_isOpen) (.ref m0_isFallen) (.ref m0_speed) (.ref m0_fire) (.int m0_most) (.int m0_hindered) (.int m0_hinderedBy) (.ref m0_air) (.ref m0_cameBy) (.ref m0_least) (.ref m0_before) (.ref m0_gas) (.ref m0_into) (.ref m0_rest) (.ref m0_isTold) (.ref m0_isPast) (.ref m0_kept) (.ref m0_smoke) (.ref m0_early) (.int (nI mn)) (.ref m0_manAt) (.int (nI nc)) (.ref m0_changeKind) (.ref m0_changeOf) (.ref m0_changeTo) (.ref m0_row) (.ref m0_openWas) (.ref m0_fallenWas) (.ref m0_speedWas) (.int (nI nr)) (.ref m0_readingOf) (.ref m0_low) (.ref m0_high) (.ref m0_back))), (bk, .inr (12, [.int (nI nw), .int (nI nk), .int (nI nd), .int (nI np), .int (nI nf), .int (nI ne), .int (nI nn), .ref bk_knot, .ref bk_name, .ref bk_kind, .ref bk_number, .ref bk_from, .ref bk_to, .ref bk_hinder, .ref bk_size, .ref bk_walk, .ref bk_draught, .ref bk_doorIn, .ref bk_fanIn, .ref bk_faceIn, .ref bk_by, .ref bk_one, .ref bk_two, .ref bk_push, .ref bk_fall, .ref bk_cost, .ref bk_gas, .ref bk_need])), (bk_doorIn, .inl (k_bk_doorIn, 14, .inl f_bk_doorIn)), (bk_hinder, .inl (k_bk_hinder, 14, .inl f_bk_hinder)), (bk_by, .inl (k_bk_by, 6, .inl f_bk_by)), (m0_isOpen, .inl (k_m0_isOpen, 6, .inl f_m0_isOpen)), (bk_draught, .inl (k_bk_draught, 14, .inl f_bk_draught)), (m0_fire, .inl (k_m0_fire, 14, .inl f_m0_fire)), (bk_fanIn, .inl (k_bk_fanIn, 14, .inl f_bk_fanIn)), (bk_push, .inl (k_bk_push, 4, .inl f_bk_push)), (m0_speed, .inl (k_m0_speed, 4, .inl f_m0_speed)), (bk_fall, .inl (k_bk_fall, 4, .inl f_bk_fall)), (m0_power, .inl (k_m0_power, 14, .inr (.inl f_m0_power)))]) (va_A [(m0, .inr (14, fX14 (.int m0_thrown) (.ref m0_power) (.int m0_trouble) (.int m0_where) (.int m0_fault) (.ref bk) fv (.ref sp) (.ref m0_tape) (.int (nI tp)) (.int m0_size) (.int m0_at) (.int m0_sort) (.int m0_place) (.int m0_mark) (.int m0_number) (.long m0_word) (.ref m0_isOpen) (.ref m0_isFallen) (.ref m0_speed) (.ref m0_fire) (.int m0_most) (.int m0_hindered) (.int m0_hinderedBy) (.ref m0_air) (.ref m0_cameBy) (.ref m0_least) (.ref m0_before) (.ref m0_gas) (.ref m0_into) (.ref m0_rest) (.ref m0_isTold) (.ref m0_isPast) (.ref m0_kept) (.ref m0_smoke) (.ref m0_early) (.int (nI mn)) (.ref m0_manAt) (.int (nI nc)) (.ref m0_changeKind) (.ref m0_changeOf) (.ref m0_changeTo) (.ref m0_row) (.ref m0_openWas) (.ref m0_fallenWas) (.ref m0_speedWas) (.int (nI nr)) (.ref m0_readingOf) (.ref m0_low) (.ref m0_high) (.ref m0_back))), (bk, .inr (12, [.int (nI nw), .int (nI nk), .int (nI nd), .int (nI np), .int (nI nf), .int (nI ne), .int (nI nn), .ref bk_knot, .ref bk_name, .ref bk_kind, .ref bk_number, .ref bk_from, .ref bk_to, .ref bk_hinder, .ref bk_size, .ref bk_walk, .ref bk_draught, .ref bk_doorIn, .ref bk_fanIn, .ref bk_faceIn, .ref bk_by, .ref bk_one, .ref bk_two, .ref bk_push, .ref bk_fall, .ref bk_cost, .ref bk_gas, .ref bk_need])), (bk_doorIn, .inl (k_bk_doorIn, 14, .inl f_bk_doorIn)), (bk_hinder, .inl (k_bk_hinder, 14, .inl f_bk_hinder)), (bk_by, .inl (k_bk_by, 6, .inl f_bk_by)), (m0_isOpen, .inl (k_m0_isOpen, 6, .inl f_m0_isOpen)), (bk_draught, .inl (k_bk_draught, 14, .inl f_bk_draught)), (m0_fire, .inl (k_m0_fire, 14, .inl f_m0_fire)), (bk_fanIn, .inl (k_bk_fanIn, 14, .inl f_bk_fanIn)), (bk_push, .inl (k_bk_push, 4, .inl f_bk_push)), (m0_speed, .inl (k_m0_speed, 4, .inl f_m0_speed)), (bk_fall, .inl (k_bk_fall, 4, .inl f_bk_fall)), (m0_power, .inl (k_m0_power, 14, .inr (.inl f_m0_power)))] sz)) 0 0 (va_A [(m0, .inr (14, fX14 (.int m0_thrown) (.ref m0_power) (.int m0_trouble) (.int m0_where) (.int m0_fault) (.ref bk) fv (.ref sp) (.ref m0_tape) (.int (nI tp)) (.int m0_size) (.int m0_at) (.int m0_sort) (.int m0_place) (.int m0_mark) (.int m0_number) (.long m0_word) (.ref m0_isOpen) (.ref m0_isFallen) (.ref m0_speed) (.ref m0_fire) (.int m0_most) (.int m0_hindered) (.int m0_hinderedBy) (.ref m0_air) (.ref m0_cameBy) (.ref m0_least) (.ref m0_before) (.ref m0_gas) (.ref m0_into) (.ref m0_rest) (.ref m0_isTold) (.ref m0_isPast) (.ref m0_kept) (.ref m0_smoke) (.ref m0_early) (.int (nI mn)) (.ref m0_manAt) (.int (nI nc)) (.ref m0_changeKind) (.ref m0_changeOf) (.ref m0_changeTo) (.ref m0_row) (.ref m0_openWas) (.ref m0_fallenWas) (.ref m0_speedWas) (.int (nI nr)) (.ref m0_readingOf) (.ref m0_low) (.ref m0_high) (.ref m0_back))), (bk, .inr (12, [.int (nI nw), .int (nI nk), .int (nI nd), .int (nI np), .int (nI nf), .int (nI ne), .int (nI nn), .ref bk_knot, .ref bk_name, .ref bk_kind, .ref bk_number, .ref bk_from, .ref bk_to, .ref bk_hinder, .ref bk_size, .ref bk_walk, .ref bk_draught, .ref bk_doorIn, .ref bk_fanIn, .ref bk_faceIn, .ref bk_by, .ref bk_one, .ref bk_two, .ref bk_push, .ref bk_fall, .ref bk_cost, .ref bk_gas, .ref bk_need])), (bk_doorIn, .inl (k_bk_doorIn, 14, .inl f_bk_doorIn)), (bk_hinder, .inl (k_bk_hinder, 14, .inl f_bk_hinder)), (bk_by, .inl (k_bk_by, 6, .inl f_bk_by)), (m0_isOpen, .inl (k_m0_isOpen, 6, .inl f_m0_isOpen)), (bk_draught, .inl (k_bk_draught, 14, .inl f_bk_draught)), (m0_fire, .inl (k_m0_fire, 14, .inl f_m0_fire)), (bk_fanIn, .inl (k_bk_fanIn, 14, .inl f_bk_fanIn)), (bk_push, .inl (k_bk_push, 4, .inl f_bk_push)), (m0_speed, .inl (k_m0_speed, 4, .inl f_m0_speed)), (bk_fall, .inl (k_bk_fall, 4, .inl f_bk_fall)), (m0_power, .inl (k_m0_power, 14, .inr (.inl f_m0_power)))] sz) := by
  refine Met.ofW (cc := cX14_both) (maxL := 3) (ret := (some .long)) (by decide) rfl ?_
  intro p e s m args below meth c s₁ B hml hv
  obtain ⟨rfl, hsz, hn0, hG, hP, hK, hD0⟩ := hv
  have hx := B.exec
  have hb := B.bytes
  have hr := B.returns
  have hts := atoms_spec (ws := wM yX14_both cX14_both 3 (some .long)) B.pre
  have hown : s.vm.findClass RX14 = some m.cls := findClass_of_methodNamed B.named
  have hlocks := B.notSynchronized
  subst hsz
  have hD := hD0.self (sz := s.heap.size)
  have hA0 := vA_n0 hD0 hn0
  generalize hAe : va_A [(m0, .inr (14, fX14 (.int m0_thrown) (.ref m0_power) (.int m0_trouble) (.int m0_where) (.int m0_fault) (.ref bk) fv (.ref sp) (.ref m0_tape) (.int (nI tp)) (.int m0_size) (.int m0_at) (.int m0_sort) (.int m0_place) (.int m0_mark) (.int m0_number) (.long m0_word) (.ref m0_isOpen) (.ref m0_isFallen) (.ref m0_speed) (.ref m0_fire) (.int m0_most) (.int m0_hindered) (.int m0_hinderedBy) (.ref m0_air) (.ref m0_cameBy) (.ref m0_least) (.ref m0_before) (.ref m0_gas) (.ref m0_into) (.ref m0_rest) (.ref m0_isTold) (.ref m0_isPast) (.ref m0_kept) (.ref m0_smoke) (.ref m0_early) (.int (nI mn)) (.ref m0_manAt) (.int (nI nc)) (.ref m0_changeKind) (.ref m0_changeOf) (.ref m0_changeTo) (.ref m0_row) (.ref m0_openWas) (.ref m0_fallenWas) (.ref m0_speedWas) (.int (nI nr)) (.ref m0_readingOf) (.ref m0_low) (.ref m0_high) (.ref m0_back))), (bk, .inr (12, [.int (nI nw), .int (nI nk), .int (nI nd), .int (nI np), .int (nI nf), .int (nI ne), .int (nI nn), .ref bk_knot, .ref bk_name, .ref bk_kind, .ref bk_number, .ref bk_from, .ref bk_to, .ref bk_hinder, .ref bk_size, .ref bk_walk, .ref bk_draught, .ref bk_doorIn, .ref bk_fanIn, .ref bk_faceIn, .ref bk_by, .ref bk_one, .ref bk_two, .ref bk_push, .ref bk_fall, .ref bk_cost, .ref bk_gas, .ref bk_need])), (bk_doorIn, .inl (k_bk_doorIn, 14, .inl f_bk_doorIn)), (bk_hinder, .inl (k_bk_hinder, 14, .inl f_bk_hinder)), (bk_by, .inl (k_bk_by, 6, .inl f_bk_by)), (m0_isOpen, .inl (k_m0_isOpen, 6, .inl f_m0_isOpen)), (bk_draught, .inl (k_bk_draught, 14, .inl f_bk_draught)), (m0_fire, .inl (k_m0_fire, 14, .inl f_m0_fire)), (bk_fanIn, .inl (k_bk_fanIn, 14, .inl f_bk_fanIn)), (bk_push, .inl (k_bk_push, 4, .inl f_bk_push)), (m0_speed, .inl (k_m0_speed, 4, .inl f_m0_speed)), (bk_fall, .inl (k_bk_fall, 4, .inl f_bk_fall)), (m0_power, .inl (k_m0_power, 14, .inr (.inl f_m0_power)))] s.heap.size = A at hD hA0 ⊢
  have hA : ∀ q : Nat, s.heap.size ≤ q → A q := fun q h => by rw [← hAe]; exact Or.inr h
  have hS : va_S A s.heap s.heap [] := va_S.rf
  have hl := lv_entry ([.ref m0, .int w, .int q]) (n := 3) (Nat.le_of_ble_eq_true rfl)
  rw [lg_entry_eq]
  generalize (lg_sl ([.ref m0, .int w, .int q]) ++ List.replicate (3 - (lg_sl ([.ref m0, .int w, .int q])).length) Slot.unset).toArray = ls at hl ⊢
  have hl : lv_has ls 3 [(0, .ref m0), (1, .int w), (2, .int q)] := hl
  refine lv_aload_n hx hb dX14_both_0 rfl (lv_at hl 0 rfl) ?_
  refine lv_iload_n hx hb dX14_both_1 rfl (lv_at hl 1 rfl) ?_
  refine lv_iload_n hx hb dX14_both_2 rfl (lv_at hl 2 rfl) ?_
  obtain ⟨hPc, hDc, hFc⟩ := s3_c (ws' := [(m0, .inr (14, fX14 (.int m0_thrown) (.ref m0_power) (.int m0_trouble) (.int m0_where) (.int m0_fault) (.ref bk) fv (.ref sp) (.ref m0_tape) (.int (nI tp)) (.int m0_size) (.int m0_at) (.int m0_sort) (.int m0_place) (.int m0_mark) (.int m0_number) (.long m0_word) (.ref m0_isOpen) (.ref m0_isFallen) (.ref m0_speed) (.ref m0_fire) (.int m0_most) (.int m0_hindered) (.int m0_hinderedBy) (.ref m0_air) (.ref m0_cameBy) (.ref m0_least) (.ref m0_before) (.ref m0_gas) (.ref m0_into) (.ref m0_rest) (.ref m0_isTold) (.ref m0_isPast) (.ref m0_kept) (.ref m0_smoke) (.ref m0_early) (.int (nI mn)) (.ref m0_manAt) (.int (nI nc)) (.ref m0_changeKind) (.ref m0_changeOf) (.ref m0_changeTo) (.ref m0_row) (.ref m0_openWas) (.ref m0_fallenWas) (.ref m0_speedWas) (.int (nI nr)) (.ref m0_readingOf) (.ref m0_low) (.ref m0_high) (.ref m0_back))), (bk, .inr (12, [.int (nI nw), .int (nI nk), .int (nI nd), .int (nI np), .int (nI nf), .int (nI ne), .int (nI nn), .ref bk_knot, .ref bk_name, .ref bk_kind, .ref bk_number, .ref bk_from, .ref bk_to, .ref bk_hinder, .ref bk_size, .ref bk_walk, .ref bk_draught, .ref bk_doorIn, .ref bk_fanIn, .ref bk_faceIn, .ref bk_by, .ref bk_one, .ref bk_two, .ref bk_push, .ref bk_fall, .ref bk_cost, .ref bk_gas, .ref bk_need])), (bk_doorIn, .inl (k_bk_doorIn, 14, .inl f_bk_doorIn)), (bk_hinder, .inl (k_bk_hinder, 14, .inl f_bk_hinder)), (bk_by, .inl (k_bk_by, 6, .inl f_bk_by)), (m0_isOpen, .inl (k_m0_isOpen, 6, .inl f_m0_isOpen)), (bk_draught, .inl (k_bk_draught, 14, .inl f_bk_draught)), (m0_fire, .inl (k_m0_fire, 14, .inl f_m0_fire)), (bk_fanIn, .inl (k_bk_fanIn, 14, .inl f_bk_fanIn)), (bk_push, .inl (k_bk_push, 4, .inl f_bk_push)), (m0_speed, .inl (k_m0_speed, 4, .inl f_m0_speed)), (bk_fall, .inl (k_bk_fall, 4, .inl f_bk_fall))]) [0, 1, 2, 3, 4, 5, 6, 7, 8, 9, 10, 11] hP hD hS hA rfl (by decide)
  have hKc := hK.sub (tys' := [(k_bk_doorIn, .int), (k_bk_hinder, .int), (k_bk_by, .int), (k_m0_isOpen, .boolean), (k_bk_draught, .int), (k_m0_fire, .int), (k_bk_fanIn, .int), (k_bk_push, .int), (k_m0_speed, .int), (k_bk_fall, .int)]) [0, 1, 2, 3, 4, 5, 6, 7, 8, 9] rfl
  refine va_calll (va_runV (As := [.int w, .int q]) (rest := []) ⟨hx, hb, hml, hown, hts⟩ (m_step l dC dI n0 atx s.heap.size m0 m0_thrown m0_power m0_trouble m0_where m0_fault bk fv sp m0_tape tp m0_size m0_at m0_sort m0_place m0_mark m0_number m0_word m0_isOpen m0_isFallen m0_speed m0_fire m0_most m0_hindered m0_hinderedBy m0_air m0_cameBy m0_least m0_before m0_gas m0_into m0_rest m0_isTold m0_isPast m0_kept m0_smoke m0_early mn m0_manAt nc m0_changeKind m0_changeOf m0_changeTo m0_row m0_openWas m0_fallenWas m0_speedWas nr m0_readingOf m0_low m0_high m0_back nw nk nd np nf ne nn bk_knot bk_name bk_kind bk_number bk_from bk_to bk_hinder bk_size bk_walk bk_draught bk_doorIn bk_fanIn bk_faceIn bk_by bk_one bk_two bk_push bk_fall bk_cost bk_gas bk_need k_bk_doorIn f_bk_doorIn k_bk_hinder f_bk_hinder k_bk_by f_bk_by k_m0_isOpen f_m0_isOpen k_bk_draught f_bk_draught k_m0_fire f_m0_fire k_bk_fanIn f_bk_fanIn k_bk_push f_bk_push k_m0_speed f_m0_speed k_bk_fall f_bk_fall w q (by first | with_reducible assumption | omega | exact vp_in_iff.mpr (by omega) | exact vp_in_nI (by omega) (by omega) | exact ⟨by omega, by omega⟩) (by first | with_reducible assumption | omega | exact vp_in_iff.mpr (by omega) | exact vp_in_nI (by omega) (by omega) | exact ⟨by omega, by omega⟩) (by first | with_reducible assumption | omega | exact vp_in_iff.mpr (by omega) | exact vp_in_nI (by omega) (by omega) | exact ⟨by omega, by omega⟩)) (cwV 2 hts (gV (fun w h => wM_c h) wd_1938 wd_1935 wd_1937 wd_91 wd_127) rfl rfl rfl (by decide +kernel) ⟨Nat.le_of_ble_eq_true rfl, Nat.le_of_ble_eq_true rfl⟩) ⟨fun a U g mk q => by obtain ⟨q0, q1, q2, qG, qP, qK, qD⟩ := q; exact ⟨q0, q1, q2, GW.blind qG, qP, va_K.moved (u := U) (U := U.calling g mk a) (Vm.Alike.refl U.vm) qK, qD⟩, va_recv hKc hPc (ci := 14) (q0 := 0) rfl rfl, fun U hU hW => ⟨rfl, by rw [hU], Nat.le_trans hn0 hS.1, GW.go hW hU hG (fun q hq hA9 => hS.2.1 q hq (fun h => hA9 (hA0 q h))), by rw [hU]; exact hPc, va_K.moved hW.alike hKc, hDc.weaken (fun _ _ _ h => hA0 _ h)⟩⟩ rfl rfl hl.1 rfl (lv_room (Nat.le_of_ble_eq_true rfl)) dX14_both_3 ⟨Nat.le_of_ble_eq_true rfl, Nat.le_of_ble_eq_true rfl⟩) hS (fun q _ h => hFc q h) hFc (fun r_1 u t H1 locs ht hvm hw_2 hB hz1 hk1 hS => ?_)
  obtain ⟨hP1, hK1, hD1⟩ := hB
  rw [ht] at hP1
  obtain ⟨hP, hD⟩ := s3_j (L := [(m0_power, .inl (k_m0_power, 14, .inr (.inl f_m0_power))), (m0, .inr (14, fX14 (.int m0_thrown) (.ref m0_power) (.int m0_trouble) (.int m0_where) (.int m0_fault) (.ref bk) fv (.ref sp) (.ref m0_tape) (.int (nI tp)) (.int m0_size) (.int m0_at) (.int m0_sort) (.int m0_place) (.int m0_mark) (.int m0_number) (.long m0_word) (.ref m0_isOpen) (.ref m0_isFallen) (.ref m0_speed) (.ref m0_fire) (.int m0_most) (.int m0_hindered) (.int m0_hinderedBy) (.ref m0_air) (.ref m0_cameBy) (.ref m0_least) (.ref m0_before) (.ref m0_gas) (.ref m0_into) (.ref m0_rest) (.ref m0_isTold) (.ref m0_isPast) (.ref m0_kept) (.ref m0_smoke) (.ref m0_early) (.int (nI mn)) (.ref m0_manAt) (.int (nI nc)) (.ref m0_changeKind) (.ref m0_changeOf) (.ref m0_changeTo) (.ref m0_row) (.ref m0_openWas) (.ref m0_fallenWas) (.ref m0_speedWas) (.int (nI nr)) (.ref m0_readingOf) (.ref m0_low) (.ref m0_high) (.ref m0_back))), (bk, .inr (12, [.int (nI nw), .int (nI nk), .int (nI nd), .int (nI np), .int (nI nf), .int (nI ne), .int (nI nn), .ref bk_knot, .ref bk_name, .ref bk_kind, .ref bk_number, .ref bk_from, .ref bk_to, .ref bk_hinder, .ref bk_size, .ref bk_walk, .ref bk_draught, .ref bk_doorIn, .ref bk_fanIn, .ref bk_faceIn, .ref bk_by, .ref bk_one, .ref bk_two, .ref bk_push, .ref bk_fall, .ref bk_cost, .ref bk_gas, .ref bk_need])), (bk_doorIn, .inl (k_bk_doorIn, 14, .inl f_bk_doorIn)), (bk_hinder, .inl (k_bk_hinder, 14, .inl f_bk_hinder)), (bk_by, .inl (k_bk_by, 6, .inl f_bk_by)), (m0_isOpen, .inl (k_m0_isOpen, 6, .inl f_m0_isOpen)), (bk_draught, .inl (k_bk_draught, 14, .inl f_bk_draught)), (m0_fire, .inl (k_m0_fire, 14, .inl f_m0_fire)), (bk_fanIn, .inl (k_bk_fanIn, 14, .inl f_bk_fanIn)), (bk_push, .inl (k_bk_push, 4, .inl f_bk_push)), (m0_speed, .inl (k_m0_speed, 4, .inl f_m0_speed)), (bk_fall, .inl (k_bk_fall, 4, .inl f_bk_fall))]) 1 hP hD [0, 1, 2, 3, 4, 5, 6, 7, 8, 9, 10, 11] [12] hk1 hFc hP1 hD1 rfl rfl rfl (by decide) (by decide)
  generalize H1 = H at hP hS ⊢
  refine lv_bipush (v := 26) hx hb dX14_both_6 (by decide) ?_
  refine lv_lshl hx hb dX14_both_8 rfl ?_
  refine lv_topl (fun v_3 ev_3 => ?_)
  refine lv_iload_n hx hb dX14_both_9 rfl (lv_at hl 2 rfl) ?_
  refine lv_if_le (tgt := 22) hx hb dX14_both_10 (by decide) (fun c_4 => ?_) (fun c_4 => ?_)
  · skip
    have g_5 : q.toInt ≤ (0 : Int) := i_le c_4
    refine lv_aload_n hx hb dX14_both_22 rfl (lv_at hl 0 rfl) ?_
    refine va_get (D := (dC, dI)) (ci := 14) (v := .ref m0_power) (C := RX14) (T := TX14) (N := 51) hx hb hts (fun w h => wM_c (iX14 w h)) hown hK hP 1 rfl rfl 1 (by decide) (hts _ (wM_c wd_1454)) (fun _ h9 => h9) rfl dX14_both_23 ?_
    refine lv_iload_n hx hb dX14_both_26 rfl (lv_at hl 1 rfl) ?_
    refine va_lald hx hb hK hP 0 10 rfl rfl (by first | with_reducible assumption | exact vp_in_iff.mpr (by omega)) dX14_both_27 ?_
    refine lv_topl (fun v_6 ev_6 => ?_)
    refine lv_lneg hx hb dX14_both_28 ?_
    refine lv_topl (fun v_7 ev_7 => ?_)
    refine lv_ladd hx hb dX14_both_29 ?_
    refine lv_topl (fun v_8 ev_8 => ?_)
    have hK9 := hK.sub (tys' := [(k_bk_doorIn, .int), (k_bk_hinder, .int), (k_bk_by, .int), (k_m0_isOpen, .boolean), (k_bk_draught, .int), (k_m0_fire, .int), (k_bk_fanIn, .int), (k_bk_push, .int), (k_m0_speed, .int), (k_bk_fall, .int), (k_m0_power, .long)]) [0, 1, 2, 3, 4, 5, 6, 7, 8, 9, 10] rfl
    exact W.lret (v := v_8) hx hb hr (fun t ht hW => ⟨⟨v_8, (), rfl, (by subst hw_2; subst ev_3 ev_6 ev_7 ev_8; unfold bothF; rw [if_pos c_4]), by rw [ht]; exact hP.sub [1, 2, 3, 4, 5, 6, 7, 8, 9, 10, 11, 12, 0] rfl, va_K.moved hW.alike hK9, hD.sub [1, 2, 3, 4, 5, 6, 7, 8, 9, 10, 11, 12, 0] (by decide) rfl⟩, hS.F ht⟩) hS.2.2 dX14_both_30
  · skip
    have g_9 : (0 : Int) < q.toInt := i_nle c_4
    refine lv_aload_n hx hb dX14_both_13 rfl (lv_at hl 0 rfl) ?_
    refine va_get (D := (dC, dI)) (ci := 14) (v := .ref m0_power) (C := RX14) (T := TX14) (N := 51) hx hb hts (fun w h => wM_c (iX14 w h)) hown hK hP 1 rfl rfl 1 (by decide) (hts _ (wM_c wd_1454)) (fun _ h9 => h9) rfl dX14_both_14 ?_
    refine lv_iload_n hx hb dX14_both_17 rfl (lv_at hl 1 rfl) ?_
    refine va_lald hx hb hK hP 0 10 rfl rfl (by first | with_reducible assumption | exact vp_in_iff.mpr (by omega)) dX14_both_18 ?_
    refine lv_topl (fun v_10 ev_10 => ?_)
    refine lv_goto (tgt := 29) hx hb dX14_both_19 (by decide) ?_
    refine lv_ladd hx hb dX14_both_29 ?_
    refine lv_topl (fun v_11 ev_11 => ?_)
    have hK9 := hK.sub (tys' := [(k_bk_doorIn, .int), (k_bk_hinder, .int), (k_bk_by, .int), (k_m0_isOpen, .boolean), (k_bk_draught, .int), (k_m0_fire, .int), (k_bk_fanIn, .int), (k_bk_push, .int), (k_m0_speed, .int), (k_bk_fall, .int), (k_m0_power, .long)]) [0, 1, 2, 3, 4, 5, 6, 7, 8, 9, 10] rfl
    exact W.lret (v := v_11) hx hb hr (fun t ht hW => ⟨⟨v_11, (), rfl, (by subst hw_2; subst ev_3 ev_10 ev_11; unfold bothF; rw [if_neg c_4]), by rw [ht]; exact hP.sub [1, 2, 3, 4, 5, 6, 7, 8, 9, 10, 11, 12, 0] rfl, va_K.moved hW.alike hK9, hD.sub [1, 2, 3, 4, 5, 6, 7, 8, 9, 10, 11, 12, 0] (by decide) rfl⟩, hS.F ht⟩) hS.2.2 dX14_both_30
def mayF (fb fa : Nat → Int32) (w on : Int32) : Int32 := if fb w.toNatClampNeg = 0 then (if on = 0 then (if fa w.toNatClampNeg ≤ (-60) then 0 else 1) else (if 60 ≤ fa w.toNatClampNeg then 0 else 1)) else 0
set_option maxHeartbeats 4000000 in
set_option maxRecDepth 100000 in
theorem m_may (l : Launch) (dC : Nat → ClassId) (dI : Nat → Nat → Nat) (n0 : Nat) (atx : Nat → Nat × Nat) (sz : Nat) (m0 : Nat) (m0_thrown : Int32) (m0_power : Nat) (m0_trouble : Int32) (m0_where : Int32) (m0_fault : Int32) (bk : Nat) (fv : Value) (sp : Nat) (m0_tape : Nat) (tp : Nat) (m0_size : Int32) (m0_at : Int32) (m0_sort : Int32) (m0_place : Int32) (m0_mark : Int32) (m0_number : Int32) (m0_word : Int64) (m0_isOpen : Nat) (m0_isFallen : Nat) (m0_speed : Nat) (m0_fire : Nat) (m0_most : Int32) (m0_hindered : Int32) (m0_hinderedBy : Int32) (m0_air : Nat) (m0_cameBy : Nat) (m0_least : Nat) (m0_before : Nat) (m0_gas : Nat) (m0_into : Nat) (m0_rest : Nat) (m0_isTold : Nat) (m0_isPast : Nat) (m0_kept : Nat) (m0_smoke : Nat) (m0_early : Nat) (mn : Nat) (m0_manAt : Nat) (nc : Nat) (m0_changeKind : Nat) (m0_changeOf : Nat) (m0_changeTo : Nat) (m0_row : Nat) (m0_openWas : Nat) (m0_fallenWas : Nat) (m0_speedWas : Nat) (nr : Nat) (m0_readingOf : Nat) (m0_low : Nat) (m0_high : Nat) (m0_back : Nat) (k_m0_isFallen : ClassId) (f_m0_isFallen : Nat → Int32) (k_m0_air : ClassId) (f_m0_air : Nat → Int32) (w : Int32) (on : Int32) (hw : vp_in w 14) : Met l yX14_may (wM yX14_may cX14_may 3 (some .boolean)) ({ frames := 0, cells := 0, slots := 0, locals := 0 }) (va_Pc [.ref m0, .int w, .int on] (fun U => U.heap.size = sz ∧ n0 ≤ sz ∧ GW n0 atx U ∧ va_P (dC, dI) classes [(m0, .inr (14, fX14 (.int m0_thrown) (.ref m0_power) (.int m0_trouble) (.int m0_where) (.int m0_fault) (.ref bk) fv (.ref sp) (.ref m0_tape) (.int (nI tp)) (.int m0_size) (.int m0_at) (.int m0_sort) (.int m0_place) (.int m0_mark) (.int m0_number) (.long m0_word) (.ref m0_isOpen) (.ref m0_isFallen) (.ref m0_speed) (.ref m0_fire) (.int m0_most) (.int m0_hindered) (.int m0_hinderedBy) (.ref m0_air) (.ref m0_cameBy) (.ref m0_least) (.ref m0_before) (.ref m0_gas) (.ref m0_into) (.ref m0_rest) (.ref m0_isTold) (.ref m0_isPast) (.ref m0_kept) (.ref m0_smoke) (.ref m0_early) (.int (nI mn)) (.ref m0_manAt) (.int (nI nc)) (.ref m0_changeKind) (.ref m0_changeOf) (.ref m0_changeTo) (.ref m0_row) (.ref m0_openWas) (.ref m0_fallenWas) (.ref m0_speedWas) (.int (nI nr)) (.ref m0_readingOf) (.ref m0_low) (.ref m0_high) (.ref m0_back))), (m0_isFallen, .inl (k_m0_isFallen, 14, .inl f_m0_isFallen)), (m0_air, .inl (k_m0_air, 14, .inl f_m0_air))] U.heap ∧ va_K (dC, dI) classes [(k_m0_isFallen, .boolean), (k_m0_air, .int)] U ∧ va_D (fun q => n0 ≤ q) [(m0, .inr (14, fX14 (.int m0_thrown) (.ref m0_power) (.int m0_trouble) (.int m0_where) (.int m0_fault) (.ref bk) fv (.ref sp) (.ref m0_tape) (.int (nI tp)) (.int m0_size) (.int m0_at) (.int m0_sort) (.int m0_place) (.int m0_mark) (.int m0_number) (.long m0_word) (.ref m0_isOpen) (.ref m0_isFallen) (.ref m0_speed) (.ref m0_fire) (.int m0_most) (.int m0_hindered) (.int m0_hinderedBy) (.ref m0_air) (.ref m0_cameBy) (.ref m0_least) (.ref m0_before) (.ref m0_gas) (.ref m0_into) (.ref m0_rest) (.ref m0_isTold) (.ref m0_isPast) (.ref m0_kept) (.ref m0_smoke) (.ref m0_early) (.int (nI mn)) (.ref m0_manAt) (.int (nI nc)) (.ref m0_changeKind) (.ref m0_changeOf) (.ref m0_changeTo) (.ref m0_row) (.ref m0_openWas) (.ref m0_fallenWas) (.ref m0_speedWas) (.int (nI nr)) (.ref m0_readingOf) (.ref m0_low) (.ref m0_high) (.ref m0_back))), (m0_isFallen, .inl (k_m0_isFallen, 14, .inl f_m0_isFallen)), (m0_air, .inl (k_m0_air, 14, .inl f_m0_air))])) (va_Qi (fun (r : Int32) (_ : Unit) => r = mayF f_m0_isFallen f_m0_air w on) (fun (_ : Unit) (t : State) => va_P (dC, dI) classes [(m0, .inr (14, fX14 (.int m0_thrown) (.ref m0_power) (.int m0_trouble) (.int m0_where) (.int m0_fault) (.ref bk) fv (.ref sp) (.ref m0_tape) (.int (nI tp)) (.int m0_size) (.int m0_at) (.int m0_sort) (.int m0_place) (.int m0_mark) (.int m0_number) (.long m0_word) (.ref m0_isOpen) (.ref m0_isFallen) (.ref m0_speed) (.ref m0_fire) (.int m0_most) (.int m0_hindered) (.int m0_hinderedBy) (.ref m0_air) (.ref m0_cameBy) (.ref m0_least) (.ref m0_before) (.ref m0_gas) (.ref m0_into) (.ref m0_rest) (.ref m0_isTold) (.ref m0_isPast) (.ref m0_kept) (.ref m0_smoke) (.ref m0_early) (.int (nI mn)) (.ref m0_manAt) (.int (nI nc)) (.ref m0_changeKind) (.ref m0_changeOf) (.ref m0_changeTo) (.ref m0_row) (.ref m0_openWas) (.ref m0_fallenWas) (.ref m0_speedWas) (.int (nI nr)) (.ref m0_readingOf) (.ref m0_low) (.ref m0_high) (.ref m0_back))), (m0_isFallen, .inl (k_m0_isFallen, 14, .inl f_m0_isFallen)), (m0_air, .inl (k_m0_air, 14, .inl f_m0_air))] t.heap ∧ va_K (dC, dI) classes [(k_m0_isFallen, .boolean), (k_m0_air, .int)] t ∧ va_D (va_A [(m0, .inr (14, fX14 (.int m0_thrown) (.ref m0_power) (.int m0_trouble) (.int m0_where) (.int m0_fault) (.ref bk) fv (.ref sp) (.ref m0_tape) (.int (nI tp)) (.int m0_size) (.int m0_at) (.int m0_sort) (.int m0_place) (.int m0_mark) (.int m0_number) (.long m0_word) (.ref m0_isOpen) (.ref m0_isFallen) (.ref m0_speed) (.ref m0_fire) (.int m0_most) (.int m0_hindered) (.int m0_hinderedBy) (.ref m0_air) (.ref m0_cameBy) (.ref m0_least) (.ref m0_before) (.ref m0_gas) (.ref m0_into) (.ref m0_rest) (.ref m0_isTold) (.ref m0_isPast) (.ref m0_kept) (.ref m0_smoke) (.ref m0_early) (.int (nI mn)) (.ref m0_manAt) (.int (nI nc)) (.ref m0_changeKind) (.ref m0_changeOf) (.ref m0_changeTo) (.ref m0_row) (.ref m0_openWas) (.ref m0_fallenWas) (.ref m0_speedWas) (.int (nI nr)) (.ref m0_readingOf) (.ref m0_low) (.ref m0_high) (.ref m0_back))), (m0_isFallen, .inl (k_m0_isFallen, 14, .inl f_m0_isFallen)), (m0_air, .inl (k_m0_air, 14, .inl f_m0_air))] sz) [(m0, .inr (14, fX14 (.int m0_thrown) (.ref m0_power) (.int m0_trouble) (.int m0_where) (.int m0_fault) (.ref bk) fv (.ref sp) (.ref m0_tape) (.int (nI tp)) (.int m0_size) (.int m0_at) (.int m0_sort) (.int m0_place) (.int m0_mark) (.int m0_number) (.long m0_word) (.ref m0_isOpen) (.ref m0_isFallen) (.ref m0_speed) (.ref m0_fire) (.int m0_most) (.int m0_hindered) (.int m0_hinderedBy) (.ref m0_air) (.ref m0_cameBy) (.ref m0_least) (.ref m0_before) (.ref m0_gas) (.ref m0_into) (.ref m0_rest) (.ref m0_isTold) (.ref m0_isPast) (.ref m0_kept) (.ref m0_smoke) (.ref m0_early) (.int (nI mn)) (.ref m0_manAt) (.int (nI nc)) (.ref m0_changeKind) (.ref m0_changeOf) (.ref m0_changeTo) (.ref m0_row) (.ref m0_openWas) (.ref m0_fallenWas) (.ref m0_speedWas) (.int (nI nr)) (.ref m0_readingOf) (.ref m0_low) (.ref m0_high) (.ref m0_back))), (m0_isFallen, .inl (k_m0_isFallen, 14, .inl f_m0_isFallen)), (m0_air, .inl (k_m0_air, 14, .inl f_m0_air))]) (va_A [(m0, .inr (14, fX14 (.int m0_thrown) (.ref m0_power) (.int m0_trouble) (.int m0_where) (.int m0_fault) (.ref bk) fv (.ref sp) (.ref m0_tape) (.int (nI tp)) (.int m0_size) (.int m0_at) (.int m0_sort) (.int m0_place) (.int m0_mark) (.int m0_number) (.long m0_word) (.ref m0_isOpen) (.ref m0_isFallen) (.ref m0_speed) (.ref m0_fire) (.int m0_most) (.int m0_hindered) (.int m0_hinderedBy) (.ref m0_air) (.ref m0_cameBy) (.ref m0_least) (.ref m0_before) (.ref m0_gas) (.ref m0_into) (.ref m0_rest) (.ref m0_isTold) (.ref m0_isPast) (.ref m0_kept) (.ref m0_smoke) (.ref m0_early) (.int (nI mn)) (.ref m0_manAt) (.int (nI nc)) (.ref m0_changeKind) (.ref m0_changeOf) (.ref m0_changeTo) (.ref m0_row) (.ref m0_openWas) (.ref m0_fallenWas) (.ref m0_speedWas) (.int (nI nr)) (.ref m0_readingOf) (.ref m0_low) (.ref m0_high) (.ref m0_back))), (m0_isFallen, .inl (k_m0_isFallen, 14, .inl f_m0_isFallen)), (m0_air, .inl (k_m0_air, 14, .inl f_m0_air))] sz)) 0 0 (va_A [(m0, .inr (14, fX14 (.int m0_thrown) (.ref m0_power) (.int m0_trouble) (.int m0_where) (.int m0_fault) (.ref bk) fv (.ref sp) (.ref m0_tape) (.int (nI tp)) (.int m0_size) (.int m0_at) (.int m0_sort) (.int m0_place) (.int m0_mark) (.int m0_number) (.long m0_word) (.ref m0_isOpen) (.ref m0_isFallen) (.ref m0_speed) (.ref m0_fire) (.int m0_most) (.int m0_hindered) (.int m0_hinderedBy) (.ref m0_air) (.ref m0_cameBy) (.ref m0_least) (.ref m0_before) (.ref m0_gas) (.ref m0_into) (.ref m0_rest) (.ref m0_isTold) (.ref m0_isPast) (.ref m0_kept) (.ref m0_smoke) (.ref m0_early) (.int (nI mn)) (.ref m0_manAt) (.int (nI nc)) (.ref m0_changeKind) (.ref m0_changeOf) (.ref m0_changeTo) (.ref m0_row) (.ref m0_openWas) (.ref m0_fallenWas) (.ref m0_speedWas) (.int (nI nr)) (.ref m0_readingOf) (.ref m0_low) (.ref m0_high) (.ref m0_back))), (m0_isFallen, .inl (k_m0_isFallen, 14, .inl f_m0_isFallen)), (m0_air, .inl (k_m0_air, 14, .inl f_m0_air))] sz) := by
  refine Met.ofW (cc := cX14_may) (maxL := 3) (ret := (some .boolean)) (by decide) rfl ?_
  intro p e s m args below meth c s₁ B hml hv
  obtain ⟨rfl, hsz, hn0, hG, hP, hK, hD0⟩ := hv
  have hx := B.exec
  have hb := B.bytes
  have hr := B.returns
  have hts := atoms_spec (ws := wM yX14_may cX14_may 3 (some .boolean)) B.pre
  have hown : s.vm.findClass RX14 = some m.cls := findClass_of_methodNamed B.named
  have hlocks := B.notSynchronized
  subst hsz
  have hD := hD0.self (sz := s.heap.size)
  have hA0 := vA_n0 hD0 hn0
  generalize hAe : va_A [(m0, .inr (14, fX14 (.int m0_thrown) (.ref m0_power) (.int m0_trouble) (.int m0_where) (.int m0_fault) (.ref bk) fv (.ref sp) (.ref m0_tape) (.int (nI tp)) (.int m0_size) (.int m0_at) (.int m0_sort) (.int m0_place) (.int m0_mark) (.int m0_number) (.long m0_word) (.ref m0_isOpen) (.ref m0_isFallen) (.ref m0_speed) (.ref m0_fire) (.int m0_most) (.int m0_hindered) (.int m0_hinderedBy) (.ref m0_air) (.ref m0_cameBy) (.ref m0_least) (.ref m0_before) (.ref m0_gas) (.ref m0_into) (.ref m0_rest) (.ref m0_isTold) (.ref m0_isPast) (.ref m0_kept) (.ref m0_smoke) (.ref m0_early) (.int (nI mn)) (.ref m0_manAt) (.int (nI nc)) (.ref m0_changeKind) (.ref m0_changeOf) (.ref m0_changeTo) (.ref m0_row) (.ref m0_openWas) (.ref m0_fallenWas) (.ref m0_speedWas) (.int (nI nr)) (.ref m0_readingOf) (.ref m0_low) (.ref m0_high) (.ref m0_back))), (m0_isFallen, .inl (k_m0_isFallen, 14, .inl f_m0_isFallen)), (m0_air, .inl (k_m0_air, 14, .inl f_m0_air))] s.heap.size = A at hD hA0 ⊢
  have hA : ∀ q : Nat, s.heap.size ≤ q → A q := fun q h => by rw [← hAe]; exact Or.inr h
  have hS : va_S A s.heap s.heap [] := va_S.rf
  have hl := lv_entry ([.ref m0, .int w, .int on]) (n := 3) (Nat.le_of_ble_eq_true rfl)
  rw [lg_entry_eq]
  generalize (lg_sl ([.ref m0, .int w, .int on]) ++ List.replicate (3 - (lg_sl ([.ref m0, .int w, .int on])).length) Slot.unset).toArray = ls at hl ⊢
  have hl : lv_has ls 3 [(0, .ref m0), (1, .int w), (2, .int on)] := hl
  refine lv_aload_n hx hb dX14_may_0 rfl (lv_at hl 0 rfl) ?_
  refine va_get (D := (dC, dI)) (ci := 14) (v := .ref m0_isFallen) (C := RX14) (T := TX14) (N := 51) hx hb hts (fun w h => wM_c (iX14 w h)) hown hK hP 0 rfl rfl 18 (by decide) (hts _ (wM_c wd_1471)) (fun _ h9 => h9) rfl dX14_may_1 ?_
  refine lv_iload_n hx hb dX14_may_4 rfl (lv_at hl 1 rfl) ?_
  refine va_zald hx hb hK hP 1 0 rfl rfl (by first | with_reducible assumption | exact vp_in_iff.mpr (by omega)) dX14_may_5 ?_
  refine lv_topi (fun v_1 ev_1 => ?_)
  refine lv_if_ne (tgt := 42) hx hb dX14_may_6 (by decide) (fun c_2 => ?_) (fun c_2 => ?_)
  · skip
    have g_3 : v_1.toInt ≠ (0 : Int) := i_ne c_2
    refine lv_iconst (v := 0) hx hb dX14_may_42 (by decide) ?_
    have hK9 := hK.sub (tys' := [(k_m0_isFallen, .boolean), (k_m0_air, .int)]) [0, 1] rfl
    exact W.zret (v := 0) hx hb hr rfl (fun t ht hW => ⟨⟨0, (), rfl, (by subst ev_1; unfold mayF; rw [if_neg c_2]), by rw [ht]; exact hP.sub [0, 1, 2] rfl, va_K.moved hW.alike hK9, hD.sub [0, 1, 2] (by decide) rfl⟩, hS.F ht⟩) hS.2.2 dX14_may_43
  · skip
    have g_4 : v_1.toInt = (0 : Int) := i_eq c_2
    refine lv_iload_n hx hb dX14_may_9 rfl (lv_at hl 2 rfl) ?_
    refine lv_if_eq (tgt := 27) hx hb dX14_may_10 (by decide) (fun c_5 => ?_) (fun c_5 => ?_)
    · skip
      have g_6 : on.toInt = (0 : Int) := i_eq c_5
      refine lv_aload_n hx hb dX14_may_27 rfl (lv_at hl 0 rfl) ?_
      refine va_get (D := (dC, dI)) (ci := 14) (v := .ref m0_air) (C := RX14) (T := TX14) (N := 51) hx hb hts (fun w h => wM_c (iX14 w h)) hown hK hP 0 rfl rfl 24 (by decide) (hts _ (wM_c wd_1477)) (fun _ h9 => h9) rfl dX14_may_28 ?_
      refine lv_iload_n hx hb dX14_may_31 rfl (lv_at hl 1 rfl) ?_
      refine va_iald hx hb hK hP 2 1 rfl rfl (by first | with_reducible assumption | exact vp_in_iff.mpr (by omega)) dX14_may_32 ?_
      refine lv_topi (fun v_7 ev_7 => ?_)
      refine lv_bipush (v := (-60)) hx hb dX14_may_33 (by decide) ?_
      refine lv_icmp_le (tgt := 42) hx hb dX14_may_35 (by decide) (fun c_8 => ?_) (fun c_8 => ?_)
      · skip
        have g_9 : v_7.toInt ≤ (-60 : Int) := i_le c_8
        refine lv_iconst (v := 0) hx hb dX14_may_42 (by decide) ?_
        have hK9 := hK.sub (tys' := [(k_m0_isFallen, .boolean), (k_m0_air, .int)]) [0, 1] rfl
        exact W.zret (v := 0) hx hb hr rfl (fun t ht hW => ⟨⟨0, (), rfl, (by subst ev_1 ev_7; unfold mayF; rw [if_pos c_2, if_pos c_5, if_pos c_8]), by rw [ht]; exact hP.sub [0, 1, 2] rfl, va_K.moved hW.alike hK9, hD.sub [0, 1, 2] (by decide) rfl⟩, hS.F ht⟩) hS.2.2 dX14_may_43
      · skip
        have g_10 : (-60 : Int) < v_7.toInt := i_nle c_8
        refine lv_iconst (v := 1) hx hb dX14_may_38 (by decide) ?_
        refine lv_goto (tgt := 43) hx hb dX14_may_39 (by decide) ?_
        have hK9 := hK.sub (tys' := [(k_m0_isFallen, .boolean), (k_m0_air, .int)]) [0, 1] rfl
        exact W.zret (v := 1) hx hb hr rfl (fun t ht hW => ⟨⟨1, (), rfl, (by subst ev_1 ev_7; unfold mayF; rw [if_pos c_2, if_pos c_5, if_neg c_8]), by rw [ht]; exact hP.sub [0, 1, 2] rfl, va_K.moved hW.alike hK9, hD.sub [0, 1, 2] (by decide) rfl⟩, hS.F ht⟩) hS.2.2 dX14_may_43
    · skip
      have g_11 : on.toInt ≠ (0 : Int) := i_ne c_5
      refine lv_aload_n hx hb dX14_may_13 rfl (lv_at hl 0 rfl) ?_
      refine va_get (D := (dC, dI)) (ci := 14) (v := .ref m0_air) (C := RX14) (T := TX14) (N := 51) hx hb hts (fun w h => wM_c (iX14 w h)) hown hK hP 0 rfl rfl 24 (by decide) (hts _ (wM_c wd_1477)) (fun _ h9 => h9) rfl dX14_may_14 ?_
      refine lv_iload_n hx hb dX14_may_17 rfl (lv_at hl 1 rfl) ?_
      refine va_iald hx hb hK hP 2 1 rfl rfl (by first | with_reducible assumption | exact vp_in_iff.mpr (by omega)) dX14_may_18 ?_
      refine lv_topi (fun v_12 ev_12 => ?_)
      refine lv_bipush (v := 60) hx hb dX14_may_19 (by decide) ?_
      refine lv_icmp_ge (tgt := 42) hx hb dX14_may_21 (by decide) (fun c_13 => ?_) (fun c_13 => ?_)
      · skip
        have g_14 : (60 : Int) ≤ v_12.toInt := i_le c_13
        refine lv_iconst (v := 0) hx hb dX14_may_42 (by decide) ?_
        have hK9 := hK.sub (tys' := [(k_m0_isFallen, .boolean), (k_m0_air, .int)]) [0, 1] rfl
        exact W.zret (v := 0) hx hb hr rfl (fun t ht hW => ⟨⟨0, (), rfl, (by subst ev_1 ev_12; unfold mayF; rw [if_pos c_2, if_neg c_5, if_pos c_13]), by rw [ht]; exact hP.sub [0, 1, 2] rfl, va_K.moved hW.alike hK9, hD.sub [0, 1, 2] (by decide) rfl⟩, hS.F ht⟩) hS.2.2 dX14_may_43
      · skip
        have g_15 : v_12.toInt < (60 : Int) := i_nle c_13
        refine lv_goto (tgt := 38) hx hb dX14_may_24 (by decide) ?_
        refine lv_iconst (v := 1) hx hb dX14_may_38 (by decide) ?_
        refine lv_goto (tgt := 43) hx hb dX14_may_39 (by decide) ?_
        have hK9 := hK.sub (tys' := [(k_m0_isFallen, .boolean), (k_m0_air, .int)]) [0, 1] rfl
        exact W.zret (v := 1) hx hb hr rfl (fun t ht hW => ⟨⟨1, (), rfl, (by subst ev_1 ev_12; unfold mayF; rw [if_pos c_2, if_neg c_5, if_neg c_13]), by rw [ht]; exact hP.sub [0, 1, 2] rfl, va_K.moved hW.alike hK9, hD.sub [0, 1, 2] (by decide) rfl⟩, hS.F ht⟩) hS.2.2 dX14_may_43
set_option maxHeartbeats 4000000 in
set_option maxRecDepth 100000 in
theorem m_abs (l : Launch) (dC : Nat → ClassId) (dI : Nat → Nat → Nat) (n0 : Nat) (atx : Nat → Nat × Nat) (sz : Nat) (v : Int32) : Met l yX14_abs (wM yX14_abs cX14_abs 1 (some .int)) ({ frames := 0, cells := 0, slots := 0, locals := 0 }) (va_Pc [.int v] (fun U => U.heap.size = sz ∧ n0 ≤ sz ∧ GW n0 atx U ∧ va_P (dC, dI) classes [] U.heap ∧ va_K (dC, dI) classes [] U ∧ va_D (fun q => n0 ≤ q) [])) (va_Qi (fun (r : Int32) (_ : Unit) => r = if 0 ≤ v then v else -v) (fun (_ : Unit) (t : State) => va_P (dC, dI) classes [] t.heap ∧ va_K (dC, dI) classes [] t ∧ va_D (va_A [] sz) []) (va_A [] sz)) 0 0 (va_A [] sz) := by
  refine Met.ofW (cc := cX14_abs) (maxL := 1) (ret := (some .int)) (by decide) rfl ?_
  intro p e s m args below meth c s₁ B hml hv
  obtain ⟨rfl, hsz, hn0, hG, hP, hK, hD0⟩ := hv
  have hx := B.exec
  have hb := B.bytes
  have hr := B.returns
  have hts := atoms_spec (ws := wM yX14_abs cX14_abs 1 (some .int)) B.pre
  have hown : s.vm.findClass RX14 = some m.cls := findClass_of_methodNamed B.named
  have hlocks := B.notSynchronized
  subst hsz
  have hD := hD0.self (sz := s.heap.size)
  have hA0 := vA_n0 hD0 hn0
  generalize hAe : va_A [] s.heap.size = A at hD hA0 ⊢
  have hA : ∀ q : Nat, s.heap.size ≤ q → A q := fun q h => by rw [← hAe]; exact Or.inr h
  have hS : va_S A s.heap s.heap [] := va_S.rf
  have hl := lv_entry ([.int v]) (n := 1) (Nat.le_of_ble_eq_true rfl)
  rw [lg_entry_eq]
  generalize (lg_sl ([.int v]) ++ List.replicate (1 - (lg_sl ([.int v])).length) Slot.unset).toArray = ls at hl ⊢
  have hl : lv_has ls 1 [(0, .int v)] := hl
  refine lv_iload_n hx hb dX14_abs_0 rfl (lv_at hl 0 rfl) ?_
  refine lv_if_ge (tgt := 9) hx hb dX14_abs_1 (by decide) (fun c_1 => ?_) (fun c_1 => ?_)
  · skip
    have g_2 : (0 : Int) ≤ v.toInt := i_le c_1
    refine lv_iload_n hx hb dX14_abs_9 rfl (lv_at hl 0 rfl) ?_
    have hK9 := hK.sub (tys' := []) [] rfl
    exact W.iret (v := v) hx hb hr (fun t ht hW => ⟨⟨v, (), rfl, (by show _ = _; rw [if_pos c_1]), by rw [ht]; exact hP.sub [] rfl, va_K.moved hW.alike hK9, hD.sub [] (by decide) rfl⟩, hS.F ht⟩) hS.2.2 dX14_abs_10
  · skip
    have g_3 : v.toInt < (0 : Int) := i_nle c_1
    refine lv_iload_n hx hb dX14_abs_4 rfl (lv_at hl 0 rfl) ?_
    refine lv_ineg hx hb dX14_abs_5 ?_
    refine lv_topi (fun v_4 ev_4 => ?_)
    refine lv_goto (tgt := 10) hx hb dX14_abs_6 (by decide) ?_
    have hK9 := hK.sub (tys' := []) [] rfl
    exact W.iret (v := v_4) hx hb hr (fun t ht hW => ⟨⟨v_4, (), rfl, (by subst ev_4; show _ = _; rw [if_neg c_1]), by rw [ht]; exact hP.sub [] rfl, va_K.moved hW.alike hK9, hD.sub [] (by decide) rfl⟩, hS.F ht⟩) hS.2.2 dX14_abs_10
