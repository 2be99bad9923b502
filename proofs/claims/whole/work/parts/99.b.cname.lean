theorem wd_8 : Cond.selects "MineAir$Reader" (⟨"MineAir$Reader", "isName", "()Z"⟩ : MethodName) (⟨"MineAir$Reader", "isName", "()Z"⟩ : MethodName) ∈ wG := wG_of 8 (by decide +kernel) (by decide +kernel)
theorem wd_9 : Cond.selects "MineAir$Reader" (⟨"MineAir$Reader", "miss", "(I)Z"⟩ : MethodName) (⟨"MineAir$Reader", "miss", "(I)Z"⟩ : MethodName) ∈ wG := wG_of 9 (by decide +kernel) (by decide +kernel)
theorem wd_10 : Cond.selects "MineAir$Reader" (⟨"MineAir$Reader", "nameIndex", "()I"⟩ : MethodName) (⟨"MineAir$Reader", "nameIndex", "()I"⟩ : MethodName) ∈ wG := wG_of 10 (by decide +kernel) (by decide +kernel)
theorem wd_342 : Cond.fieldLink "MineAir$Reader" 19 "MineAir$Reader" "nameKind" "[I" ∈ wG := wG_of 342 (by decide +kernel) (by decide +kernel)
theorem wd_343 : Cond.fieldLink "MineAir$Reader" 22 "MineAir$Reader" "nameNumber" "[I" ∈ wG := wG_of 343 (by decide +kernel) (by decide +kernel)
theorem wd_820 : Cond.methodLink "MineAir$Reader" 208 (⟨"MineAir$Reader", "isName", "()Z"⟩ : MethodName) ∈ wG := wG_of 820 (by decide +kernel) (by decide +kernel)
theorem wd_822 : Cond.instanceMethod (⟨"MineAir$Reader", "isName", "()Z"⟩ : MethodName) ∈ wG := wG_of 822 (by decide +kernel) (by decide +kernel)
theorem wd_823 : Cond.code (⟨"MineAir$Reader", "isName", "()Z"⟩ : MethodName) prog_9_method_18_code 1 (Option.some Jvm.ClassFile.FieldType.boolean) ∈ wG := wG_of 823 (by decide +kernel) (by decide +kernel)
theorem wd_828 : Cond.methodLink "MineAir$Reader" 88 (⟨"MineAir$Reader", "miss", "(I)Z"⟩ : MethodName) ∈ wG := wG_of 828 (by decide +kernel) (by decide +kernel)
theorem wd_830 : Cond.instanceMethod (⟨"MineAir$Reader", "miss", "(I)Z"⟩ : MethodName) ∈ wG := wG_of 830 (by decide +kernel) (by decide +kernel)
theorem wd_831 : Cond.code (⟨"MineAir$Reader", "miss", "(I)Z"⟩ : MethodName) prog_9_method_21_code 2 (Option.some Jvm.ClassFile.FieldType.boolean) ∈ wG := wG_of 831 (by decide +kernel) (by decide +kernel)
theorem wd_832 : Cond.methodLink "MineAir$Reader" 212 (⟨"MineAir$Reader", "nameIndex", "()I"⟩ : MethodName) ∈ wG := wG_of 832 (by decide +kernel) (by decide +kernel)
theorem wd_834 : Cond.instanceMethod (⟨"MineAir$Reader", "nameIndex", "()I"⟩ : MethodName) ∈ wG := wG_of 834 (by decide +kernel) (by decide +kernel)
theorem wd_835 : Cond.code (⟨"MineAir$Reader", "nameIndex", "()I"⟩ : MethodName) prog_9_method_19_code 2 (Option.some Jvm.ClassFile.FieldType.int) ∈ wG := wG_of 835 (by decide +kernel) (by decide +kernel)
theorem dX7_takeNewName_0 : decode cX7_takeNewName 0 = .ok (.aload_n 0, 1) := by decide +kernel
theorem dX7_takeNewName_1 : decode cX7_takeNewName 1 = .ok (.getfield 45, 3) := by decide +kernel
theorem dX7_takeNewName_4 : decode cX7_takeNewName 4 = .ok (.ifCond .eq 5, 3) := by decide +kernel
theorem dX7_takeNewName_7 : decode cX7_takeNewName 7 = .ok (.iconst 0, 1) := by decide +kernel
theorem dX7_takeNewName_8 : decode cX7_takeNewName 8 = .ok (.ireturn, 1) := by decide +kernel
theorem dX7_takeNewName_9 : decode cX7_takeNewName 9 = .ok (.aload_n 0, 1) := by decide +kernel
theorem dX7_takeNewName_10 : decode cX7_takeNewName 10 = .ok (.invokevirtual 208, 3) := by decide +kernel
theorem dX7_takeNewName_13 : decode cX7_takeNewName 13 = .ok (.ifCond .ne 12, 3) := by decide +kernel
theorem dX7_takeNewName_16 : decode cX7_takeNewName 16 = .ok (.aload_n 0, 1) := by decide +kernel
theorem dX7_takeNewName_17 : decode cX7_takeNewName 17 = .ok (.iconst 1, 1) := by decide +kernel
theorem dX7_takeNewName_18 : decode cX7_takeNewName 18 = .ok (.invokevirtual 88, 3) := by decide +kernel
theorem dX7_takeNewName_21 : decode cX7_takeNewName 21 = .ok (.pop, 1) := by decide +kernel
theorem dX7_takeNewName_22 : decode cX7_takeNewName 22 = .ok (.goto 40, 3) := by decide +kernel
theorem dX7_takeNewName_25 : decode cX7_takeNewName 25 = .ok (.aload_n 0, 1) := by decide +kernel
theorem dX7_takeNewName_26 : decode cX7_takeNewName 26 = .ok (.invokevirtual 212, 3) := by decide +kernel
theorem dX7_takeNewName_29 : decode cX7_takeNewName 29 = .ok (.iconst (-1), 1) := by decide +kernel
theorem dX7_takeNewName_30 : decode cX7_takeNewName 30 = .ok (.if_icmp .eq 12, 3) := by decide +kernel
theorem dX7_takeNewName_33 : decode cX7_takeNewName 33 = .ok (.aload_n 0, 1) := by decide +kernel
theorem dX7_takeNewName_34 : decode cX7_takeNewName 34 = .ok (.iconst 3, 1) := by decide +kernel
theorem dX7_takeNewName_35 : decode cX7_takeNewName 35 = .ok (.invokevirtual 88, 3) := by decide +kernel
theorem dX7_takeNewName_38 : decode cX7_takeNewName 38 = .ok (.pop, 1) := by decide +kernel
theorem dX7_takeNewName_39 : decode cX7_takeNewName 39 = .ok (.goto 23, 3) := by decide +kernel
theorem dX7_takeNewName_42 : decode cX7_takeNewName 42 = .ok (.iload_n 2, 1) := by decide +kernel
theorem dX7_takeNewName_43 : decode cX7_takeNewName 43 = .ok (.iload_n 3, 1) := by decide +kernel
theorem dX7_takeNewName_44 : decode cX7_takeNewName 44 = .ok (.if_icmp .ge 12, 3) := by decide +kernel
theorem dX7_takeNewName_47 : decode cX7_takeNewName 47 = .ok (.aload_n 0, 1) := by decide +kernel
theorem dX7_takeNewName_48 : decode cX7_takeNewName 48 = .ok (.getfield 42, 3) := by decide +kernel
theorem dX7_takeNewName_51 : decode cX7_takeNewName 51 = .ok (.bipush 28, 2) := by decide +kernel
theorem dX7_takeNewName_53 : decode cX7_takeNewName 53 = .ok (.if_icmp .lt 9, 3) := by decide +kernel
theorem dX7_takeNewName_56 : decode cX7_takeNewName 56 = .ok (.aload_n 0, 1) := by decide +kernel
theorem dX7_takeNewName_57 : decode cX7_takeNewName 57 = .ok (.iconst 5, 1) := by decide +kernel
theorem dX7_takeNewName_58 : decode cX7_takeNewName 58 = .ok (.invokevirtual 88, 3) := by decide +kernel
theorem dX7_takeNewName_61 : decode cX7_takeNewName 61 = .ok (.pop, 1) := by decide +kernel
theorem dX7_takeNewName_62 : decode cX7_takeNewName 62 = .ok (.aload_n 0, 1) := by decide +kernel
theorem dX7_takeNewName_63 : decode cX7_takeNewName 63 = .ok (.getfield 45, 3) := by decide +kernel
theorem dX7_takeNewName_66 : decode cX7_takeNewName 66 = .ok (.ifCond .eq 5, 3) := by decide +kernel
theorem dX7_takeNewName_69 : decode cX7_takeNewName 69 = .ok (.iconst 0, 1) := by decide +kernel
theorem dX7_takeNewName_70 : decode cX7_takeNewName 70 = .ok (.ireturn, 1) := by decide +kernel
theorem dX7_takeNewName_71 : decode cX7_takeNewName 71 = .ok (.aload_n 0, 1) := by decide +kernel
theorem dX7_takeNewName_72 : decode cX7_takeNewName 72 = .ok (.getfield 15, 3) := by decide +kernel
theorem dX7_takeNewName_75 : decode cX7_takeNewName 75 = .ok (.aload_n 0, 1) := by decide +kernel
theorem dX7_takeNewName_76 : decode cX7_takeNewName 76 = .ok (.getfield 42, 3) := by decide +kernel
theorem dX7_takeNewName_79 : decode cX7_takeNewName 79 = .ok (.aload_n 0, 1) := by decide +kernel
theorem dX7_takeNewName_80 : decode cX7_takeNewName 80 = .ok (.getfield 215, 3) := by decide +kernel
theorem dX7_takeNewName_83 : decode cX7_takeNewName 83 = .ok (.lastore, 1) := by decide +kernel
theorem dX7_takeNewName_84 : decode cX7_takeNewName 84 = .ok (.aload_n 0, 1) := by decide +kernel
theorem dX7_takeNewName_85 : decode cX7_takeNewName 85 = .ok (.getfield 19, 3) := by decide +kernel
theorem dX7_takeNewName_88 : decode cX7_takeNewName 88 = .ok (.aload_n 0, 1) := by decide +kernel
theorem dX7_takeNewName_89 : decode cX7_takeNewName 89 = .ok (.getfield 42, 3) := by decide +kernel
theorem dX7_takeNewName_92 : decode cX7_takeNewName 92 = .ok (.iload_n 1, 1) := by decide +kernel
theorem dX7_takeNewName_93 : decode cX7_takeNewName 93 = .ok (.iastore, 1) := by decide +kernel
theorem dX7_takeNewName_94 : decode cX7_takeNewName 94 = .ok (.aload_n 0, 1) := by decide +kernel
theorem dX7_takeNewName_95 : decode cX7_takeNewName 95 = .ok (.getfield 22, 3) := by decide +kernel
theorem dX7_takeNewName_98 : decode cX7_takeNewName 98 = .ok (.aload_n 0, 1) := by decide +kernel
theorem dX7_takeNewName_99 : decode cX7_takeNewName 99 = .ok (.getfield 42, 3) := by decide +kernel
theorem dX7_takeNewName_102 : decode cX7_takeNewName 102 = .ok (.iload_n 2, 1) := by decide +kernel
theorem dX7_takeNewName_103 : decode cX7_takeNewName 103 = .ok (.iastore, 1) := by decide +kernel
theorem dX7_takeNewName_104 : decode cX7_takeNewName 104 = .ok (.aload_n 0, 1) := by decide +kernel
theorem dX7_takeNewName_105 : decode cX7_takeNewName 105 = .ok (.dup, 1) := by decide +kernel
theorem dX7_takeNewName_106 : decode cX7_takeNewName 106 = .ok (.getfield 42, 3) := by decide +kernel
theorem dX7_takeNewName_109 : decode cX7_takeNewName 109 = .ok (.iconst 1, 1) := by decide +kernel
theorem dX7_takeNewName_110 : decode cX7_takeNewName 110 = .ok (.iadd, 1) := by decide +kernel
theorem dX7_takeNewName_111 : decode cX7_takeNewName 111 = .ok (.putfield 42, 3) := by decide +kernel
theorem dX7_takeNewName_114 : decode cX7_takeNewName 114 = .ok (.aload_n 0, 1) := by decide +kernel
theorem dX7_takeNewName_115 : decode cX7_takeNewName 115 = .ok (.invokevirtual 56, 3) := by decide +kernel
theorem dX7_takeNewName_118 : decode cX7_takeNewName 118 = .ok (.iload_n 2, 1) := by decide +kernel
theorem dX7_takeNewName_119 : decode cX7_takeNewName 119 = .ok (.ireturn, 1) := by decide +kernel
