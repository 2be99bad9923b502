theorem wd_4 : Cond.selects "MineAir$Reader" (⟨"MineAir$Reader", "takeWord", "(Ljava/lang/String;)Z"⟩ : MethodName) (⟨"MineAir$Reader", "takeWord", "(Ljava/lang/String;)Z"⟩ : MethodName) ∈ wG := wG_of 4 (by decide +kernel) (by decide +kernel)
theorem wd_12 : Cond.selects "MineAir$Reader" (⟨"MineAir$Reader", "knotNumber", "()I"⟩ : MethodName) (⟨"MineAir$Reader", "knotNumber", "()I"⟩ : MethodName) ∈ wG := wG_of 12 (by decide +kernel) (by decide +kernel)
theorem wd_13 : Cond.selects "MineAir$Reader" (⟨"MineAir$Reader", "addKnot", "()I"⟩ : MethodName) (⟨"MineAir$Reader", "addKnot", "()I"⟩ : MethodName) ∈ wG := wG_of 13 (by decide +kernel) (by decide +kernel)
theorem wd_18 : Cond.selects "MineAir$Reader" (⟨"MineAir$Reader", "findTold", "(I)I"⟩ : MethodName) (⟨"MineAir$Reader", "findTold", "(I)I"⟩ : MethodName) ∈ wG := wG_of 18 (by decide +kernel) (by decide +kernel)
theorem wd_291 : Cond.fieldLink "MineAir$Reader" 233 "MineAir$Book" "day" "I" ∈ wG := wG_of 291 (by decide +kernel) (by decide +kernel)
theorem wd_753 : Cond.methodLink "MineAir$Reader" 61 (⟨"MineAir$Reader", "takeWord", "(Ljava/lang/String;)Z"⟩ : MethodName) ∈ wG := wG_of 753 (by decide +kernel) (by decide +kernel)
theorem wd_755 : Cond.instanceMethod (⟨"MineAir$Reader", "takeWord", "(Ljava/lang/String;)Z"⟩ : MethodName) ∈ wG := wG_of 755 (by decide +kernel) (by decide +kernel)
theorem wd_756 : Cond.code (⟨"MineAir$Reader", "takeWord", "(Ljava/lang/String;)Z"⟩ : MethodName) prog_9_method_16_code 2 (Option.some Jvm.ClassFile.FieldType.boolean) ∈ wG := wG_of 756 (by decide +kernel) (by decide +kernel)
theorem wd_840 : Cond.methodLink "MineAir$Reader" 219 (⟨"MineAir$Reader", "knotNumber", "()I"⟩ : MethodName) ∈ wG := wG_of 840 (by decide +kernel) (by decide +kernel)
theorem wd_842 : Cond.instanceMethod (⟨"MineAir$Reader", "knotNumber", "()I"⟩ : MethodName) ∈ wG := wG_of 842 (by decide +kernel) (by decide +kernel)
theorem wd_843 : Cond.code (⟨"MineAir$Reader", "knotNumber", "()I"⟩ : MethodName) prog_9_method_20_code 2 (Option.some Jvm.ClassFile.FieldType.int) ∈ wG := wG_of 843 (by decide +kernel) (by decide +kernel)
theorem wd_844 : Cond.methodLink "MineAir$Reader" 222 (⟨"MineAir$Reader", "addKnot", "()I"⟩ : MethodName) ∈ wG := wG_of 844 (by decide +kernel) (by decide +kernel)
theorem wd_846 : Cond.instanceMethod (⟨"MineAir$Reader", "addKnot", "()I"⟩ : MethodName) ∈ wG := wG_of 846 (by decide +kernel) (by decide +kernel)
theorem wd_847 : Cond.code (⟨"MineAir$Reader", "addKnot", "()I"⟩ : MethodName) prog_9_method_11_code 2 (Option.some Jvm.ClassFile.FieldType.int) ∈ wG := wG_of 847 (by decide +kernel) (by decide +kernel)
theorem wd_870 : Cond.methodLink "MineAir$Reader" 159 (⟨"MineAir$Reader", "findTold", "(I)I"⟩ : MethodName) ∈ wG := wG_of 870 (by decide +kernel) (by decide +kernel)
theorem wd_872 : Cond.instanceMethod (⟨"MineAir$Reader", "findTold", "(I)I"⟩ : MethodName) ∈ wG := wG_of 872 (by decide +kernel) (by decide +kernel)
theorem wd_873 : Cond.code (⟨"MineAir$Reader", "findTold", "(I)I"⟩ : MethodName) prog_9_method_13_code 3 (Option.some Jvm.ClassFile.FieldType.int) ∈ wG := wG_of 873 (by decide +kernel) (by decide +kernel)
theorem dX7_addKnot_0 : decode cX7_addKnot 0 = .ok (.aload_n 0, 1) := by decide +kernel
theorem dX7_addKnot_1 : decode cX7_addKnot 1 = .ok (.getfield 28, 3) := by decide +kernel
theorem dX7_addKnot_4 : decode cX7_addKnot 4 = .ok (.getfield 225, 3) := by decide +kernel
theorem dX7_addKnot_7 : decode cX7_addKnot 7 = .ok (.istore_n 1, 1) := by decide +kernel
theorem dX7_addKnot_8 : decode cX7_addKnot 8 = .ok (.iload_n 1, 1) := by decide +kernel
theorem dX7_addKnot_9 : decode cX7_addKnot 9 = .ok (.bipush 10, 2) := by decide +kernel
theorem dX7_addKnot_11 : decode cX7_addKnot 11 = .ok (.if_icmp .lt 11, 3) := by decide +kernel
theorem dX7_addKnot_14 : decode cX7_addKnot 14 = .ok (.aload_n 0, 1) := by decide +kernel
theorem dX7_addKnot_15 : decode cX7_addKnot 15 = .ok (.iconst 5, 1) := by decide +kernel
theorem dX7_addKnot_16 : decode cX7_addKnot 16 = .ok (.invokevirtual 88, 3) := by decide +kernel
theorem dX7_addKnot_19 : decode cX7_addKnot 19 = .ok (.pop, 1) := by decide +kernel
theorem dX7_addKnot_20 : decode cX7_addKnot 20 = .ok (.iconst 0, 1) := by decide +kernel
theorem dX7_addKnot_21 : decode cX7_addKnot 21 = .ok (.ireturn, 1) := by decide +kernel
theorem dX7_addKnot_22 : decode cX7_addKnot 22 = .ok (.aload_n 0, 1) := by decide +kernel
theorem dX7_addKnot_23 : decode cX7_addKnot 23 = .ok (.getfield 25, 3) := by decide +kernel
theorem dX7_addKnot_26 : decode cX7_addKnot 26 = .ok (.iload_n 1, 1) := by decide +kernel
theorem dX7_addKnot_27 : decode cX7_addKnot 27 = .ok (.aload_n 0, 1) := by decide +kernel
theorem dX7_addKnot_28 : decode cX7_addKnot 28 = .ok (.getfield 215, 3) := by decide +kernel
theorem dX7_addKnot_31 : decode cX7_addKnot 31 = .ok (.lastore, 1) := by decide +kernel
theorem dX7_addKnot_32 : decode cX7_addKnot 32 = .ok (.aload_n 0, 1) := by decide +kernel
theorem dX7_addKnot_33 : decode cX7_addKnot 33 = .ok (.ldc 228, 2) := by decide +kernel
theorem dX7_addKnot_35 : decode cX7_addKnot 35 = .ok (.invokevirtual 230, 3) := by decide +kernel
theorem dX7_addKnot_38 : decode cX7_addKnot 38 = .ok (.ifCond .eq 11, 3) := by decide +kernel
theorem dX7_addKnot_41 : decode cX7_addKnot 41 = .ok (.aload_n 0, 1) := by decide +kernel
theorem dX7_addKnot_42 : decode cX7_addKnot 42 = .ok (.getfield 28, 3) := by decide +kernel
theorem dX7_addKnot_45 : decode cX7_addKnot 45 = .ok (.iload_n 1, 1) := by decide +kernel
theorem dX7_addKnot_46 : decode cX7_addKnot 46 = .ok (.putfield 233, 3) := by decide +kernel
theorem dX7_addKnot_49 : decode cX7_addKnot 49 = .ok (.aload_n 0, 1) := by decide +kernel
theorem dX7_addKnot_50 : decode cX7_addKnot 50 = .ok (.getfield 28, 3) := by decide +kernel
theorem dX7_addKnot_53 : decode cX7_addKnot 53 = .ok (.dup, 1) := by decide +kernel
theorem dX7_addKnot_54 : decode cX7_addKnot 54 = .ok (.getfield 225, 3) := by decide +kernel
theorem dX7_addKnot_57 : decode cX7_addKnot 57 = .ok (.iconst 1, 1) := by decide +kernel
theorem dX7_addKnot_58 : decode cX7_addKnot 58 = .ok (.iadd, 1) := by decide +kernel
theorem dX7_addKnot_59 : decode cX7_addKnot 59 = .ok (.putfield 225, 3) := by decide +kernel
theorem dX7_addKnot_62 : decode cX7_addKnot 62 = .ok (.iload_n 1, 1) := by decide +kernel
theorem dX7_addKnot_63 : decode cX7_addKnot 63 = .ok (.ireturn, 1) := by decide +kernel
theorem dX7_findTold_0 : decode cX7_findTold 0 = .ok (.aload_n 0, 1) := by decide +kernel
theorem dX7_findTold_1 : decode cX7_findTold 1 = .ok (.getfield 45, 3) := by decide +kernel
theorem dX7_findTold_4 : decode cX7_findTold 4 = .ok (.ifCond .eq 5, 3) := by decide +kernel
theorem dX7_findTold_7 : decode cX7_findTold 7 = .ok (.iconst 0, 1) := by decide +kernel
theorem dX7_findTold_8 : decode cX7_findTold 8 = .ok (.ireturn, 1) := by decide +kernel
theorem dX7_findTold_9 : decode cX7_findTold 9 = .ok (.aload_n 0, 1) := by decide +kernel
theorem dX7_findTold_10 : decode cX7_findTold 10 = .ok (.invokevirtual 208, 3) := by decide +kernel
theorem dX7_findTold_13 : decode cX7_findTold 13 = .ok (.ifCond .ne 11, 3) := by decide +kernel
theorem dX7_findTold_16 : decode cX7_findTold 16 = .ok (.aload_n 0, 1) := by decide +kernel
theorem dX7_findTold_17 : decode cX7_findTold 17 = .ok (.iconst 1, 1) := by decide +kernel
theorem dX7_findTold_18 : decode cX7_findTold 18 = .ok (.invokevirtual 88, 3) := by decide +kernel
theorem dX7_findTold_21 : decode cX7_findTold 21 = .ok (.pop, 1) := by decide +kernel
theorem dX7_findTold_22 : decode cX7_findTold 22 = .ok (.iconst 0, 1) := by decide +kernel
theorem dX7_findTold_23 : decode cX7_findTold 23 = .ok (.ireturn, 1) := by decide +kernel
theorem dX7_findTold_24 : decode cX7_findTold 24 = .ok (.aload_n 0, 1) := by decide +kernel
theorem dX7_findTold_25 : decode cX7_findTold 25 = .ok (.invokevirtual 212, 3) := by decide +kernel
theorem dX7_findTold_28 : decode cX7_findTold 28 = .ok (.istore_n 2, 1) := by decide +kernel
theorem dX7_findTold_29 : decode cX7_findTold 29 = .ok (.iload_n 2, 1) := by decide +kernel
theorem dX7_findTold_30 : decode cX7_findTold 30 = .ok (.iconst (-1), 1) := by decide +kernel
theorem dX7_findTold_31 : decode cX7_findTold 31 = .ok (.if_icmp .eq 13, 3) := by decide +kernel
theorem dX7_findTold_34 : decode cX7_findTold 34 = .ok (.aload_n 0, 1) := by decide +kernel
theorem dX7_findTold_35 : decode cX7_findTold 35 = .ok (.getfield 19, 3) := by decide +kernel
theorem dX7_findTold_38 : decode cX7_findTold 38 = .ok (.iload_n 2, 1) := by decide +kernel
theorem dX7_findTold_39 : decode cX7_findTold 39 = .ok (.iaload, 1) := by decide +kernel
theorem dX7_findTold_40 : decode cX7_findTold 40 = .ok (.iload_n 1, 1) := by decide +kernel
theorem dX7_findTold_41 : decode cX7_findTold 41 = .ok (.if_icmp .eq 11, 3) := by decide +kernel
theorem dX7_findTold_44 : decode cX7_findTold 44 = .ok (.aload_n 0, 1) := by decide +kernel
theorem dX7_findTold_45 : decode cX7_findTold 45 = .ok (.iconst 2, 1) := by decide +kernel
theorem dX7_findTold_46 : decode cX7_findTold 46 = .ok (.invokevirtual 88, 3) := by decide +kernel
theorem dX7_findTold_49 : decode cX7_findTold 49 = .ok (.pop, 1) := by decide +kernel
theorem dX7_findTold_50 : decode cX7_findTold 50 = .ok (.iconst 0, 1) := by decide +kernel
theorem dX7_findTold_51 : decode cX7_findTold 51 = .ok (.ireturn, 1) := by decide +kernel
theorem dX7_findTold_52 : decode cX7_findTold 52 = .ok (.aload_n 0, 1) := by decide +kernel
theorem dX7_findTold_53 : decode cX7_findTold 53 = .ok (.getfield 22, 3) := by decide +kernel
theorem dX7_findTold_56 : decode cX7_findTold 56 = .ok (.iload_n 2, 1) := by decide +kernel
theorem dX7_findTold_57 : decode cX7_findTold 57 = .ok (.iaload, 1) := by decide +kernel
theorem dX7_findTold_58 : decode cX7_findTold 58 = .ok (.ireturn, 1) := by decide +kernel
theorem dX7_takeDraught_0 : decode cX7_takeDraught 0 = .ok (.aload_n 0, 1) := by decide +kernel
theorem dX7_takeDraught_1 : decode cX7_takeDraught 1 = .ok (.getfield 45, 3) := by decide +kernel
theorem dX7_takeDraught_4 : decode cX7_takeDraught 4 = .ok (.ifCond .ne 12, 3) := by decide +kernel
theorem dX7_takeDraught_7 : decode cX7_takeDraught 7 = .ok (.aload_n 0, 1) := by decide +kernel
theorem dX7_takeDraught_8 : decode cX7_takeDraught 8 = .ok (.ldc 237, 2) := by decide +kernel
theorem dX7_takeDraught_10 : decode cX7_takeDraught 10 = .ok (.invokevirtual 230, 3) := by decide +kernel
theorem dX7_takeDraught_13 : decode cX7_takeDraught 13 = .ok (.ifCond .ne 5, 3) := by decide +kernel
theorem dX7_takeDraught_16 : decode cX7_takeDraught 16 = .ok (.iconst 0, 1) := by decide +kernel
theorem dX7_takeDraught_17 : decode cX7_takeDraught 17 = .ok (.ireturn, 1) := by decide +kernel
theorem dX7_takeDraught_18 : decode cX7_takeDraught 18 = .ok (.aload_n 0, 1) := by decide +kernel
theorem dX7_takeDraught_19 : decode cX7_takeDraught 19 = .ok (.invokevirtual 56, 3) := by decide +kernel
theorem dX7_takeDraught_22 : decode cX7_takeDraught 22 = .ok (.aload_n 0, 1) := by decide +kernel
theorem dX7_takeDraught_23 : decode cX7_takeDraught 23 = .ok (.getfield 92, 3) := by decide +kernel
theorem dX7_takeDraught_26 : decode cX7_takeDraught 26 = .ok (.iconst 4, 1) := by decide +kernel
theorem dX7_takeDraught_27 : decode cX7_takeDraught 27 = .ok (.if_icmp .ne 7, 3) := by decide +kernel
theorem dX7_takeDraught_30 : decode cX7_takeDraught 30 = .ok (.iconst 1, 1) := by decide +kernel
theorem dX7_takeDraught_31 : decode cX7_takeDraught 31 = .ok (.goto 4, 3) := by decide +kernel
theorem dX7_takeDraught_34 : decode cX7_takeDraught 34 = .ok (.iconst 0, 1) := by decide +kernel
theorem dX7_takeDraught_35 : decode cX7_takeDraught 35 = .ok (.istore_n 1, 1) := by decide +kernel
theorem dX7_takeDraught_36 : decode cX7_takeDraught 36 = .ok (.iload_n 1, 1) := by decide +kernel
theorem dX7_takeDraught_37 : decode cX7_takeDraught 37 = .ok (.ifCond .eq 7, 3) := by decide +kernel
theorem dX7_takeDraught_40 : decode cX7_takeDraught 40 = .ok (.aload_n 0, 1) := by decide +kernel
theorem dX7_takeDraught_41 : decode cX7_takeDraught 41 = .ok (.invokevirtual 56, 3) := by decide +kernel
theorem dX7_takeDraught_44 : decode cX7_takeDraught 44 = .ok (.aload_n 0, 1) := by decide +kernel
theorem dX7_takeDraught_45 : decode cX7_takeDraught 45 = .ok (.getfield 92, 3) := by decide +kernel
theorem dX7_takeDraught_48 : decode cX7_takeDraught 48 = .ok (.iconst 2, 1) := by decide +kernel
theorem dX7_takeDraught_49 : decode cX7_takeDraught 49 = .ok (.if_icmp .eq 11, 3) := by decide +kernel
theorem dX7_takeDraught_52 : decode cX7_takeDraught 52 = .ok (.aload_n 0, 1) := by decide +kernel
theorem dX7_takeDraught_53 : decode cX7_takeDraught 53 = .ok (.iconst 1, 1) := by decide +kernel
theorem dX7_takeDraught_54 : decode cX7_takeDraught 54 = .ok (.invokevirtual 88, 3) := by decide +kernel
theorem dX7_takeDraught_57 : decode cX7_takeDraught 57 = .ok (.pop, 1) := by decide +kernel
theorem dX7_takeDraught_58 : decode cX7_takeDraught 58 = .ok (.iconst 0, 1) := by decide +kernel
theorem dX7_takeDraught_59 : decode cX7_takeDraught 59 = .ok (.ireturn, 1) := by decide +kernel
theorem dX7_takeDraught_60 : decode cX7_takeDraught 60 = .ok (.aload_n 0, 1) := by decide +kernel
theorem dX7_takeDraught_61 : decode cX7_takeDraught 61 = .ok (.getfield 215, 3) := by decide +kernel
theorem dX7_takeDraught_64 : decode cX7_takeDraught 64 = .ok (.l2i, 1) := by decide +kernel
theorem dX7_takeDraught_65 : decode cX7_takeDraught 65 = .ok (.istore_n 2, 1) := by decide +kernel
theorem dX7_takeDraught_66 : decode cX7_takeDraught 66 = .ok (.iload_n 2, 1) := by decide +kernel
theorem dX7_takeDraught_67 : decode cX7_takeDraught 67 = .ok (.sipush 5000, 3) := by decide +kernel
theorem dX7_takeDraught_70 : decode cX7_takeDraught 70 = .ok (.if_icmp .le 12, 3) := by decide +kernel
theorem dX7_takeDraught_73 : decode cX7_takeDraught 73 = .ok (.aload_n 0, 1) := by decide +kernel
theorem dX7_takeDraught_74 : decode cX7_takeDraught 74 = .ok (.iconst 4, 1) := by decide +kernel
theorem dX7_takeDraught_75 : decode cX7_takeDraught 75 = .ok (.invokevirtual 88, 3) := by decide +kernel
theorem dX7_takeDraught_78 : decode cX7_takeDraught 78 = .ok (.pop, 1) := by decide +kernel
theorem dX7_takeDraught_79 : decode cX7_takeDraught 79 = .ok (.goto 7, 3) := by decide +kernel
theorem dX7_takeDraught_82 : decode cX7_takeDraught 82 = .ok (.aload_n 0, 1) := by decide +kernel
theorem dX7_takeDraught_83 : decode cX7_takeDraught 83 = .ok (.invokevirtual 56, 3) := by decide +kernel
theorem dX7_takeDraught_86 : decode cX7_takeDraught 86 = .ok (.iload_n 1, 1) := by decide +kernel
theorem dX7_takeDraught_87 : decode cX7_takeDraught 87 = .ok (.ifCond .eq 8, 3) := by decide +kernel
theorem dX7_takeDraught_90 : decode cX7_takeDraught 90 = .ok (.iload_n 2, 1) := by decide +kernel
theorem dX7_takeDraught_91 : decode cX7_takeDraught 91 = .ok (.ineg, 1) := by decide +kernel
theorem dX7_takeDraught_92 : decode cX7_takeDraught 92 = .ok (.goto 4, 3) := by decide +kernel
theorem dX7_takeDraught_95 : decode cX7_takeDraught 95 = .ok (.iload_n 2, 1) := by decide +kernel
theorem dX7_takeDraught_96 : decode cX7_takeDraught 96 = .ok (.ireturn, 1) := by decide +kernel
theorem dX7_takeKnot_0 : decode cX7_takeKnot 0 = .ok (.aload_n 0, 1) := by decide +kernel
theorem dX7_takeKnot_1 : decode cX7_takeKnot 1 = .ok (.getfield 45, 3) := by decide +kernel
theorem dX7_takeKnot_4 : decode cX7_takeKnot 4 = .ok (.ifCond .eq 5, 3) := by decide +kernel
theorem dX7_takeKnot_7 : decode cX7_takeKnot 7 = .ok (.iconst 0, 1) := by decide +kernel
theorem dX7_takeKnot_8 : decode cX7_takeKnot 8 = .ok (.ireturn, 1) := by decide +kernel
theorem dX7_takeKnot_9 : decode cX7_takeKnot 9 = .ok (.aload_n 0, 1) := by decide +kernel
theorem dX7_takeKnot_10 : decode cX7_takeKnot 10 = .ok (.invokevirtual 208, 3) := by decide +kernel
theorem dX7_takeKnot_13 : decode cX7_takeKnot 13 = .ok (.ifCond .ne 11, 3) := by decide +kernel
theorem dX7_takeKnot_16 : decode cX7_takeKnot 16 = .ok (.aload_n 0, 1) := by decide +kernel
theorem dX7_takeKnot_17 : decode cX7_takeKnot 17 = .ok (.iconst 1, 1) := by decide +kernel
theorem dX7_takeKnot_18 : decode cX7_takeKnot 18 = .ok (.invokevirtual 88, 3) := by decide +kernel
theorem dX7_takeKnot_21 : decode cX7_takeKnot 21 = .ok (.pop, 1) := by decide +kernel
theorem dX7_takeKnot_22 : decode cX7_takeKnot 22 = .ok (.iconst 0, 1) := by decide +kernel
theorem dX7_takeKnot_23 : decode cX7_takeKnot 23 = .ok (.ireturn, 1) := by decide +kernel
theorem dX7_takeKnot_24 : decode cX7_takeKnot 24 = .ok (.aload_n 0, 1) := by decide +kernel
theorem dX7_takeKnot_25 : decode cX7_takeKnot 25 = .ok (.invokevirtual 219, 3) := by decide +kernel
theorem dX7_takeKnot_28 : decode cX7_takeKnot 28 = .ok (.istore_n 2, 1) := by decide +kernel
theorem dX7_takeKnot_29 : decode cX7_takeKnot 29 = .ok (.iload_n 2, 1) := by decide +kernel
theorem dX7_takeKnot_30 : decode cX7_takeKnot 30 = .ok (.iconst (-1), 1) := by decide +kernel
theorem dX7_takeKnot_31 : decode cX7_takeKnot 31 = .ok (.if_icmp .ne 11, 3) := by decide +kernel
theorem dX7_takeKnot_34 : decode cX7_takeKnot 34 = .ok (.aload_n 0, 1) := by decide +kernel
theorem dX7_takeKnot_35 : decode cX7_takeKnot 35 = .ok (.invokevirtual 222, 3) := by decide +kernel
theorem dX7_takeKnot_38 : decode cX7_takeKnot 38 = .ok (.istore_n 2, 1) := by decide +kernel
theorem dX7_takeKnot_39 : decode cX7_takeKnot 39 = .ok (.goto 14, 3) := by decide +kernel
theorem dX7_takeKnot_42 : decode cX7_takeKnot 42 = .ok (.iload_n 2, 1) := by decide +kernel
theorem dX7_takeKnot_43 : decode cX7_takeKnot 43 = .ok (.iload_n 1, 1) := by decide +kernel
theorem dX7_takeKnot_44 : decode cX7_takeKnot 44 = .ok (.if_icmp .ne 9, 3) := by decide +kernel
theorem dX7_takeKnot_47 : decode cX7_takeKnot 47 = .ok (.aload_n 0, 1) := by decide +kernel
theorem dX7_takeKnot_48 : decode cX7_takeKnot 48 = .ok (.iconst 3, 1) := by decide +kernel
theorem dX7_takeKnot_49 : decode cX7_takeKnot 49 = .ok (.invokevirtual 88, 3) := by decide +kernel
theorem dX7_takeKnot_52 : decode cX7_takeKnot 52 = .ok (.pop, 1) := by decide +kernel
theorem dX7_takeKnot_53 : decode cX7_takeKnot 53 = .ok (.aload_n 0, 1) := by decide +kernel
theorem dX7_takeKnot_54 : decode cX7_takeKnot 54 = .ok (.getfield 45, 3) := by decide +kernel
theorem dX7_takeKnot_57 : decode cX7_takeKnot 57 = .ok (.ifCond .ne 7, 3) := by decide +kernel
theorem dX7_takeKnot_60 : decode cX7_takeKnot 60 = .ok (.aload_n 0, 1) := by decide +kernel
theorem dX7_takeKnot_61 : decode cX7_takeKnot 61 = .ok (.invokevirtual 56, 3) := by decide +kernel
theorem dX7_takeKnot_64 : decode cX7_takeKnot 64 = .ok (.iload_n 2, 1) := by decide +kernel
theorem dX7_takeKnot_65 : decode cX7_takeKnot 65 = .ok (.ireturn, 1) := by decide +kernel
theorem dX7_takePlace_0 : decode cX7_takePlace 0 = .ok (.aload_n 0, 1) := by decide +kernel
theorem dX7_takePlace_1 : decode cX7_takePlace 1 = .ok (.getfield 45, 3) := by decide +kernel
theorem dX7_takePlace_4 : decode cX7_takePlace 4 = .ok (.ifCond .eq 5, 3) := by decide +kernel
theorem dX7_takePlace_7 : decode cX7_takePlace 7 = .ok (.iconst 0, 1) := by decide +kernel
theorem dX7_takePlace_8 : decode cX7_takePlace 8 = .ok (.ireturn, 1) := by decide +kernel
theorem dX7_takePlace_9 : decode cX7_takePlace 9 = .ok (.aload_n 0, 1) := by decide +kernel
theorem dX7_takePlace_10 : decode cX7_takePlace 10 = .ok (.ldc 235, 2) := by decide +kernel
theorem dX7_takePlace_12 : decode cX7_takePlace 12 = .ok (.invokevirtual 61, 3) := by decide +kernel
theorem dX7_takePlace_15 : decode cX7_takePlace 15 = .ok (.ifCond .ne 11, 3) := by decide +kernel
theorem dX7_takePlace_18 : decode cX7_takePlace 18 = .ok (.aload_n 0, 1) := by decide +kernel
theorem dX7_takePlace_19 : decode cX7_takePlace 19 = .ok (.iconst 1, 1) := by decide +kernel
theorem dX7_takePlace_20 : decode cX7_takePlace 20 = .ok (.invokevirtual 88, 3) := by decide +kernel
theorem dX7_takePlace_23 : decode cX7_takePlace 23 = .ok (.pop, 1) := by decide +kernel
theorem dX7_takePlace_24 : decode cX7_takePlace 24 = .ok (.iconst 0, 1) := by decide +kernel
theorem dX7_takePlace_25 : decode cX7_takePlace 25 = .ok (.ireturn, 1) := by decide +kernel
theorem dX7_takePlace_26 : decode cX7_takePlace 26 = .ok (.aload_n 0, 1) := by decide +kernel
theorem dX7_takePlace_27 : decode cX7_takePlace 27 = .ok (.iconst 0, 1) := by decide +kernel
theorem dX7_takePlace_28 : decode cX7_takePlace 28 = .ok (.invokevirtual 159, 3) := by decide +kernel
theorem dX7_takePlace_31 : decode cX7_takePlace 31 = .ok (.istore_n 2, 1) := by decide +kernel
theorem dX7_takePlace_32 : decode cX7_takePlace 32 = .ok (.aload_n 0, 1) := by decide +kernel
theorem dX7_takePlace_33 : decode cX7_takePlace 33 = .ok (.getfield 45, 3) := by decide +kernel
theorem dX7_takePlace_36 : decode cX7_takePlace 36 = .ok (.ifCond .ne 16, 3) := by decide +kernel
theorem dX7_takePlace_39 : decode cX7_takePlace 39 = .ok (.aload_n 1, 1) := by decide +kernel
theorem dX7_takePlace_40 : decode cX7_takePlace 40 = .ok (.iload_n 2, 1) := by decide +kernel
theorem dX7_takePlace_41 : decode cX7_takePlace 41 = .ok (.iaload, 1) := by decide +kernel
theorem dX7_takePlace_42 : decode cX7_takePlace 42 = .ok (.iconst (-1), 1) := by decide +kernel
theorem dX7_takePlace_43 : decode cX7_takePlace 43 = .ok (.if_icmp .eq 9, 3) := by decide +kernel
theorem dX7_takePlace_46 : decode cX7_takePlace 46 = .ok (.aload_n 0, 1) := by decide +kernel
theorem dX7_takePlace_47 : decode cX7_takePlace 47 = .ok (.iconst 3, 1) := by decide +kernel
theorem dX7_takePlace_48 : decode cX7_takePlace 48 = .ok (.invokevirtual 88, 3) := by decide +kernel
theorem dX7_takePlace_51 : decode cX7_takePlace 51 = .ok (.pop, 1) := by decide +kernel
theorem dX7_takePlace_52 : decode cX7_takePlace 52 = .ok (.aload_n 0, 1) := by decide +kernel
theorem dX7_takePlace_53 : decode cX7_takePlace 53 = .ok (.getfield 45, 3) := by decide +kernel
theorem dX7_takePlace_56 : decode cX7_takePlace 56 = .ok (.ifCond .ne 7, 3) := by decide +kernel
theorem dX7_takePlace_59 : decode cX7_takePlace 59 = .ok (.aload_n 0, 1) := by decide +kernel
theorem dX7_takePlace_60 : decode cX7_takePlace 60 = .ok (.invokevirtual 56, 3) := by decide +kernel
theorem dX7_takePlace_63 : decode cX7_takePlace 63 = .ok (.iload_n 2, 1) := by decide +kernel
theorem dX7_takePlace_64 : decode cX7_takePlace 64 = .ok (.ireturn, 1) := by decide +kernel
theorem dX7_takeWhole_0 : decode cX7_takeWhole 0 = .ok (.aload_n 0, 1) := by decide +kernel
theorem dX7_takeWhole_1 : decode cX7_takeWhole 1 = .ok (.getfield 45, 3) := by decide +kernel
theorem dX7_takeWhole_4 : decode cX7_takeWhole 4 = .ok (.ifCond .eq 5, 3) := by decide +kernel
theorem dX7_takeWhole_7 : decode cX7_takeWhole 7 = .ok (.iconst 0, 1) := by decide +kernel
theorem dX7_takeWhole_8 : decode cX7_takeWhole 8 = .ok (.ireturn, 1) := by decide +kernel
theorem dX7_takeWhole_9 : decode cX7_takeWhole 9 = .ok (.aload_n 0, 1) := by decide +kernel
theorem dX7_takeWhole_10 : decode cX7_takeWhole 10 = .ok (.aload_n 1, 1) := by decide +kernel
theorem dX7_takeWhole_11 : decode cX7_takeWhole 11 = .ok (.invokevirtual 61, 3) := by decide +kernel
theorem dX7_takeWhole_14 : decode cX7_takeWhole 14 = .ok (.ifCond .eq 11, 3) := by decide +kernel
theorem dX7_takeWhole_17 : decode cX7_takeWhole 17 = .ok (.aload_n 0, 1) := by decide +kernel
theorem dX7_takeWhole_18 : decode cX7_takeWhole 18 = .ok (.getfield 92, 3) := by decide +kernel
theorem dX7_takeWhole_21 : decode cX7_takeWhole 21 = .ok (.iconst 2, 1) := by decide +kernel
theorem dX7_takeWhole_22 : decode cX7_takeWhole 22 = .ok (.if_icmp .eq 11, 3) := by decide +kernel
theorem dX7_takeWhole_25 : decode cX7_takeWhole 25 = .ok (.aload_n 0, 1) := by decide +kernel
theorem dX7_takeWhole_26 : decode cX7_takeWhole 26 = .ok (.iconst 1, 1) := by decide +kernel
theorem dX7_takeWhole_27 : decode cX7_takeWhole 27 = .ok (.invokevirtual 88, 3) := by decide +kernel
theorem dX7_takeWhole_30 : decode cX7_takeWhole 30 = .ok (.pop, 1) := by decide +kernel
theorem dX7_takeWhole_31 : decode cX7_takeWhole 31 = .ok (.iconst 0, 1) := by decide +kernel
theorem dX7_takeWhole_32 : decode cX7_takeWhole 32 = .ok (.ireturn, 1) := by decide +kernel
theorem dX7_takeWhole_33 : decode cX7_takeWhole 33 = .ok (.aload_n 0, 1) := by decide +kernel
theorem dX7_takeWhole_34 : decode cX7_takeWhole 34 = .ok (.getfield 215, 3) := by decide +kernel
theorem dX7_takeWhole_37 : decode cX7_takeWhole 37 = .ok (.l2i, 1) := by decide +kernel
theorem dX7_takeWhole_38 : decode cX7_takeWhole 38 = .ok (.istore 4, 2) := by decide +kernel
theorem dX7_takeWhole_40 : decode cX7_takeWhole 40 = .ok (.iload 4, 2) := by decide +kernel
theorem dX7_takeWhole_42 : decode cX7_takeWhole 42 = .ok (.iload_n 2, 1) := by decide +kernel
theorem dX7_takeWhole_43 : decode cX7_takeWhole 43 = .ok (.if_icmp .lt 9, 3) := by decide +kernel
theorem dX7_takeWhole_46 : decode cX7_takeWhole 46 = .ok (.iload 4, 2) := by decide +kernel
theorem dX7_takeWhole_48 : decode cX7_takeWhole 48 = .ok (.iload_n 3, 1) := by decide +kernel
theorem dX7_takeWhole_49 : decode cX7_takeWhole 49 = .ok (.if_icmp .le 12, 3) := by decide +kernel
theorem dX7_takeWhole_52 : decode cX7_takeWhole 52 = .ok (.aload_n 0, 1) := by decide +kernel
theorem dX7_takeWhole_53 : decode cX7_takeWhole 53 = .ok (.iconst 4, 1) := by decide +kernel
theorem dX7_takeWhole_54 : decode cX7_takeWhole 54 = .ok (.invokevirtual 88, 3) := by decide +kernel
theorem dX7_takeWhole_57 : decode cX7_takeWhole 57 = .ok (.pop, 1) := by decide +kernel
theorem dX7_takeWhole_58 : decode cX7_takeWhole 58 = .ok (.goto 7, 3) := by decide +kernel
theorem dX7_takeWhole_61 : decode cX7_takeWhole 61 = .ok (.aload_n 0, 1) := by decide +kernel
theorem dX7_takeWhole_62 : decode cX7_takeWhole 62 = .ok (.invokevirtual 56, 3) := by decide +kernel
theorem dX7_takeWhole_65 : decode cX7_takeWhole 65 = .ok (.iload 4, 2) := by decide +kernel
theorem dX7_takeWhole_67 : decode cX7_takeWhole 67 = .ok (.ireturn, 1) := by decide +kernel
